def LX4_follow_15 (b : Nat) (ko : Int32 → (Nat → Nat → Int32) → (Nat → Nat → Int32) → Option ((Nat → Nat → Int32) × (Nat → Nat → Int32) × (Nat → Int32) × (Nat → Int32))) : Nat → Int32 → (Nat → Nat → Int32) → (Nat → Nat → Int32) → Option ((Nat → Nat → Int32) × (Nat → Nat → Int32) × (Nat → Int32) × (Nat → Int32))
  | 0, _, _, _ => none
  | n + 1, x1, f2, f3 =>
    if 12 ≤ x1 then
      ko x1 f2 f3
    else
      wi (f2 b) 12 (x1) (0) fun f8 =>
      wi (f3 b) 12 (x1) (0) fun f11 =>
      lt (x1 + 1 : Int32) fun x14 =>
      LX4_follow_15 b ko n x14 (va_up f2 b f8) (va_up f3 b f11)
theorem LX4_follow_15_z (b : Nat) (ko : Int32 → (Nat → Nat → Int32) → (Nat → Nat → Int32) → Option ((Nat → Nat → Int32) × (Nat → Nat → Int32) × (Nat → Int32) × (Nat → Int32))) (x1 : Int32) (f2 : Nat → Nat → Int32) (f3 : Nat → Nat → Int32) : LX4_follow_15 b ko 0 x1 f2 f3 = none := rfl
theorem LX4_follow_15_s (b : Nat) (ko : Int32 → (Nat → Nat → Int32) → (Nat → Nat → Int32) → Option ((Nat → Nat → Int32) × (Nat → Nat → Int32) × (Nat → Int32) × (Nat → Int32))) (n : Nat) (x1 : Int32) (f2 : Nat → Nat → Int32) (f3 : Nat → Nat → Int32) : LX4_follow_15 b ko (n + 1) x1 f2 f3 =
    if 12 ≤ x1 then
      ko x1 f2 f3
    else
      wi (f2 b) 12 (x1) (0) fun f8 =>
      wi (f3 b) 12 (x1) (0) fun f11 =>
      lt (x1 + 1 : Int32) fun x14 =>
      LX4_follow_15 b ko n x14 (va_up f2 b f8) (va_up f3 b f11) := rfl
def LX4_follow_56 (b : Nat) (t_down : Nat → Int32) (t_min : Nat → Int32) (t_gone : Nat → Int32) (ko : Int32 → Int32 → Int32 → Int32 → (Nat → Nat → Int32) → (Nat → Nat → Int32) → Option ((Nat → Nat → Int32) × (Nat → Nat → Int32) × (Nat → Int32) × (Nat → Int32))) : Nat → Int32 → Int32 → Int32 → Int32 → (Nat → Nat → Int32) → (Nat → Nat → Int32) → Option ((Nat → Nat → Int32) × (Nat → Nat → Int32) × (Nat → Int32) × (Nat → Int32))
  | 0, _, _, _, _, _, _ => none
  | n + 1, x15, x16, x17, x18, f19, f20 =>
    if 12 ≤ x18 then
      ko x15 x16 x17 x18 f19 f20
    else
      if x17 < 0 then
        ko x15 x16 x17 x18 f19 f20
      else
        wi (f19 b) 12 (x17) (x15) fun f29 =>
        wi (f20 b) 12 (x17) (x16) fun f32 =>
        ri t_gone 12 (x17) fun x35 =>
        nz (100) <|
        lt (((x15 * (100 - x35)) / 100) : Int32) fun x38 =>
        ri t_min 12 (x17) fun x39 =>
        lt ((x16 + x39) : Int32) fun x41 =>
        ri t_down 12 (x17) fun x42 =>
        lt (x18 + 1 : Int32) fun x44 =>
        LX4_follow_56 b t_down t_min t_gone ko n x38 x41 x42 x44 (va_up f19 b f29) (va_up f20 b f32)
theorem LX4_follow_56_z (b : Nat) (t_down : Nat → Int32) (t_min : Nat → Int32) (t_gone : Nat → Int32) (ko : Int32 → Int32 → Int32 → Int32 → (Nat → Nat → Int32) → (Nat → Nat → Int32) → Option ((Nat → Nat → Int32) × (Nat → Nat → Int32) × (Nat → Int32) × (Nat → Int32))) (x15 : Int32) (x16 : Int32) (x17 : Int32) (x18 : Int32) (f19 : Nat → Nat → Int32) (f20 : Nat → Nat → Int32) : LX4_follow_56 b t_down t_min t_gone ko 0 x15 x16 x17 x18 f19 f20 = none := rfl
theorem LX4_follow_56_s (b : Nat) (t_down : Nat → Int32) (t_min : Nat → Int32) (t_gone : Nat → Int32) (ko : Int32 → Int32 → Int32 → Int32 → (Nat → Nat → Int32) → (Nat → Nat → Int32) → Option ((Nat → Nat → Int32) × (Nat → Nat → Int32) × (Nat → Int32) × (Nat → Int32))) (n : Nat) (x15 : Int32) (x16 : Int32) (x17 : Int32) (x18 : Int32) (f19 : Nat → Nat → Int32) (f20 : Nat → Nat → Int32) : LX4_follow_56 b t_down t_min t_gone ko (n + 1) x15 x16 x17 x18 f19 f20 =
    if 12 ≤ x18 then
      ko x15 x16 x17 x18 f19 f20
    else
      if x17 < 0 then
        ko x15 x16 x17 x18 f19 f20
      else
        wi (f19 b) 12 (x17) (x15) fun f29 =>
        wi (f20 b) 12 (x17) (x16) fun f32 =>
        ri t_gone 12 (x17) fun x35 =>
        nz (100) <|
        lt (((x15 * (100 - x35)) / 100) : Int32) fun x38 =>
        ri t_min 12 (x17) fun x39 =>
        lt ((x16 + x39) : Int32) fun x41 =>
        ri t_down 12 (x17) fun x42 =>
        lt (x18 + 1 : Int32) fun x44 =>
        LX4_follow_56 b t_down t_min t_gone ko n x38 x41 x42 x44 (va_up f19 b f29) (va_up f20 b f32) := rfl
def f_X4_follow (b : Nat) (p1 : Int32) (p2 : Int32) (p3 : Int32) (p4 : Int32) (t_down : Nat → Int32) (t_min : Nat → Int32) (t_gone : Nat → Int32) (sL : Nat → Nat → Int32) (sT : Nat → Nat → Int32) (sF : Nat → Int32) (sU : Nat → Int32) : Option ((Nat → Nat → Int32) × (Nat → Nat → Int32) × (Nat → Int32) × (Nat → Int32)) :=
  LX4_follow_15 b (fun x4 f5 f6 =>
    LX4_follow_56 b t_down t_min t_gone (fun x21 x22 x23 x24 f25 f26 =>
      some (f25, f26, (va_up sF b p3), (va_up sU b p4))) FU p2 0 p1 0 f5 f6) FU 0 sL sT
abbrev rmX4_follow : Room := { frames := 0, cells := 0, slots := 0, locals := 0 }
set_option maxHeartbeats 4000000 in
set_option maxRecDepth 100000 in
theorem c_X4_follow {l : Launch} {D : va_G} {g : Nat → ClassId} {N : Nat} {ad : Nat → Nat} {C : Nat → va_E} {sz : Nat} {t_there : Int32} {t_lift : Int32} {t_none : Int32} {t_down : Nat → Int32} {t_min : Nat → Int32} {t_gone : Nat → Int32} {sL : Nat → Nat → Int32} {sT : Nat → Nat → Int32} {sF : Nat → Int32} {sU : Nat → Int32} {b : Nat} {p1 : Int32} {p2 : Int32} {p3 : Int32} {p4 : Int32} {rr : (Nat → Nat → Int32) × (Nat → Nat → Int32) × (Nat → Int32) × (Nat → Int32)} (hN : 86 ≤ N) (hI : Inj N ad) (hb0 : isSB b) (h5 : C 5 = .inr (7, [.ref (ad 6), .ref (ad 7), .ref (ad 8), .ref (ad 9), .ref (ad 10), .ref (ad 11), .ref (ad 12), .ref (ad 13), .ref (ad 14), .ref (ad 15), .ref (ad 16), .ref (ad 17), .ref (ad 18), .int t_there, .int t_lift, .int t_none])) (h6 : C 6 = aI g 12 t_down) (h7 : C 7 = aI g 12 t_min) (h9 : C 9 = aI g 12 t_gone) (hS_ : PoolS g ad C sL sT sF sU) (hf : f_X4_follow b p1 p2 p3 p4 t_down t_min t_gone sL sT sF sU = some rr) : Met l yX4_follow wsX4_follow rmX4_follow (PcW D g N ad C sz [.ref (ad b), .ref (ad 5), .int p1, .int p2, .int p3, .int p4]) (QvW D N ad sz (fun C' => (∀ i : Nat, (i < 24 ∨ 64 < i ∨ i = 60 ∨ i = 61) → C' i = C i) ∧ (PoolS g ad C' rr.1 rr.2.1 rr.2.2.1 rr.2.2.2))) 0 0 (Aw N ad sz) := by
  refine Met.ofW (cc := cX4_follow) (maxL := 10) (ret := none) (by decide) rfl ?_
  intro p e s m args below meth c s₁ B hml hv
  obtain ⟨hav, hsz, hK, hP⟩ := hv
  subst hsz
  have hx := B.exec
  have hb := B.bytes
  have hr := B.returns
  have hts := atoms_spec (ws := wsX4_follow) B.pre
  have hown : s.vm.findClass RX4 = some m.cls := findClass_of_methodNamed B.named
  have hlocks := B.notSynchronized
  generalize hQ : MQ below (QvW D N ad s.heap.size (fun C' => (∀ i : Nat, (i < 24 ∨ 64 < i ∨ i = 60 ∨ i = 61) → C' i = C i) ∧ (PoolS g ad C' rr.1 rr.2.1 rr.2.2.1 rr.2.2.2))) args s 0 0 (Aw N ad s.heap.size) = QQ
  have hS : va_S (Aw N ad s.heap.size) s.heap s.heap [] := va_S.rf
  have hA : ∀ q, s.heap.size ≤ q → (Aw N ad s.heap.size) q := fun q h => Or.inr h
  have hAd : ∀ j : Nat, j < N → (Aw N ad s.heap.size) (ad j) := fun j h => Or.inl ⟨j, h, rfl⟩
  obtain ⟨C0, hC0⟩ : ∃ C0 : Nat → va_E, C0 = C := ⟨_, rfl⟩
  have hag : ∀ i : Nat, (i < 24 ∨ 64 < i ∨ i = 60 ∨ i = 61) → C i = C0 i := fun i _ => by rw [hC0]
  rw [← hC0] at hQ
  have k0 := hts (.fieldLink RX4 18 "UpDrain$Stream" "from" "I") (List.mem_of_getElem? (i := 1) rfl)
  have nX4 : ∀ w ∈ u_ws RX4 TX4 4, w ∈ wsX4_follow := fun _ h => List.mem_cons_of_mem _ (List.mem_append_left _ (List.mem_append_right _ h))
  have k2 := hts (.fieldLink RX4 22 "UpDrain$Stream" "until" "I") (List.mem_of_getElem? (i := 2) rfl)
  have k3 := hts (.fieldLink RX4 9 "UpDrain$Stream" "left" "[I") (List.mem_of_getElem? (i := 3) rfl)
  have k4 := hts (.fieldLink RX4 15 "UpDrain$Stream" "takes" "[I") (List.mem_of_getElem? (i := 4) rfl)
  have k5 := nf_13 (A := args) hK
  have nX7 : ∀ w ∈ u_ws RX7 TX7 16, w ∈ wsX4_follow := fun _ h => List.mem_cons_of_mem _ (List.mem_append_right _ h)
  have k7 := nf_8 (A := args) hK
  have k8 := nf_4 (A := args) hK
  have hE := lg_entry_eq m [.ref (ad b), .ref (ad 5), .int p1, .int p2, .int p3, .int p4] 10
  rw [← hav] at hE
  rw [hE]
  have hl := lv_entry [.ref (ad b), .ref (ad 5), .int p1, .int p2, .int p3, .int p4] (n := 10) (Nat.le_of_ble_eq_true rfl)
  generalize (lg_sl [.ref (ad b), .ref (ad 5), .int p1, .int p2, .int p3, .int p4] ++ List.replicate (10 - (lg_sl [.ref (ad b), .ref (ad 5), .int p1, .int p2, .int p3, .int p4]).length) Slot.unset).toArray = ls at hl ⊢
  have hl : lv_has ls 10 [(0, .ref (ad b)), (1, .ref (ad 5)), (2, .int p1), (3, .int p2), (4, .int p3), (5, .int p4)] := hl
  clear hE
  unfold f_X4_follow at hf
  suffices hgo : ∀ (H : Heap) (locs : List Loc), va_P D vwCl (wd N ad C) H → va_S (Aw N ad s.heap.size) s.heap H locs → W p l e (headSpec wsX4_follow rmX4_follow).room s m args below meth c H locs 0 0 QQ (F0 m 0 ls []) from hgo s.heap [] hP hS
  clear hS hP
  intro H locs hP hS
  refine lv_aload_n hx hb dX4_follow_0 rfl (lv_at hl 0 rfl) ?_
  refine lv_iload hx hb dX4_follow_1 (lv_at hl 4 rfl) ?_
  refine r_put (own := RX4) (T := TX4) (n := 4) (ci := 4) (v := .int p3) hx hb hts nX4 tyX4 tyX4_ok nmX4 hown hK hI hAd hP hS (isSB_0 hN hb0) (hS_ b hb0).1 rfl 2 (by decide) k0 rfl rfl rfl (Nat.le_of_ble_eq_true rfl) dX4_follow_3 (fun C H locs hP hS he hn => ?_)
  have hb_ := isSB_u hb0
  have hag : ∀ i : Nat, (i < 24 ∨ 64 < i ∨ i = 60 ∨ i = 61) → C i = C0 i := fun i h => (he i (by omega)).trans (hag i h)
  have h5 := (he 5 (by omega)).trans h5
  have h6 := (he 6 (by omega)).trans h6
  have h7 := (he 7 (by omega)).trans h7
  have h9 := (he 9 (by omega)).trans h9
  have hS_ := hS_.setF hb0 he hn
  refine lv_aload_n hx hb dX4_follow_6 rfl (lv_at hl 0 rfl) ?_
  refine lv_iload hx hb dX4_follow_7 (lv_at hl 5 rfl) ?_
  refine r_put (own := RX4) (T := TX4) (n := 4) (ci := 4) (v := .int p4) hx hb hts nX4 tyX4 tyX4_ok nmX4 hown hK hI hAd hP hS (isSB_0 hN hb0) (hS_ b hb0).1 rfl 3 (by decide) k2 rfl rfl rfl (Nat.le_of_ble_eq_true rfl) dX4_follow_9 (fun C H locs hP hS he hn => ?_)
  have hb_ := isSB_u hb0
  have hag : ∀ i : Nat, (i < 24 ∨ 64 < i ∨ i = 60 ∨ i = 61) → C i = C0 i := fun i h => (he i (by omega)).trans (hag i h)
  have h5 := (he 5 (by omega)).trans h5
  have h6 := (he 6 (by omega)).trans h6
  have h7 := (he 7 (by omega)).trans h7
  have h9 := (he 9 (by omega)).trans h9
  have hS_ := hS_.setU hb0 he hn
  refine lv_iconst (v := 0) hx hb dX4_follow_12 (by decide) ?_
  refine lv_istore (lv' := [(6, .int 0), (0, .ref (ad b)), (1, .ref (ad 5)), (2, .int p1), (3, .int p2), (4, .int p3), (5, .int p4)]) hx hb dX4_follow_13 hl (by decide) rfl (fun ls hl => ?_)
  have key15 : ∀ (ko : Int32 → (Nat → Nat → Int32) → (Nat → Nat → Int32) → Option ((Nat → Nat → Int32) × (Nat → Nat → Int32) × (Nat → Int32) × (Nat → Int32))), (∀ (x4 : Int32) (f5 : Nat → Nat → Int32) (f6 : Nat → Nat → Int32) (C : Nat → va_E) (H : Heap) (locs : List Loc) (ls : Array Slot), va_P D vwCl (wd N ad C) H → va_S (Aw N ad s.heap.size) s.heap H locs → (∀ i : Nat, (i < 24 ∨ 64 < i ∨ i = 60 ∨ i = 61) → C i = C0 i) → C 5 = .inr (7, [.ref (ad 6), .ref (ad 7), .ref (ad 8), .ref (ad 9), .ref (ad 10), .ref (ad 11), .ref (ad 12), .ref (ad 13), .ref (ad 14), .ref (ad 15), .ref (ad 16), .ref (ad 17), .ref (ad 18), .int t_there, .int t_lift, .int t_none]) → C 6 = aI g 12 t_down → C 7 = aI g 12 t_min → C 9 = aI g 12 t_gone → PoolS g ad C f5 f6 (va_up sF b p3) (va_up sU b p4) → lv_has ls 10 [(0, .ref (ad b)), (1, .ref (ad 5)), (2, .int p1), (3, .int p2), (4, .int p3), (5, .int p4), (6, .int x4)] → ko x4 f5 f6 = some rr → W p l e (headSpec wsX4_follow rmX4_follow).room s m args below meth c H locs 0 0 QQ (F0 m 44 ls [])) → ∀ (n : Nat) (x1 : Int32) (f2 : Nat → Nat → Int32) (f3 : Nat → Nat → Int32) (C : Nat → va_E) (H : Heap) (locs : List Loc) (ls : Array Slot), va_P D vwCl (wd N ad C) H → va_S (Aw N ad s.heap.size) s.heap H locs → (∀ i : Nat, (i < 24 ∨ 64 < i ∨ i = 60 ∨ i = 61) → C i = C0 i) → C 5 = .inr (7, [.ref (ad 6), .ref (ad 7), .ref (ad 8), .ref (ad 9), .ref (ad 10), .ref (ad 11), .ref (ad 12), .ref (ad 13), .ref (ad 14), .ref (ad 15), .ref (ad 16), .ref (ad 17), .ref (ad 18), .int t_there, .int t_lift, .int t_none]) → C 6 = aI g 12 t_down → C 7 = aI g 12 t_min → C 9 = aI g 12 t_gone → PoolS g ad C f2 f3 (va_up sF b p3) (va_up sU b p4) → lv_has ls 10 [(0, .ref (ad b)), (1, .ref (ad 5)), (2, .int p1), (3, .int p2), (4, .int p3), (5, .int p4), (6, .int x1)] → LX4_follow_15 b ko n x1 f2 f3 = some rr → W p l e (headSpec wsX4_follow rmX4_follow).room s m args below meth c H locs 0 0 QQ (F0 m 15 ls []) := by
    intro ko hko n
    induction n with
    | zero =>
      intro x1 f2 f3 C H locs ls hP hS hag h5 h6 h7 h9 hS_ hl hf
      rw [LX4_follow_15_z] at hf
      cases hf
    | succ n ih =>
      intro x1 f2 f3 C H locs ls hP hS hag h5 h6 h7 h9 hS_ hl hf
      rw [LX4_follow_15_s] at hf
      refine lv_iload hx hb dX4_follow_15 (lv_at hl 6 rfl) ?_
      refine lv_bipush (v := 12) hx hb dX4_follow_17 (by decide) ?_
      refine lv_icmp_ge (tgt := 44) hx hb dX4_follow_19 (by decide) (fun c7 => ?_) (fun c7 => ?_)
      · have hf := it_e c7 hf
        exact hko x1 f2 f3 C H locs ls hP hS hag h5 h6 h7 h9 hS_ (lv_sub hl [0, 1, 2, 3, 4, 5, 6] rfl) hf
      · have hf := ie_e c7 hf
        refine lv_aload_n hx hb dX4_follow_22 rfl (lv_at hl 0 rfl) ?_
        refine r_get (own := RX4) (T := TX4) (n := 4) (ci := 4) (v := .ref (ad (b + 1))) hx hb hts nX4 hown hK hP (isSB_0 hN hb0) (hS_ b hb0).1 rfl 0 (by decide) k3 rfl dX4_follow_23 ?_
        refine lv_iload hx hb dX4_follow_26 (lv_at hl 6 rfl) ?_
        refine lv_iconst (v := 0) hx hb dX4_follow_28 (by decide) ?_
        obtain ⟨i9, f8, ef8, hf⟩ := wi_e hf
        refine r_iast hx hb hK hI hAd hP hS (isSB_1 hN hb0) (hS_ b hb0).2.1 i9 dX4_follow_29 ef8 (fun C H locs hP hS he hn => ?_)
        have hb_ := isSB_u hb0
        have hag : ∀ i : Nat, (i < 24 ∨ 64 < i ∨ i = 60 ∨ i = 61) → C i = C0 i := fun i h => (he i (by omega)).trans (hag i h)
        have h5 := (he 5 (by omega)).trans h5
        have h6 := (he 6 (by omega)).trans h6
        have h7 := (he 7 (by omega)).trans h7
        have h9 := (he 9 (by omega)).trans h9
        have hS_ := hS_.setL hb0 he hn
        refine lv_aload_n hx hb dX4_follow_30 rfl (lv_at hl 0 rfl) ?_
        refine r_get (own := RX4) (T := TX4) (n := 4) (ci := 4) (v := .ref (ad (b + 2))) hx hb hts nX4 hown hK hP (isSB_0 hN hb0) (hS_ b hb0).1 rfl 1 (by decide) k4 rfl dX4_follow_31 ?_
        refine lv_iload hx hb dX4_follow_34 (lv_at hl 6 rfl) ?_
        refine lv_iconst (v := 0) hx hb dX4_follow_36 (by decide) ?_
        obtain ⟨i12, f11, ef11, hf⟩ := wi_e hf
        refine r_iast hx hb hK hI hAd hP hS (isSB_2 hN hb0) (hS_ b hb0).2.2 i12 dX4_follow_37 ef11 (fun C H locs hP hS he hn => ?_)
        have hb_ := isSB_u hb0
        have hag : ∀ i : Nat, (i < 24 ∨ 64 < i ∨ i = 60 ∨ i = 61) → C i = C0 i := fun i h => (he i (by omega)).trans (hag i h)
        have h5 := (he 5 (by omega)).trans h5
        have h6 := (he 6 (by omega)).trans h6
        have h7 := (he 7 (by omega)).trans h7
        have h9 := (he 9 (by omega)).trans h9
        have hS_ := hS_.setT hb0 he hn
        obtain ⟨x14, ex14, hf⟩ := lt_e hf
        refine lv_iinc (v := x14) (lv' := [(6, .int x14), (0, .ref (ad b)), (1, .ref (ad 5)), (2, .int p1), (3, .int p2), (4, .int p3), (5, .int p4)]) hx hb dX4_follow_38 hl (k := 6) rfl (by rw [ex14]; rfl) (by decide) rfl (fun ls hl => ?_)
        refine lv_goto (tgt := 15) hx hb dX4_follow_41 (by decide) ?_
        exact ih x14 (va_up f2 b f8) (va_up f3 b f11) C H locs ls hP hS hag h5 h6 h7 h9 hS_ (lv_sub hl [1, 2, 3, 4, 5, 6, 0] rfl) hf
  refine key15 _ (fun x4 f5 f6 C H locs ls hP hS hag h5 h6 h7 h9 hS_ hl hf => ?_) FU 0 sL sT C H locs ls hP hS hag h5 h6 h7 h9 hS_ (lv_sub hl [1, 2, 3, 4, 5, 6, 0] rfl) hf
  refine lv_iload_n hx hb dX4_follow_44 rfl (lv_at hl 3 rfl) ?_
  refine lv_istore (lv' := [(6, .int p2), (0, .ref (ad b)), (1, .ref (ad 5)), (2, .int p1), (3, .int p2), (4, .int p3), (5, .int p4)]) hx hb dX4_follow_45 hl (by decide) rfl (fun ls hl => ?_)
  refine lv_iconst (v := 0) hx hb dX4_follow_47 (by decide) ?_
  refine lv_istore (lv' := [(7, .int 0), (6, .int p2), (0, .ref (ad b)), (1, .ref (ad 5)), (2, .int p1), (3, .int p2), (4, .int p3), (5, .int p4)]) hx hb dX4_follow_48 hl (by decide) rfl (fun ls hl => ?_)
  refine lv_iload_n hx hb dX4_follow_50 rfl (lv_at hl 4 rfl) ?_
  refine lv_istore (lv' := [(8, .int p1), (7, .int 0), (6, .int p2), (0, .ref (ad b)), (1, .ref (ad 5)), (2, .int p1), (3, .int p2), (4, .int p3), (5, .int p4)]) hx hb dX4_follow_51 hl (by decide) rfl (fun ls hl => ?_)
  refine lv_iconst (v := 0) hx hb dX4_follow_53 (by decide) ?_
  refine lv_istore (lv' := [(9, .int 0), (8, .int p1), (7, .int 0), (6, .int p2), (0, .ref (ad b)), (1, .ref (ad 5)), (2, .int p1), (3, .int p2), (4, .int p3), (5, .int p4)]) hx hb dX4_follow_54 hl (by decide) rfl (fun ls hl => ?_)
  have key56 : ∀ (ko : Int32 → Int32 → Int32 → Int32 → (Nat → Nat → Int32) → (Nat → Nat → Int32) → Option ((Nat → Nat → Int32) × (Nat → Nat → Int32) × (Nat → Int32) × (Nat → Int32))), (∀ (x21 : Int32) (x22 : Int32) (x23 : Int32) (x24 : Int32) (f25 : Nat → Nat → Int32) (f26 : Nat → Nat → Int32) (C : Nat → va_E) (H : Heap) (locs : List Loc) (ls : Array Slot), va_P D vwCl (wd N ad C) H → va_S (Aw N ad s.heap.size) s.heap H locs → (∀ i : Nat, (i < 24 ∨ 64 < i ∨ i = 60 ∨ i = 61) → C i = C0 i) → C 5 = .inr (7, [.ref (ad 6), .ref (ad 7), .ref (ad 8), .ref (ad 9), .ref (ad 10), .ref (ad 11), .ref (ad 12), .ref (ad 13), .ref (ad 14), .ref (ad 15), .ref (ad 16), .ref (ad 17), .ref (ad 18), .int t_there, .int t_lift, .int t_none]) → C 6 = aI g 12 t_down → C 7 = aI g 12 t_min → C 9 = aI g 12 t_gone → PoolS g ad C f25 f26 (va_up sF b p3) (va_up sU b p4) → lv_has ls 10 [(0, .ref (ad b)), (1, .ref (ad 5)), (2, .int p1), (3, .int p2), (4, .int p3), (5, .int p4), (6, .int x21), (7, .int x22), (8, .int x23), (9, .int x24)] → ko x21 x22 x23 x24 f25 f26 = some rr → W p l e (headSpec wsX4_follow rmX4_follow).room s m args below meth c H locs 0 0 QQ (F0 m 131 ls [])) → ∀ (n : Nat) (x15 : Int32) (x16 : Int32) (x17 : Int32) (x18 : Int32) (f19 : Nat → Nat → Int32) (f20 : Nat → Nat → Int32) (C : Nat → va_E) (H : Heap) (locs : List Loc) (ls : Array Slot), va_P D vwCl (wd N ad C) H → va_S (Aw N ad s.heap.size) s.heap H locs → (∀ i : Nat, (i < 24 ∨ 64 < i ∨ i = 60 ∨ i = 61) → C i = C0 i) → C 5 = .inr (7, [.ref (ad 6), .ref (ad 7), .ref (ad 8), .ref (ad 9), .ref (ad 10), .ref (ad 11), .ref (ad 12), .ref (ad 13), .ref (ad 14), .ref (ad 15), .ref (ad 16), .ref (ad 17), .ref (ad 18), .int t_there, .int t_lift, .int t_none]) → C 6 = aI g 12 t_down → C 7 = aI g 12 t_min → C 9 = aI g 12 t_gone → PoolS g ad C f19 f20 (va_up sF b p3) (va_up sU b p4) → lv_has ls 10 [(0, .ref (ad b)), (1, .ref (ad 5)), (2, .int p1), (3, .int p2), (4, .int p3), (5, .int p4), (6, .int x15), (7, .int x16), (8, .int x17), (9, .int x18)] → LX4_follow_56 b t_down t_min t_gone ko n x15 x16 x17 x18 f19 f20 = some rr → W p l e (headSpec wsX4_follow rmX4_follow).room s m args below meth c H locs 0 0 QQ (F0 m 56 ls []) := by
    intro ko hko n
    induction n with
    | zero =>
      intro x15 x16 x17 x18 f19 f20 C H locs ls hP hS hag h5 h6 h7 h9 hS_ hl hf
      rw [LX4_follow_56_z] at hf
      cases hf
    | succ n ih =>
      intro x15 x16 x17 x18 f19 f20 C H locs ls hP hS hag h5 h6 h7 h9 hS_ hl hf
      rw [LX4_follow_56_s] at hf
      refine lv_iload hx hb dX4_follow_56 (lv_at hl 9 rfl) ?_
      refine lv_bipush (v := 12) hx hb dX4_follow_58 (by decide) ?_
      refine lv_icmp_ge (tgt := 131) hx hb dX4_follow_60 (by decide) (fun c27 => ?_) (fun c27 => ?_)
      · have hf := it_e c27 hf
        exact hko x15 x16 x17 x18 f19 f20 C H locs ls hP hS hag h5 h6 h7 h9 hS_ (lv_sub hl [0, 1, 2, 3, 4, 5, 6, 7, 8, 9] rfl) hf
      · have hf := ie_e c27 hf
        refine lv_iload hx hb dX4_follow_63 (lv_at hl 8 rfl) ?_
        refine lv_if_lt (tgt := 131) hx hb dX4_follow_65 (by decide) (fun c28 => ?_) (fun c28 => ?_)
        · have hf := it_e c28 hf
          exact hko x15 x16 x17 x18 f19 f20 C H locs ls hP hS hag h5 h6 h7 h9 hS_ (lv_sub hl [0, 1, 2, 3, 4, 5, 6, 7, 8, 9] rfl) hf
        · have hf := ie_e c28 hf
          refine lv_aload_n hx hb dX4_follow_68 rfl (lv_at hl 0 rfl) ?_
          refine r_get (own := RX4) (T := TX4) (n := 4) (ci := 4) (v := .ref (ad (b + 1))) hx hb hts nX4 hown hK hP (isSB_0 hN hb0) (hS_ b hb0).1 rfl 0 (by decide) k3 rfl dX4_follow_69 ?_
          refine lv_iload hx hb dX4_follow_72 (lv_at hl 8 rfl) ?_
          refine lv_iload hx hb dX4_follow_74 (lv_at hl 6 rfl) ?_
          obtain ⟨i30, f29, ef29, hf⟩ := wi_e hf
          refine r_iast hx hb hK hI hAd hP hS (isSB_1 hN hb0) (hS_ b hb0).2.1 i30 dX4_follow_76 ef29 (fun C H locs hP hS he hn => ?_)
          have hb_ := isSB_u hb0
          have hag : ∀ i : Nat, (i < 24 ∨ 64 < i ∨ i = 60 ∨ i = 61) → C i = C0 i := fun i h => (he i (by omega)).trans (hag i h)
          have h5 := (he 5 (by omega)).trans h5
          have h6 := (he 6 (by omega)).trans h6
          have h7 := (he 7 (by omega)).trans h7
          have h9 := (he 9 (by omega)).trans h9
          have hS_ := hS_.setL hb0 he hn
          refine lv_aload_n hx hb dX4_follow_77 rfl (lv_at hl 0 rfl) ?_
          refine r_get (own := RX4) (T := TX4) (n := 4) (ci := 4) (v := .ref (ad (b + 2))) hx hb hts nX4 hown hK hP (isSB_0 hN hb0) (hS_ b hb0).1 rfl 1 (by decide) k4 rfl dX4_follow_78 ?_
          refine lv_iload hx hb dX4_follow_81 (lv_at hl 8 rfl) ?_
          refine lv_iload hx hb dX4_follow_83 (lv_at hl 7 rfl) ?_
          obtain ⟨i33, f32, ef32, hf⟩ := wi_e hf
          refine r_iast hx hb hK hI hAd hP hS (isSB_2 hN hb0) (hS_ b hb0).2.2 i33 dX4_follow_85 ef32 (fun C H locs hP hS he hn => ?_)
          have hb_ := isSB_u hb0
          have hag : ∀ i : Nat, (i < 24 ∨ 64 < i ∨ i = 60 ∨ i = 61) → C i = C0 i := fun i h => (he i (by omega)).trans (hag i h)
          have h5 := (he 5 (by omega)).trans h5
          have h6 := (he 6 (by omega)).trans h6
          have h7 := (he 7 (by omega)).trans h7
          have h9 := (he 9 (by omega)).trans h9
          have hS_ := hS_.setT hb0 he hn
          refine lv_iload hx hb dX4_follow_86 (lv_at hl 6 rfl) ?_
          refine lv_bipush (v := 100) hx hb dX4_follow_88 (by decide) ?_
          refine lv_aload_n hx hb dX4_follow_90 rfl (lv_at hl 1 rfl) ?_
          refine r_getN (own := RX4) (T := TX7) (n := 16) (ci := 7) (v := .ref (ad 9)) hx hb hts nX7 hown hK hP (by omega) h5 rfl 3 (by decide) k5 rfl dX4_follow_91 ?_
          refine lv_iload hx hb dX4_follow_94 (lv_at hl 8 rfl) ?_
          obtain ⟨i36, x35, ex35, hf⟩ := ri_e hf
          refine r_iald hx hb hK hP (by omega) h9 i36 dX4_follow_96 ex35 ?_
          refine lv_isub hx hb dX4_follow_97 ?_
          refine lv_imul hx hb dX4_follow_98 ?_
          refine lv_bipush (v := 100) hx hb dX4_follow_99 (by decide) ?_
          obtain ⟨z37, hf⟩ := nz_e hf
          refine lv_idiv hx hb dX4_follow_101 z37 ?_
          obtain ⟨x38, ex38, hf⟩ := lt_e hf
          refine tp_i ex38 ?_
          refine lv_istore (lv' := [(6, .int x38), (0, .ref (ad b)), (1, .ref (ad 5)), (2, .int p1), (3, .int p2), (4, .int p3), (5, .int p4), (7, .int x16), (8, .int x17), (9, .int x18)]) hx hb dX4_follow_102 hl (by decide) rfl (fun ls hl => ?_)
          refine lv_iload hx hb dX4_follow_104 (lv_at hl 7 rfl) ?_
          refine lv_aload_n hx hb dX4_follow_106 rfl (lv_at hl 2 rfl) ?_
          refine r_getN (own := RX4) (T := TX7) (n := 16) (ci := 7) (v := .ref (ad 7)) hx hb hts nX7 hown hK hP (by omega) h5 rfl 1 (by decide) k7 rfl dX4_follow_107 ?_
          refine lv_iload hx hb dX4_follow_110 (lv_at hl 8 rfl) ?_
          obtain ⟨i40, x39, ex39, hf⟩ := ri_e hf
          refine r_iald hx hb hK hP (by omega) h7 i40 dX4_follow_112 ex39 ?_
          refine lv_iadd hx hb dX4_follow_113 ?_
          obtain ⟨x41, ex41, hf⟩ := lt_e hf
          refine tp_i ex41 ?_
          refine lv_istore (lv' := [(7, .int x41), (6, .int x38), (0, .ref (ad b)), (1, .ref (ad 5)), (2, .int p1), (3, .int p2), (4, .int p3), (5, .int p4), (8, .int x17), (9, .int x18)]) hx hb dX4_follow_114 hl (by decide) rfl (fun ls hl => ?_)
          refine lv_aload_n hx hb dX4_follow_116 rfl (lv_at hl 3 rfl) ?_
          refine r_getN (own := RX4) (T := TX7) (n := 16) (ci := 7) (v := .ref (ad 6)) hx hb hts nX7 hown hK hP (by omega) h5 rfl 0 (by decide) k8 rfl dX4_follow_117 ?_
          refine lv_iload hx hb dX4_follow_120 (lv_at hl 8 rfl) ?_
          obtain ⟨i43, x42, ex42, hf⟩ := ri_e hf
          refine r_iald hx hb hK hP (by omega) h6 i43 dX4_follow_122 ex42 ?_
          refine lv_istore (lv' := [(8, .int x42), (7, .int x41), (6, .int x38), (0, .ref (ad b)), (1, .ref (ad 5)), (2, .int p1), (3, .int p2), (4, .int p3), (5, .int p4), (9, .int x18)]) hx hb dX4_follow_123 hl (by decide) rfl (fun ls hl => ?_)
          obtain ⟨x44, ex44, hf⟩ := lt_e hf
          refine lv_iinc (v := x44) (lv' := [(9, .int x44), (8, .int x42), (7, .int x41), (6, .int x38), (0, .ref (ad b)), (1, .ref (ad 5)), (2, .int p1), (3, .int p2), (4, .int p3), (5, .int p4)]) hx hb dX4_follow_125 hl (k := 9) rfl (by rw [ex44]; rfl) (by decide) rfl (fun ls hl => ?_)
          refine lv_goto (tgt := 56) hx hb dX4_follow_128 (by decide) ?_
          exact ih x38 x41 x42 x44 (va_up f19 b f29) (va_up f20 b f32) C H locs ls hP hS hag h5 h6 h7 h9 hS_ (lv_sub hl [4, 5, 6, 7, 8, 9, 3, 2, 1, 0] rfl) hf
  refine key56 _ (fun x21 x22 x23 x24 f25 f26 C H locs ls hP hS hag h5 h6 h7 h9 hS_ hl hf => ?_) FU p2 0 p1 0 f5 f6 C H locs ls hP hS hag h5 h6 h7 h9 hS_ (lv_sub hl [4, 5, 6, 7, 8, 9, 3, 2, 1, 0] rfl) hf
  obtain rfl := Option.some.inj hf
  rw [← hQ]
  exact e_vW hx hb hr hP hS ⟨hag, hS_⟩ hlocks dX4_follow_131

def f_X4_amountAt (b : Nat) (p0 : Int32) (p1 : Int32) (sL : Nat → Nat → Int32) (sT : Nat → Nat → Int32) (sF : Nat → Int32) (sU : Nat → Int32) : Option (Int32) :=
  ri (sT b) 12 (p0) fun x1 =>
  lt ((p1 - x1) : Int32) fun x3 =>
  if x3 < ((sF b) * 60) then
    some (0)
  else
    if x3 < (((sU b) + 1) * 60) then
      ri (sL b) 12 (p0) fun x6 =>
      some (x6)
    else
      some (0)
abbrev rmX4_amountAt : Room := { frames := 0, cells := 0, slots := 0, locals := 0 }
set_option maxHeartbeats 4000000 in
set_option maxRecDepth 100000 in
theorem c_X4_amountAt {l : Launch} {D : va_G} {g : Nat → ClassId} {N : Nat} {ad : Nat → Nat} {C : Nat → va_E} {sz : Nat} {sL : Nat → Nat → Int32} {sT : Nat → Nat → Int32} {sF : Nat → Int32} {sU : Nat → Int32} {b : Nat} {p0 : Int32} {p1 : Int32} {rr : Int32} (hN : 86 ≤ N) (hb0 : isSB b) (hS_ : PoolS g ad C sL sT sF sU) (hf : f_X4_amountAt b p0 p1 sL sT sF sU = some rr) : Met l yX4_amountAt wsX4_amountAt rmX4_amountAt (PcW D g N ad C sz [.ref (ad b), .int p0, .int p1]) (QiR sz tP rr) 0 0 (An sz) := by
  refine Met.ofW (cc := cX4_amountAt) (maxL := 4) (ret := (some .int)) (by decide) rfl ?_
  intro p e s m args below meth c s₁ B hml hv
  obtain ⟨hav, hsz, hK, hP⟩ := hv
  subst hsz
  have hx := B.exec
  have hb := B.bytes
  have hr := B.returns
  have hts := atoms_spec (ws := wsX4_amountAt) B.pre
  have hown : s.vm.findClass RX4 = some m.cls := findClass_of_methodNamed B.named
  have hlocks := B.notSynchronized
  generalize hQ : MQ below (QiR s.heap.size tP rr) args s 0 0 (An s.heap.size) = QQ
  have hS : va_S (An s.heap.size) s.heap s.heap [] := va_S.rf
  have hA : ∀ q, s.heap.size ≤ q → (An s.heap.size) q := fun q h => h
  have k0 := hts (.fieldLink RX4 15 "UpDrain$Stream" "takes" "[I") (List.mem_of_getElem? (i := 1) rfl)
  have nX4 : ∀ w ∈ u_ws RX4 TX4 4, w ∈ wsX4_amountAt := fun _ h => List.mem_cons_of_mem _ (List.mem_append_right _ h)
  have k2 := hts (.fieldLink RX4 18 "UpDrain$Stream" "from" "I") (List.mem_of_getElem? (i := 2) rfl)
  have k3 := hts (.fieldLink RX4 22 "UpDrain$Stream" "until" "I") (List.mem_of_getElem? (i := 3) rfl)
  have k4 := hts (.fieldLink RX4 9 "UpDrain$Stream" "left" "[I") (List.mem_of_getElem? (i := 4) rfl)
  have hE := lg_entry_eq m [.ref (ad b), .int p0, .int p1] 4
  rw [← hav] at hE
  rw [hE]
  have hl := lv_entry [.ref (ad b), .int p0, .int p1] (n := 4) (Nat.le_of_ble_eq_true rfl)
  generalize (lg_sl [.ref (ad b), .int p0, .int p1] ++ List.replicate (4 - (lg_sl [.ref (ad b), .int p0, .int p1]).length) Slot.unset).toArray = ls at hl ⊢
  have hl : lv_has ls 4 [(0, .ref (ad b)), (1, .int p0), (2, .int p1)] := hl
  clear hE
  unfold f_X4_amountAt at hf
  suffices hgo : ∀ (H : Heap) (locs : List Loc), va_P D vwCl (wd N ad C) H → va_S (An s.heap.size) s.heap H locs → W p l e (headSpec wsX4_amountAt rmX4_amountAt).room s m args below meth c H locs 0 0 QQ (F0 m 0 ls []) from hgo s.heap [] hP hS
  clear hS hP
  intro H locs hP hS
  refine lv_iload_n hx hb dX4_amountAt_0 rfl (lv_at hl 2 rfl) ?_
  refine lv_aload_n hx hb dX4_amountAt_1 rfl (lv_at hl 0 rfl) ?_
  refine r_get (own := RX4) (T := TX4) (n := 4) (ci := 4) (v := .ref (ad (b + 2))) hx hb hts nX4 hown hK hP (isSB_0 hN hb0) (hS_ b hb0).1 rfl 1 (by decide) k0 rfl dX4_amountAt_2 ?_
  refine lv_iload_n hx hb dX4_amountAt_5 rfl (lv_at hl 1 rfl) ?_
  obtain ⟨i2, x1, ex1, hf⟩ := ri_e hf
  refine r_iald hx hb hK hP (isSB_2 hN hb0) (hS_ b hb0).2.2 i2 dX4_amountAt_6 ex1 ?_
  refine lv_isub hx hb dX4_amountAt_7 ?_
  obtain ⟨x3, ex3, hf⟩ := lt_e hf
  refine tp_i ex3 ?_
  refine lv_istore_n (lv' := [(3, .int x3), (0, .ref (ad b)), (1, .int p0), (2, .int p1)]) hx hb dX4_amountAt_8 rfl hl (by decide) rfl (fun ls hl => ?_)
  refine lv_iload_n hx hb dX4_amountAt_9 rfl (lv_at hl 0 rfl) ?_
  refine lv_aload_n hx hb dX4_amountAt_10 rfl (lv_at hl 1 rfl) ?_
  refine r_get (own := RX4) (T := TX4) (n := 4) (ci := 4) (v := .int (sF b)) hx hb hts nX4 hown hK hP (isSB_0 hN hb0) (hS_ b hb0).1 rfl 2 (by decide) k2 rfl dX4_amountAt_11 ?_
  refine lv_bipush (v := 60) hx hb dX4_amountAt_14 (by decide) ?_
  refine lv_imul hx hb dX4_amountAt_16 ?_
  refine lv_icmp_lt (tgt := 33) hx hb dX4_amountAt_17 (by decide) (fun c4 => ?_) (fun c4 => ?_)
  · have hf := it_e c4 hf
    refine lv_iconst (v := 0) hx hb dX4_amountAt_33 (by decide) ?_
    obtain rfl := Option.some.inj hf
    rw [← hQ]
    exact e_iR hx hb hr rfl (tP_i _) hS hlocks dX4_amountAt_34
  · have hf := ie_e c4 hf
    refine lv_iload_n hx hb dX4_amountAt_20 rfl (lv_at hl 0 rfl) ?_
    refine lv_aload_n hx hb dX4_amountAt_21 rfl (lv_at hl 1 rfl) ?_
    refine r_get (own := RX4) (T := TX4) (n := 4) (ci := 4) (v := .int (sU b)) hx hb hts nX4 hown hK hP (isSB_0 hN hb0) (hS_ b hb0).1 rfl 3 (by decide) k3 rfl dX4_amountAt_22 ?_
    refine lv_iconst (v := 1) hx hb dX4_amountAt_25 (by decide) ?_
    refine lv_iadd hx hb dX4_amountAt_26 ?_
    refine lv_bipush (v := 60) hx hb dX4_amountAt_27 (by decide) ?_
    refine lv_imul hx hb dX4_amountAt_29 ?_
    refine lv_icmp_lt (tgt := 35) hx hb dX4_amountAt_30 (by decide) (fun c5 => ?_) (fun c5 => ?_)
    · have hf := it_e c5 hf
      refine lv_aload_n hx hb dX4_amountAt_35 rfl (lv_at hl 1 rfl) ?_
      refine r_get (own := RX4) (T := TX4) (n := 4) (ci := 4) (v := .ref (ad (b + 1))) hx hb hts nX4 hown hK hP (isSB_0 hN hb0) (hS_ b hb0).1 rfl 0 (by decide) k4 rfl dX4_amountAt_36 ?_
      refine lv_iload_n hx hb dX4_amountAt_39 rfl (lv_at hl 2 rfl) ?_
      obtain ⟨i7, x6, ex6, hf⟩ := ri_e hf
      refine r_iald hx hb hK hP (isSB_1 hN hb0) (hS_ b hb0).2.1 i7 dX4_amountAt_40 ex6 ?_
      obtain rfl := Option.some.inj hf
      rw [← hQ]
      exact e_iR hx hb hr rfl (tP_i _) hS hlocks dX4_amountAt_41
    · have hf := ie_e c5 hf
      refine lv_iconst (v := 0) hx hb dX4_amountAt_33 (by decide) ?_
      obtain rfl := Option.some.inj hf
      rw [← hQ]
      exact e_iR hx hb hr rfl (tP_i _) hS hlocks dX4_amountAt_34

def f_X1_put (b : Nat) (p0 : Int32) (p1 : Int32) (p2 : Int32) (p3 : Int32) (p4 : Int32) (fC : Nat → Int32) (fS : Nat → Int32) (fM : Nat → Int32) (fT : Nat → Int32) (fY : Nat → Int32) : Option ((Nat → Int32) × (Nat → Int32) × (Nat → Int32) × (Nat → Int32) × (Nat → Int32)) :=
  some ((va_up fC b p0), (va_up fS b p1), (va_up fM b p2), (va_up fT b p3), (va_up fY b p4))
abbrev rmX1_put : Room := { frames := 0, cells := 0, slots := 0, locals := 0 }
set_option maxHeartbeats 4000000 in
set_option maxRecDepth 100000 in
theorem c_X1_put {l : Launch} {D : va_G} {g : Nat → ClassId} {N : Nat} {ad : Nat → Nat} {C : Nat → va_E} {sz : Nat} {fC : Nat → Int32} {fS : Nat → Int32} {fM : Nat → Int32} {fT : Nat → Int32} {fY : Nat → Int32} {b : Nat} {p0 : Int32} {p1 : Int32} {p2 : Int32} {p3 : Int32} {p4 : Int32} {rr : (Nat → Int32) × (Nat → Int32) × (Nat → Int32) × (Nat → Int32) × (Nat → Int32)} (hN : 86 ≤ N) (hI : Inj N ad) (hbz_p4 : bz p4) (hb0 : isFB b) (hF_ : PoolF C fC fS fM fT fY) (hf : f_X1_put b p0 p1 p2 p3 p4 fC fS fM fT fY = some rr) : Met l yX1_put wsX1_put rmX1_put (PcW D g N ad C sz [.ref (ad b), .int p0, .int p1, .int p2, .int p3, .int p4]) (QvW D N ad sz (fun C' => (∀ i : Nat, (i < 67 ∨ 76 < i) ∧ i ≠ 85 → C' i = C i) ∧ (PoolF C' rr.1 rr.2.1 rr.2.2.1 rr.2.2.2.1 rr.2.2.2.2))) 0 0 (Aw N ad sz) := by
  refine Met.ofW (cc := cX1_put) (maxL := 6) (ret := none) (by decide) rfl ?_
  intro p e s m args below meth c s₁ B hml hv
  obtain ⟨hav, hsz, hK, hP⟩ := hv
  subst hsz
  have hx := B.exec
  have hb := B.bytes
  have hr := B.returns
  have hts := atoms_spec (ws := wsX1_put) B.pre
  have hown : s.vm.findClass RX1 = some m.cls := findClass_of_methodNamed B.named
  have hlocks := B.notSynchronized
  generalize hQ : MQ below (QvW D N ad s.heap.size (fun C' => (∀ i : Nat, (i < 67 ∨ 76 < i) ∧ i ≠ 85 → C' i = C i) ∧ (PoolF C' rr.1 rr.2.1 rr.2.2.1 rr.2.2.2.1 rr.2.2.2.2))) args s 0 0 (Aw N ad s.heap.size) = QQ
  have hS : va_S (Aw N ad s.heap.size) s.heap s.heap [] := va_S.rf
  have hA : ∀ q, s.heap.size ≤ q → (Aw N ad s.heap.size) q := fun q h => Or.inr h
  have hAd : ∀ j : Nat, j < N → (Aw N ad s.heap.size) (ad j) := fun j h => Or.inl ⟨j, h, rfl⟩
  obtain ⟨C0, hC0⟩ : ∃ C0 : Nat → va_E, C0 = C := ⟨_, rfl⟩
  have hag : ∀ i : Nat, (i < 67 ∨ 76 < i) ∧ i ≠ 85 → C i = C0 i := fun i _ => by rw [hC0]
  rw [← hC0] at hQ
  have k0 := hts (.fieldLink RX1 7 "UpDrain$Filling" "cup" "I") (List.mem_of_getElem? (i := 1) rfl)
  have nX1 : ∀ w ∈ u_ws RX1 TX1 5, w ∈ wsX1_put := fun _ h => List.mem_cons_of_mem _ (List.mem_append_right _ h)
  have k2 := hts (.fieldLink RX1 13 "UpDrain$Filling" "set" "I") (List.mem_of_getElem? (i := 2) rfl)
  have k3 := hts (.fieldLink RX1 16 "UpDrain$Filling" "minute" "I") (List.mem_of_getElem? (i := 3) rfl)
  have k4 := hts (.fieldLink RX1 19 "UpDrain$Filling" "times" "I") (List.mem_of_getElem? (i := 4) rfl)
  have k5 := hts (.fieldLink RX1 22 "UpDrain$Filling" "yes" "Z") (List.mem_of_getElem? (i := 5) rfl)
  have hE := lg_entry_eq m [.ref (ad b), .int p0, .int p1, .int p2, .int p3, .int p4] 6
  rw [← hav] at hE
  rw [hE]
  have hl := lv_entry [.ref (ad b), .int p0, .int p1, .int p2, .int p3, .int p4] (n := 6) (Nat.le_of_ble_eq_true rfl)
  generalize (lg_sl [.ref (ad b), .int p0, .int p1, .int p2, .int p3, .int p4] ++ List.replicate (6 - (lg_sl [.ref (ad b), .int p0, .int p1, .int p2, .int p3, .int p4]).length) Slot.unset).toArray = ls at hl ⊢
  have hl : lv_has ls 6 [(0, .ref (ad b)), (1, .int p0), (2, .int p1), (3, .int p2), (4, .int p3), (5, .int p4)] := hl
  clear hE
  unfold f_X1_put at hf
  suffices hgo : ∀ (H : Heap) (locs : List Loc), va_P D vwCl (wd N ad C) H → va_S (Aw N ad s.heap.size) s.heap H locs → W p l e (headSpec wsX1_put rmX1_put).room s m args below meth c H locs 0 0 QQ (F0 m 0 ls []) from hgo s.heap [] hP hS
  clear hS hP
  intro H locs hP hS
  refine lv_aload_n hx hb dX1_put_0 rfl (lv_at hl 0 rfl) ?_
  refine lv_iload_n hx hb dX1_put_1 rfl (lv_at hl 1 rfl) ?_
  refine r_put (own := RX1) (T := TX1) (n := 5) (ci := 1) (v := .int p0) hx hb hts nX1 tyX1 tyX1_ok nmX1 hown hK hI hAd hP hS (isFB_0 hN hb0) (hF_ b hb0) rfl 0 (by decide) k0 rfl rfl rfl (Nat.le_of_ble_eq_true rfl) dX1_put_2 (fun C H locs hP hS he hn => ?_)
  have hb_ := isFB_u hb0
  have hag : ∀ i : Nat, (i < 67 ∨ 76 < i) ∧ i ≠ 85 → C i = C0 i := fun i h => (he i (by omega)).trans (hag i h)
  have hF_ := hF_.setC hb0 he hn
  refine lv_aload_n hx hb dX1_put_5 rfl (lv_at hl 0 rfl) ?_
  refine lv_iload_n hx hb dX1_put_6 rfl (lv_at hl 2 rfl) ?_
  refine r_put (own := RX1) (T := TX1) (n := 5) (ci := 1) (v := .int p1) hx hb hts nX1 tyX1 tyX1_ok nmX1 hown hK hI hAd hP hS (isFB_0 hN hb0) (hF_ b hb0) rfl 1 (by decide) k2 rfl rfl rfl (Nat.le_of_ble_eq_true rfl) dX1_put_7 (fun C H locs hP hS he hn => ?_)
  have hb_ := isFB_u hb0
  have hag : ∀ i : Nat, (i < 67 ∨ 76 < i) ∧ i ≠ 85 → C i = C0 i := fun i h => (he i (by omega)).trans (hag i h)
  have hF_ := hF_.setS hb0 he hn
  refine lv_aload_n hx hb dX1_put_10 rfl (lv_at hl 0 rfl) ?_
  refine lv_iload_n hx hb dX1_put_11 rfl (lv_at hl 3 rfl) ?_
  refine r_put (own := RX1) (T := TX1) (n := 5) (ci := 1) (v := .int p2) hx hb hts nX1 tyX1 tyX1_ok nmX1 hown hK hI hAd hP hS (isFB_0 hN hb0) (hF_ b hb0) rfl 2 (by decide) k3 rfl rfl rfl (Nat.le_of_ble_eq_true rfl) dX1_put_12 (fun C H locs hP hS he hn => ?_)
  have hb_ := isFB_u hb0
  have hag : ∀ i : Nat, (i < 67 ∨ 76 < i) ∧ i ≠ 85 → C i = C0 i := fun i h => (he i (by omega)).trans (hag i h)
  have hF_ := hF_.setM hb0 he hn
  refine lv_aload_n hx hb dX1_put_15 rfl (lv_at hl 0 rfl) ?_
  refine lv_iload hx hb dX1_put_16 (lv_at hl 4 rfl) ?_
  refine r_put (own := RX1) (T := TX1) (n := 5) (ci := 1) (v := .int p3) hx hb hts nX1 tyX1 tyX1_ok nmX1 hown hK hI hAd hP hS (isFB_0 hN hb0) (hF_ b hb0) rfl 3 (by decide) k4 rfl rfl rfl (Nat.le_of_ble_eq_true rfl) dX1_put_18 (fun C H locs hP hS he hn => ?_)
  have hb_ := isFB_u hb0
  have hag : ∀ i : Nat, (i < 67 ∨ 76 < i) ∧ i ≠ 85 → C i = C0 i := fun i h => (he i (by omega)).trans (hag i h)
  have hF_ := hF_.setT hb0 he hn
  refine lv_aload_n hx hb dX1_put_21 rfl (lv_at hl 0 rfl) ?_
  refine lv_iload hx hb dX1_put_22 (lv_at hl 5 rfl) ?_
  refine r_put (own := RX1) (T := TX1) (n := 5) (ci := 1) (v := .int p4) hx hb hts nX1 tyX1 tyX1_ok nmX1 hown hK hI hAd hP hS (isFB_0 hN hb0) (hF_ b hb0) rfl 4 (by decide) k5 rfl (bz_n hbz_p4) (bz_f hbz_p4) (Nat.le_of_ble_eq_true rfl) dX1_put_24 (fun C H locs hP hS he hn => ?_)
  have hb_ := isFB_u hb0
  have hag : ∀ i : Nat, (i < 67 ∨ 76 < i) ∧ i ≠ 85 → C i = C0 i := fun i h => (he i (by omega)).trans (hag i h)
  have hF_ := hF_.setY hb0 he hn
  obtain rfl := Option.some.inj hf
  rw [← hQ]
  exact e_vW hx hb hr hP hS ⟨hag, hF_⟩ hlocks dX1_put_27

def LX8_inflowOf_4 (p0 : Int32) (t_infl : Nat → Int32) (ko : Int32 → Int32 → Option (Int32)) : Nat → Int32 → Int32 → Option (Int32)
  | 0, _, _ => none
  | n + 1, x1, x2 =>
    if 12 ≤ x2 then
      ko x1 x2
    else
      (f_X10_has p0 x2).bind fun q6 =>
      (if q6 = 0 then
        some (0)
      else
        ri t_infl 12 (x2) fun x11 =>
        some (x11) : Option (Int32)).bind fun q7 =>
      lt ((x1 + q7) : Int32) fun x8 =>
      lt (x2 + 1 : Int32) fun x9 =>
      LX8_inflowOf_4 p0 t_infl ko n x8 x9
theorem LX8_inflowOf_4_z (p0 : Int32) (t_infl : Nat → Int32) (ko : Int32 → Int32 → Option (Int32)) (x1 : Int32) (x2 : Int32) : LX8_inflowOf_4 p0 t_infl ko 0 x1 x2 = none := rfl
theorem LX8_inflowOf_4_s (p0 : Int32) (t_infl : Nat → Int32) (ko : Int32 → Int32 → Option (Int32)) (n : Nat) (x1 : Int32) (x2 : Int32) : LX8_inflowOf_4 p0 t_infl ko (n + 1) x1 x2 =
    if 12 ≤ x2 then
      ko x1 x2
    else
      (f_X10_has p0 x2).bind fun q6 =>
      (if q6 = 0 then
        some (0)
      else
        ri t_infl 12 (x2) fun x11 =>
        some (x11) : Option (Int32)).bind fun q7 =>
      lt ((x1 + q7) : Int32) fun x8 =>
      lt (x2 + 1 : Int32) fun x9 =>
      LX8_inflowOf_4 p0 t_infl ko n x8 x9 := rfl
def f_X8_inflowOf (p0 : Int32) (t_infl : Nat → Int32) : Option (Int32) :=
  LX8_inflowOf_4 p0 t_infl (fun x3 x4 =>
    some (x3)) FU 0 0
abbrev rmX8_inflowOf : Room := { frames := 1, cells := 0, slots := 0, locals := 21 }
set_option maxHeartbeats 4000000 in
set_option maxRecDepth 100000 in
theorem c_X8_inflowOf {l : Launch} {D : va_G} {g : Nat → ClassId} {N : Nat} {ad : Nat → Nat} {C : Nat → va_E} {sz : Nat} {t_there : Int32} {t_lift : Int32} {t_none : Int32} {t_infl : Nat → Int32} {p0 : Int32} {rr : Int32} (hN : 86 ≤ N) (h5 : C 5 = .inr (7, [.ref (ad 6), .ref (ad 7), .ref (ad 8), .ref (ad 9), .ref (ad 10), .ref (ad 11), .ref (ad 12), .ref (ad 13), .ref (ad 14), .ref (ad 15), .ref (ad 16), .ref (ad 17), .ref (ad 18), .int t_there, .int t_lift, .int t_none])) (h10 : C 10 = aI g 12 t_infl) (h21 : C 21 = .inr (8, [.ref (ad 5), .ref (ad 19), .ref (ad 22), .ref (ad 23)])) (hf : f_X8_inflowOf p0 t_infl = some rr) : Met l yX8_inflowOf wsX8_inflowOf rmX8_inflowOf (PcW D g N ad C sz [.ref (ad 21), .int p0]) (QiR sz tP rr) 0 0 (An sz) := by
  refine Met.ofW (cc := cX8_inflowOf) (maxL := 4) (ret := (some .int)) (by decide) rfl ?_
  intro p e s m args below meth c s₁ B hml hv
  obtain ⟨hav, hsz, hK, hP⟩ := hv
  subst hsz
  have hx := B.exec
  have hb := B.bytes
  have hr := B.returns
  have hts := atoms_spec (ws := wsX8_inflowOf) B.pre
  have hown : s.vm.findClass RX8 = some m.cls := findClass_of_methodNamed B.named
  have hlocks := B.notSynchronized
  generalize hQ : MQ below (QiR s.heap.size tP rr) args s 0 0 (An s.heap.size) = QQ
  have hS : va_S (An s.heap.size) s.heap s.heap [] := va_S.rf
  have hA : ∀ q, s.heap.size ≤ q → (An s.heap.size) q := fun q h => h
  have k0 := nm_6 hK
  have k1 := hts (.initialized RX10) (List.mem_of_getElem? (i := 3) rfl)
  have k2 := hts (.static yX10_has) (List.mem_of_getElem? (i := 2) rfl)
  have k3 := hts (.fieldLink RX8 21 "UpDrain$Water" "plan" "LUpDrain$Town;") (List.mem_of_getElem? (i := 1) rfl)
  have nX8 : ∀ w ∈ u_ws RX8 TX8 4, w ∈ wsX8_inflowOf := fun _ h => List.mem_cons_of_mem _ (List.mem_append_left _ (List.mem_append_right _ h))
  have k5 := nf_15 (A := args) hK
  have nX7 : ∀ w ∈ u_ws RX7 TX7 16, w ∈ wsX8_inflowOf := fun _ h => List.mem_cons_of_mem _ (List.mem_append_right _ h)
  have hE := lg_entry_eq m [.ref (ad 21), .int p0] 4
  rw [← hav] at hE
  rw [hE]
  have hl := lv_entry [.ref (ad 21), .int p0] (n := 4) (Nat.le_of_ble_eq_true rfl)
  generalize (lg_sl [.ref (ad 21), .int p0] ++ List.replicate (4 - (lg_sl [.ref (ad 21), .int p0]).length) Slot.unset).toArray = ls at hl ⊢
  have hl : lv_has ls 4 [(0, .ref (ad 21)), (1, .int p0)] := hl
  clear hE
  unfold f_X8_inflowOf at hf
  suffices hgo : ∀ (H : Heap) (locs : List Loc), va_P D vwCl (wd N ad C) H → va_S (An s.heap.size) s.heap H locs → W p l e (headSpec wsX8_inflowOf rmX8_inflowOf).room s m args below meth c H locs 0 0 QQ (F0 m 0 ls []) from hgo s.heap [] hP hS
  clear hS hP
  intro H locs hP hS
  refine lv_iconst (v := 0) hx hb dX8_inflowOf_0 (by decide) ?_
  refine lv_istore_n (lv' := [(2, .int 0), (0, .ref (ad 21)), (1, .int p0)]) hx hb dX8_inflowOf_1 rfl hl (by decide) rfl (fun ls hl => ?_)
  refine lv_iconst (v := 0) hx hb dX8_inflowOf_2 (by decide) ?_
  refine lv_istore_n (lv' := [(3, .int 0), (2, .int 0), (0, .ref (ad 21)), (1, .int p0)]) hx hb dX8_inflowOf_3 rfl hl (by decide) rfl (fun ls hl => ?_)
  have key4 : ∀ (ko : Int32 → Int32 → Option (Int32)), (∀ (x3 : Int32) (x4 : Int32) (C : Nat → va_E) (H : Heap) (locs : List Loc) (ls : Array Slot), va_P D vwCl (wd N ad C) H → va_S (An s.heap.size) s.heap H locs → C 5 = .inr (7, [.ref (ad 6), .ref (ad 7), .ref (ad 8), .ref (ad 9), .ref (ad 10), .ref (ad 11), .ref (ad 12), .ref (ad 13), .ref (ad 14), .ref (ad 15), .ref (ad 16), .ref (ad 17), .ref (ad 18), .int t_there, .int t_lift, .int t_none]) → C 10 = aI g 12 t_infl → C 21 = .inr (8, [.ref (ad 5), .ref (ad 19), .ref (ad 22), .ref (ad 23)]) → lv_has ls 4 [(0, .ref (ad 21)), (1, .int p0), (2, .int x3), (3, .int x4)] → ko x3 x4 = some rr → W p l e (headSpec wsX8_inflowOf rmX8_inflowOf).room s m args below meth c H locs 0 0 QQ (F0 m 40 ls [])) → ∀ (n : Nat) (x1 : Int32) (x2 : Int32) (C : Nat → va_E) (H : Heap) (locs : List Loc) (ls : Array Slot), va_P D vwCl (wd N ad C) H → va_S (An s.heap.size) s.heap H locs → C 5 = .inr (7, [.ref (ad 6), .ref (ad 7), .ref (ad 8), .ref (ad 9), .ref (ad 10), .ref (ad 11), .ref (ad 12), .ref (ad 13), .ref (ad 14), .ref (ad 15), .ref (ad 16), .ref (ad 17), .ref (ad 18), .int t_there, .int t_lift, .int t_none]) → C 10 = aI g 12 t_infl → C 21 = .inr (8, [.ref (ad 5), .ref (ad 19), .ref (ad 22), .ref (ad 23)]) → lv_has ls 4 [(0, .ref (ad 21)), (1, .int p0), (2, .int x1), (3, .int x2)] → LX8_inflowOf_4 p0 t_infl ko n x1 x2 = some rr → W p l e (headSpec wsX8_inflowOf rmX8_inflowOf).room s m args below meth c H locs 0 0 QQ (F0 m 4 ls []) := by
    intro ko hko n
    induction n with
    | zero =>
      intro x1 x2 C H locs ls hP hS h5 h10 h21 hl hf
      rw [LX8_inflowOf_4_z] at hf
      cases hf
    | succ n ih =>
      intro x1 x2 C H locs ls hP hS h5 h10 h21 hl hf
      rw [LX8_inflowOf_4_s] at hf
      refine lv_iload_n hx hb dX8_inflowOf_4 rfl (lv_at hl 3 rfl) ?_
      refine lv_bipush (v := 12) hx hb dX8_inflowOf_5 (by decide) ?_
      refine lv_icmp_ge (tgt := 40) hx hb dX8_inflowOf_7 (by decide) (fun c5 => ?_) (fun c5 => ?_)
      · have hf := it_e c5 hf
        exact hko x1 x2 C H locs ls hP hS h5 h10 h21 (lv_sub hl [0, 1, 2, 3] rfl) hf
      · have hf := ie_e c5 hf
        refine lv_iload_n hx hb dX8_inflowOf_10 rfl (lv_at hl 2 rfl) ?_
        refine lv_iload_n hx hb dX8_inflowOf_11 rfl (lv_at hl 1 rfl) ?_
        refine lv_iload_n hx hb dX8_inflowOf_12 rfl (lv_at hl 3 rfl) ?_
        obtain ⟨q6, hq6, hf⟩ := bd_e hf
        refine k_iR (va_runSN (As := [.int p0, .int x2]) (rest := [.int x1]) ⟨hx, hb, hml, hown, hts⟩ (c_X10_has (l := l) (sz := H.size) (p0 := p0) (p1 := x2) hq6) ⟨va_cnB 2 hts gX8_inflowOf_X10_has_n45 rfl rfl rfl k0 k1 (by decide +kernel) ⟨Nat.le_of_ble_eq_true rfl, Nat.le_of_ble_eq_true rfl⟩, k2, trivial⟩ preS0 rfl rfl hl.1 rfl (lv_room (Nat.le_of_ble_eq_true rfl)) dX8_inflowOf_13 ⟨Nat.le_of_ble_eq_true rfl, Nat.le_of_ble_eq_true rfl⟩) hA hP hS (fun H locs hP hS hbz_q6 => ?_)
        obtain ⟨q7, htq7, hf⟩ := bd_e hf
        have jnq7 : ∀ (C : Nat → va_E) (H : Heap) (locs : List Loc) (ls : Array Slot), va_P D vwCl (wd N ad C) H → va_S (An s.heap.size) s.heap H locs → C 5 = .inr (7, [.ref (ad 6), .ref (ad 7), .ref (ad 8), .ref (ad 9), .ref (ad 10), .ref (ad 11), .ref (ad 12), .ref (ad 13), .ref (ad 14), .ref (ad 15), .ref (ad 16), .ref (ad 17), .ref (ad 18), .int t_there, .int t_lift, .int t_none]) → C 10 = aI g 12 t_infl → C 21 = .inr (8, [.ref (ad 5), .ref (ad 19), .ref (ad 22), .ref (ad 23)]) → lv_has ls 4 [(0, .ref (ad 21)), (1, .int p0), (2, .int x1), (3, .int x2)] → W p l e (headSpec wsX8_inflowOf rmX8_inflowOf).room s m args below meth c H locs 0 0 QQ (F0 m 32 ls [.int q7, .int x1]) := by
          intro C H locs ls hP hS h5 h10 h21 hl
          refine lv_iadd hx hb dX8_inflowOf_32 ?_
          obtain ⟨x8, ex8, hf⟩ := lt_e hf
          refine tp_i ex8 ?_
          refine lv_istore_n (lv' := [(2, .int x8), (0, .ref (ad 21)), (1, .int p0), (3, .int x2)]) hx hb dX8_inflowOf_33 rfl hl (by decide) rfl (fun ls hl => ?_)
          obtain ⟨x9, ex9, hf⟩ := lt_e hf
          refine lv_iinc (v := x9) (lv' := [(3, .int x9), (2, .int x8), (0, .ref (ad 21)), (1, .int p0)]) hx hb dX8_inflowOf_34 hl (k := 3) rfl (by rw [ex9]; rfl) (by decide) rfl (fun ls hl => ?_)
          refine lv_goto (tgt := 4) hx hb dX8_inflowOf_37 (by decide) ?_
          exact ih x8 x9 C H locs ls hP hS h5 h10 h21 (lv_sub hl [2, 3, 1, 0] rfl) hf
        clear hf
        have hf := htq7
        refine lv_if_eq (tgt := 31) hx hb dX8_inflowOf_16 (by decide) (fun c10 => ?_) (fun c10 => ?_)
        · have hf := it_e c10 hf
          refine lv_iconst (v := 0) hx hb dX8_inflowOf_31 (by decide) ?_
          obtain rfl := Option.some.inj hf
          exact jnq7 C H locs ls hP hS h5 h10 h21 (lv_sub hl [0, 1, 2, 3] rfl)
        · have hf := ie_e c10 hf
          refine lv_aload_n hx hb dX8_inflowOf_19 rfl (lv_at hl 0 rfl) ?_
          refine r_get (own := RX8) (T := TX8) (n := 4) (ci := 8) (v := .ref (ad 5)) hx hb hts nX8 hown hK hP (by omega) h21 rfl 0 (by decide) k3 rfl dX8_inflowOf_20 ?_
          refine r_getN (own := RX8) (T := TX7) (n := 16) (ci := 7) (v := .ref (ad 10)) hx hb hts nX7 hown hK hP (by omega) h5 rfl 4 (by decide) k5 rfl dX8_inflowOf_23 ?_
          refine lv_iload_n hx hb dX8_inflowOf_26 rfl (lv_at hl 3 rfl) ?_
          obtain ⟨i12, x11, ex11, hf⟩ := ri_e hf
          refine r_iald hx hb hK hP (by omega) h10 i12 dX8_inflowOf_27 ex11 ?_
          refine lv_goto (tgt := 32) hx hb dX8_inflowOf_28 (by decide) ?_
          obtain rfl := Option.some.inj hf
          exact jnq7 C H locs ls hP hS h5 h10 h21 (lv_sub hl [0, 1, 2, 3] rfl)
  refine key4 _ (fun x3 x4 C H locs ls hP hS h5 h10 h21 hl hf => ?_) FU 0 0 C H locs ls hP hS h5 h10 h21 (lv_sub hl [2, 3, 1, 0] rfl) hf
  refine lv_iload_n hx hb dX8_inflowOf_40 rfl (lv_at hl 2 rfl) ?_
  obtain rfl := Option.some.inj hf
  rw [← hQ]
  exact e_iR hx hb hr rfl (tP_i _) hS hlocks dX8_inflowOf_41

def LX8_renew_2 (t_down : Nat → Int32) (t_min : Nat → Int32) (t_gone : Nat → Int32) (t_infl : Nat → Int32) (t_str : Nat → Int32) (t_from : Nat → Int32) (t_unt : Nat → Int32) (t_there : Int32) (w_over : Nat → Int32) (ko : Int32 → (Nat → Int32) → (Nat → Nat → Int32) → (Nat → Nat → Int32) → (Nat → Int32) → (Nat → Int32) → Option ((Nat → Int32) × (Nat → Nat → Int32) × (Nat → Nat → Int32) × (Nat → Int32) × (Nat → Int32))) : Nat → Int32 → (Nat → Int32) → (Nat → Nat → Int32) → (Nat → Nat → Int32) → (Nat → Int32) → (Nat → Int32) → Option ((Nat → Int32) × (Nat → Nat → Int32) × (Nat → Nat → Int32) × (Nat → Int32) × (Nat → Int32))
  | 0, _, _, _, _, _, _ => none
  | n + 1, x1, f2, f3, f4, f5, f6 =>
    if 12 ≤ x1 then
      ko x1 f2 f3 f4 f5 f6
    else
      ri w_over 12 (x1) fun x14 =>
      (f_X8_inflowOf x14 t_infl).bind fun q16 =>
      wi f6 12 (x1) (q16) fun f17 =>
      (f_X10_has t_there x1).bind fun q19 =>
      (if q19 = 0 then
        some (f2, f3, f4, f5)
      else
        ix 12 (x1) fun j25 =>
        ri t_str 12 (x1) fun x26 =>
        ri t_from 12 (x1) fun x28 =>
        ri t_unt 12 (x1) fun x30 =>
        (f_X4_follow (24 + 3 * j25) x1 x26 x28 x30 t_down t_min t_gone f3 f4 f2 f5).bind fun q32 =>
        some (q32.2.2.1, q32.1, q32.2.1, q32.2.2.2) : Option ((Nat → Int32) × (Nat → Nat → Int32) × (Nat → Nat → Int32) × (Nat → Int32))).bind fun q20 =>
      lt (x1 + 1 : Int32) fun x21 =>
      LX8_renew_2 t_down t_min t_gone t_infl t_str t_from t_unt t_there w_over ko n x21 q20.1 q20.2.1 q20.2.2.1 q20.2.2.2 f17
theorem LX8_renew_2_z (t_down : Nat → Int32) (t_min : Nat → Int32) (t_gone : Nat → Int32) (t_infl : Nat → Int32) (t_str : Nat → Int32) (t_from : Nat → Int32) (t_unt : Nat → Int32) (t_there : Int32) (w_over : Nat → Int32) (ko : Int32 → (Nat → Int32) → (Nat → Nat → Int32) → (Nat → Nat → Int32) → (Nat → Int32) → (Nat → Int32) → Option ((Nat → Int32) × (Nat → Nat → Int32) × (Nat → Nat → Int32) × (Nat → Int32) × (Nat → Int32))) (x1 : Int32) (f2 : Nat → Int32) (f3 : Nat → Nat → Int32) (f4 : Nat → Nat → Int32) (f5 : Nat → Int32) (f6 : Nat → Int32) : LX8_renew_2 t_down t_min t_gone t_infl t_str t_from t_unt t_there w_over ko 0 x1 f2 f3 f4 f5 f6 = none := rfl
theorem LX8_renew_2_s (t_down : Nat → Int32) (t_min : Nat → Int32) (t_gone : Nat → Int32) (t_infl : Nat → Int32) (t_str : Nat → Int32) (t_from : Nat → Int32) (t_unt : Nat → Int32) (t_there : Int32) (w_over : Nat → Int32) (ko : Int32 → (Nat → Int32) → (Nat → Nat → Int32) → (Nat → Nat → Int32) → (Nat → Int32) → (Nat → Int32) → Option ((Nat → Int32) × (Nat → Nat → Int32) × (Nat → Nat → Int32) × (Nat → Int32) × (Nat → Int32))) (n : Nat) (x1 : Int32) (f2 : Nat → Int32) (f3 : Nat → Nat → Int32) (f4 : Nat → Nat → Int32) (f5 : Nat → Int32) (f6 : Nat → Int32) : LX8_renew_2 t_down t_min t_gone t_infl t_str t_from t_unt t_there w_over ko (n + 1) x1 f2 f3 f4 f5 f6 =
    if 12 ≤ x1 then
      ko x1 f2 f3 f4 f5 f6
    else
      ri w_over 12 (x1) fun x14 =>
      (f_X8_inflowOf x14 t_infl).bind fun q16 =>
      wi f6 12 (x1) (q16) fun f17 =>
      (f_X10_has t_there x1).bind fun q19 =>
      (if q19 = 0 then
        some (f2, f3, f4, f5)
      else
        ix 12 (x1) fun j25 =>
        ri t_str 12 (x1) fun x26 =>
        ri t_from 12 (x1) fun x28 =>
        ri t_unt 12 (x1) fun x30 =>
        (f_X4_follow (24 + 3 * j25) x1 x26 x28 x30 t_down t_min t_gone f3 f4 f2 f5).bind fun q32 =>
        some (q32.2.2.1, q32.1, q32.2.1, q32.2.2.2) : Option ((Nat → Int32) × (Nat → Nat → Int32) × (Nat → Nat → Int32) × (Nat → Int32))).bind fun q20 =>
      lt (x1 + 1 : Int32) fun x21 =>
      LX8_renew_2 t_down t_min t_gone t_infl t_str t_from t_unt t_there w_over ko n x21 q20.1 q20.2.1 q20.2.2.1 q20.2.2.2 f17 := rfl
def f_X8_renew (t_down : Nat → Int32) (t_min : Nat → Int32) (t_gone : Nat → Int32) (t_infl : Nat → Int32) (t_str : Nat → Int32) (t_from : Nat → Int32) (t_unt : Nat → Int32) (t_there : Int32) (w_over : Nat → Int32) (wa_g : Nat → Int32) (sL : Nat → Nat → Int32) (sT : Nat → Nat → Int32) (sF : Nat → Int32) (sU : Nat → Int32) : Option ((Nat → Int32) × (Nat → Nat → Int32) × (Nat → Nat → Int32) × (Nat → Int32) × (Nat → Int32)) :=
  LX8_renew_2 t_down t_min t_gone t_infl t_str t_from t_unt t_there w_over (fun x7 f8 f9 f10 f11 f12 =>
    some (f12, f9, f10, f8, f11)) FU 0 sF sL sT sU wa_g
abbrev rmX8_renew : Room := { frames := 2, cells := 0, slots := 0, locals := 44 }
set_option maxHeartbeats 4000000 in
set_option maxRecDepth 100000 in
theorem c_X8_renew {l : Launch} {D : va_G} {g : Nat → ClassId} {N : Nat} {ad : Nat → Nat} {C : Nat → va_E} {sz : Nat} {t_there : Int32} {t_lift : Int32} {t_none : Int32} {t_down : Nat → Int32} {t_min : Nat → Int32} {t_gone : Nat → Int32} {t_infl : Nat → Int32} {t_str : Nat → Int32} {t_from : Nat → Int32} {t_unt : Nat → Int32} {w_src : Int32} {w_over : Nat → Int32} {wa_g : Nat → Int32} {sL : Nat → Nat → Int32} {sT : Nat → Nat → Int32} {sF : Nat → Int32} {sU : Nat → Int32}  {rr : (Nat → Int32) × (Nat → Nat → Int32) × (Nat → Nat → Int32) × (Nat → Int32) × (Nat → Int32)} (hN : 86 ≤ N) (hI : Inj N ad) (h5 : C 5 = .inr (7, [.ref (ad 6), .ref (ad 7), .ref (ad 8), .ref (ad 9), .ref (ad 10), .ref (ad 11), .ref (ad 12), .ref (ad 13), .ref (ad 14), .ref (ad 15), .ref (ad 16), .ref (ad 17), .ref (ad 18), .int t_there, .int t_lift, .int t_none])) (h6 : C 6 = aI g 12 t_down) (h7 : C 7 = aI g 12 t_min) (h9 : C 9 = aI g 12 t_gone) (h10 : C 10 = aI g 12 t_infl) (h12 : C 12 = aI g 12 t_str) (h13 : C 13 = aI g 12 t_from) (h14 : C 14 = aI g 12 t_unt) (h19 : C 19 = .inr (9, [.ref (ad 5), .ref (ad 20), .int w_src])) (h20 : C 20 = aI g 12 w_over) (h21 : C 21 = .inr (8, [.ref (ad 5), .ref (ad 19), .ref (ad 22), .ref (ad 23)])) (h22 : C 22 = aI g 12 wa_g) (h23 : C 23 = aS g 12 (fun i => if i < 12 then some (ad (24 + 3 * i)) else none)) (hS_ : PoolS g ad C sL sT sF sU) (hf : f_X8_renew t_down t_min t_gone t_infl t_str t_from t_unt t_there w_over wa_g sL sT sF sU = some rr) : Met l yX8_renew wsX8_renew rmX8_renew (PcW D g N ad C sz [.ref (ad 21)]) (QvW D N ad sz (fun C' => (∀ i : Nat, i ≠ 22 ∧ (i < 24 ∨ 64 < i ∨ i = 60 ∨ i = 61) → C' i = C i) ∧ (C' 22 = aI g 12 rr.1) ∧ (PoolS g ad C' rr.2.1 rr.2.2.1 rr.2.2.2.1 rr.2.2.2.2))) 0 0 (Aw N ad sz) := by
  refine Met.ofW (cc := cX8_renew) (maxL := 2) (ret := none) (by decide) rfl ?_
  intro p e s m args below meth c s₁ B hml hv
  obtain ⟨hav, hsz, hK, hP⟩ := hv
  subst hsz
  have hx := B.exec
  have hb := B.bytes
  have hr := B.returns
  have hts := atoms_spec (ws := wsX8_renew) B.pre
  have hown : s.vm.findClass RX8 = some m.cls := findClass_of_methodNamed B.named
  have hlocks := B.notSynchronized
  generalize hQ : MQ below (QvW D N ad s.heap.size (fun C' => (∀ i : Nat, i ≠ 22 ∧ (i < 24 ∨ 64 < i ∨ i = 60 ∨ i = 61) → C' i = C i) ∧ (C' 22 = aI g 12 rr.1) ∧ (PoolS g ad C' rr.2.1 rr.2.2.1 rr.2.2.2.1 rr.2.2.2.2))) args s 0 0 (Aw N ad s.heap.size) = QQ
  have hS : va_S (Aw N ad s.heap.size) s.heap s.heap [] := va_S.rf
  have hA : ∀ q, s.heap.size ≤ q → (Aw N ad s.heap.size) q := fun q h => Or.inr h
  have hAd : ∀ j : Nat, j < N → (Aw N ad s.heap.size) (ad j) := fun j h => Or.inl ⟨j, h, rfl⟩
  obtain ⟨C0, hC0⟩ : ∃ C0 : Nat → va_E, C0 = C := ⟨_, rfl⟩
  have hag : ∀ i : Nat, i ≠ 22 ∧ (i < 24 ∨ 64 < i ∨ i = 60 ∨ i = 61) → C i = C0 i := fun i _ => by rw [hC0]
  rw [← hC0] at hQ
  have k0 := hts (.fieldLink RX8 9 "UpDrain$Water" "gathered" "[I") (List.mem_of_getElem? (i := 1) rfl)
  have nX8 : ∀ w ∈ u_ws RX8 TX8 4, w ∈ wsX8_renew := fun _ h => List.mem_cons_of_mem _ (List.mem_append_left _ (List.mem_append_left _ (List.mem_append_left _ (List.mem_append_right _ h))))
  have k2 := hts (.fieldLink RX8 25 "UpDrain$Water" "ways" "LUpDrain$Ways;") (List.mem_of_getElem? (i := 2) rfl)
  have k3 := nf_46 (A := args) hK
  have nX9 : ∀ w ∈ u_ws RX9 TX9 3, w ∈ wsX8_renew := fun _ h => List.mem_cons_of_mem _ (List.mem_append_left _ (List.mem_append_left _ (List.mem_append_right _ h)))
  have k5 := hts (.fieldLink RX8 21 "UpDrain$Water" "plan" "LUpDrain$Town;") (List.mem_of_getElem? (i := 3) rfl)
  have k6 := nf_36 (A := args) hK
  have nX7 : ∀ w ∈ u_ws RX7 TX7 16, w ∈ wsX8_renew := fun _ h => List.mem_cons_of_mem _ (List.mem_append_left _ (List.mem_append_right _ h))
  have k8 := nm_6 hK
  have k9 := hts (.initialized RX10) (List.mem_of_getElem? (i := 11) rfl)
  have k10 := hts (.static yX10_has) (List.mem_of_getElem? (i := 10) rfl)
  have k11 := hts (.fieldLink RX8 17 "UpDrain$Water" "streams" "[LUpDrain$Stream;") (List.mem_of_getElem? (i := 4) rfl)
  have k12 := nf_21 (A := args) hK
  have k13 := nf_23 (A := args) hK
  have k14 := nf_25 (A := args) hK
  have hE := lg_entry_eq m [.ref (ad 21)] 2
  rw [← hav] at hE
  rw [hE]
  have hl := lv_entry [.ref (ad 21)] (n := 2) (Nat.le_of_ble_eq_true rfl)
  generalize (lg_sl [.ref (ad 21)] ++ List.replicate (2 - (lg_sl [.ref (ad 21)]).length) Slot.unset).toArray = ls at hl ⊢
  have hl : lv_has ls 2 [(0, .ref (ad 21))] := hl
  clear hE
  unfold f_X8_renew at hf
  suffices hgo : ∀ (H : Heap) (locs : List Loc), va_P D vwCl (wd N ad C) H → va_S (Aw N ad s.heap.size) s.heap H locs → W p l e (headSpec wsX8_renew rmX8_renew).room s m args below meth c H locs 0 0 QQ (F0 m 0 ls []) from hgo s.heap [] hP hS
  clear hS hP
  intro H locs hP hS
  refine lv_iconst (v := 0) hx hb dX8_renew_0 (by decide) ?_
  refine lv_istore_n (lv' := [(1, .int 0), (0, .ref (ad 21))]) hx hb dX8_renew_1 rfl hl (by decide) rfl (fun ls hl => ?_)
  have key2 : ∀ (ko : Int32 → (Nat → Int32) → (Nat → Nat → Int32) → (Nat → Nat → Int32) → (Nat → Int32) → (Nat → Int32) → Option ((Nat → Int32) × (Nat → Nat → Int32) × (Nat → Nat → Int32) × (Nat → Int32) × (Nat → Int32))), (∀ (x7 : Int32) (f8 : Nat → Int32) (f9 : Nat → Nat → Int32) (f10 : Nat → Nat → Int32) (f11 : Nat → Int32) (f12 : Nat → Int32) (C : Nat → va_E) (H : Heap) (locs : List Loc) (ls : Array Slot), va_P D vwCl (wd N ad C) H → va_S (Aw N ad s.heap.size) s.heap H locs → (∀ i : Nat, i ≠ 22 ∧ (i < 24 ∨ 64 < i ∨ i = 60 ∨ i = 61) → C i = C0 i) → C 5 = .inr (7, [.ref (ad 6), .ref (ad 7), .ref (ad 8), .ref (ad 9), .ref (ad 10), .ref (ad 11), .ref (ad 12), .ref (ad 13), .ref (ad 14), .ref (ad 15), .ref (ad 16), .ref (ad 17), .ref (ad 18), .int t_there, .int t_lift, .int t_none]) → C 6 = aI g 12 t_down → C 7 = aI g 12 t_min → C 9 = aI g 12 t_gone → C 10 = aI g 12 t_infl → C 12 = aI g 12 t_str → C 13 = aI g 12 t_from → C 14 = aI g 12 t_unt → C 19 = .inr (9, [.ref (ad 5), .ref (ad 20), .int w_src]) → C 20 = aI g 12 w_over → C 21 = .inr (8, [.ref (ad 5), .ref (ad 19), .ref (ad 22), .ref (ad 23)]) → C 22 = aI g 12 f12 → C 23 = aS g 12 (fun i => if i < 12 then some (ad (24 + 3 * i)) else none) → PoolS g ad C f9 f10 f8 f11 → lv_has ls 2 [(0, .ref (ad 21)), (1, .int x7)] → ko x7 f8 f9 f10 f11 f12 = some rr → W p l e (headSpec wsX8_renew rmX8_renew).room s m args below meth c H locs 0 0 QQ (F0 m 88 ls [])) → ∀ (n : Nat) (x1 : Int32) (f2 : Nat → Int32) (f3 : Nat → Nat → Int32) (f4 : Nat → Nat → Int32) (f5 : Nat → Int32) (f6 : Nat → Int32) (C : Nat → va_E) (H : Heap) (locs : List Loc) (ls : Array Slot), va_P D vwCl (wd N ad C) H → va_S (Aw N ad s.heap.size) s.heap H locs → (∀ i : Nat, i ≠ 22 ∧ (i < 24 ∨ 64 < i ∨ i = 60 ∨ i = 61) → C i = C0 i) → C 5 = .inr (7, [.ref (ad 6), .ref (ad 7), .ref (ad 8), .ref (ad 9), .ref (ad 10), .ref (ad 11), .ref (ad 12), .ref (ad 13), .ref (ad 14), .ref (ad 15), .ref (ad 16), .ref (ad 17), .ref (ad 18), .int t_there, .int t_lift, .int t_none]) → C 6 = aI g 12 t_down → C 7 = aI g 12 t_min → C 9 = aI g 12 t_gone → C 10 = aI g 12 t_infl → C 12 = aI g 12 t_str → C 13 = aI g 12 t_from → C 14 = aI g 12 t_unt → C 19 = .inr (9, [.ref (ad 5), .ref (ad 20), .int w_src]) → C 20 = aI g 12 w_over → C 21 = .inr (8, [.ref (ad 5), .ref (ad 19), .ref (ad 22), .ref (ad 23)]) → C 22 = aI g 12 f6 → C 23 = aS g 12 (fun i => if i < 12 then some (ad (24 + 3 * i)) else none) → PoolS g ad C f3 f4 f2 f5 → lv_has ls 2 [(0, .ref (ad 21)), (1, .int x1)] → LX8_renew_2 t_down t_min t_gone t_infl t_str t_from t_unt t_there w_over ko n x1 f2 f3 f4 f5 f6 = some rr → W p l e (headSpec wsX8_renew rmX8_renew).room s m args below meth c H locs 0 0 QQ (F0 m 2 ls []) := by
    intro ko hko n
    induction n with
    | zero =>
      intro x1 f2 f3 f4 f5 f6 C H locs ls hP hS hag h5 h6 h7 h9 h10 h12 h13 h14 h19 h20 h21 h22 h23 hS_ hl hf
      rw [LX8_renew_2_z] at hf
      cases hf
    | succ n ih =>
      intro x1 f2 f3 f4 f5 f6 C H locs ls hP hS hag h5 h6 h7 h9 h10 h12 h13 h14 h19 h20 h21 h22 h23 hS_ hl hf
      rw [LX8_renew_2_s] at hf
      refine lv_iload_n hx hb dX8_renew_2 rfl (lv_at hl 1 rfl) ?_
      refine lv_bipush (v := 12) hx hb dX8_renew_3 (by decide) ?_
      refine lv_icmp_ge (tgt := 88) hx hb dX8_renew_5 (by decide) (fun c13 => ?_) (fun c13 => ?_)
      · have hf := it_e c13 hf
        exact hko x1 f2 f3 f4 f5 f6 C H locs ls hP hS hag h5 h6 h7 h9 h10 h12 h13 h14 h19 h20 h21 h22 h23 hS_ (lv_sub hl [0, 1] rfl) hf
      · have hf := ie_e c13 hf
        refine lv_aload_n hx hb dX8_renew_8 rfl (lv_at hl 0 rfl) ?_
        refine r_get (own := RX8) (T := TX8) (n := 4) (ci := 8) (v := .ref (ad 22)) hx hb hts nX8 hown hK hP (by omega) h21 rfl 2 (by decide) k0 rfl dX8_renew_9 ?_
        refine lv_iload_n hx hb dX8_renew_12 rfl (lv_at hl 1 rfl) ?_
        refine lv_aload_n hx hb dX8_renew_13 rfl (lv_at hl 0 rfl) ?_
        refine lv_aload_n hx hb dX8_renew_14 rfl (lv_at hl 0 rfl) ?_
        refine r_get (own := RX8) (T := TX8) (n := 4) (ci := 8) (v := .ref (ad 19)) hx hb hts nX8 hown hK hP (by omega) h21 rfl 1 (by decide) k2 rfl dX8_renew_15 ?_
        refine r_getN (own := RX8) (T := TX9) (n := 3) (ci := 9) (v := .ref (ad 20)) hx hb hts nX9 hown hK hP (by omega) h19 rfl 1 (by decide) k3 rfl dX8_renew_18 ?_
        refine lv_iload_n hx hb dX8_renew_21 rfl (lv_at hl 1 rfl) ?_
        obtain ⟨i15, x14, ex14, hf⟩ := ri_e hf
        refine r_iald hx hb hK hP (by omega) h20 i15 dX8_renew_22 ex14 ?_
        obtain ⟨q16, hq16, hf⟩ := bd_e hf
        refine k_iR (va_runV (C := RX8) (As := [.int x14]) (rest := [.int x1, .ref (ad 22)]) ⟨hx, hb, hml, hown, hts⟩ (c_X8_inflowOf (l := l) (sz := H.size) (p0 := x14) hN h5 h10 h21 hq16) (cwV 1 hts gX8_renew_X8_inflowOf rfl rfl rfl (by decide +kernel) ⟨Nat.le_of_ble_eq_true rfl, Nat.le_of_ble_eq_true rfl⟩) (preV_of hK hP (by omega) h21 rfl) rfl rfl hl.1 rfl (lv_room (Nat.le_of_ble_eq_true rfl)) dX8_renew_23 ⟨Nat.le_of_ble_eq_true rfl, Nat.le_of_ble_eq_true rfl⟩) hA hP hS (fun H locs hP hS hbz_q16 => ?_)
        obtain ⟨i18, f17, ef17, hf⟩ := wi_e hf
        refine r_iast hx hb hK hI hAd hP hS (by omega) h22 i18 dX8_renew_26 ef17 (fun C H locs hP hS he hn => ?_)
        have hag : ∀ i : Nat, i ≠ 22 ∧ (i < 24 ∨ 64 < i ∨ i = 60 ∨ i = 61) → C i = C0 i := fun i h => (he i (by omega)).trans (hag i h)
        have h5 := (he 5 (by decide)).trans h5
        have h6 := (he 6 (by decide)).trans h6
        have h7 := (he 7 (by decide)).trans h7
        have h9 := (he 9 (by decide)).trans h9
        have h10 := (he 10 (by decide)).trans h10
        have h12 := (he 12 (by decide)).trans h12
        have h13 := (he 13 (by decide)).trans h13
        have h14 := (he 14 (by decide)).trans h14
        have h19 := (he 19 (by decide)).trans h19
        have h20 := (he 20 (by decide)).trans h20
        have h21 := (he 21 (by decide)).trans h21
        have h23 := (he 23 (by decide)).trans h23
        have hS_ := hS_.ne (fun i h1 h2 => he i (by omega))
        have h22 : C 22 = aI g 12 f17 := hn
        refine lv_aload_n hx hb dX8_renew_27 rfl (lv_at hl 0 rfl) ?_
        refine r_get (own := RX8) (T := TX8) (n := 4) (ci := 8) (v := .ref (ad 5)) hx hb hts nX8 hown hK hP (by omega) h21 rfl 0 (by decide) k5 rfl dX8_renew_28 ?_
        refine r_getN (own := RX8) (T := TX7) (n := 16) (ci := 7) (v := .int t_there) hx hb hts nX7 hown hK hP (by omega) h5 rfl 13 (by decide) k6 rfl dX8_renew_31 ?_
        refine lv_iload_n hx hb dX8_renew_34 rfl (lv_at hl 1 rfl) ?_
        obtain ⟨q19, hq19, hf⟩ := bd_e hf
        refine k_iR (va_runSN (As := [.int t_there, .int x1]) (rest := []) ⟨hx, hb, hml, hown, hts⟩ (c_X10_has (l := l) (sz := H.size) (p0 := t_there) (p1 := x1) hq19) ⟨va_cnB 2 hts gX8_renew_X10_has_n45 rfl rfl rfl k8 k9 (by decide +kernel) ⟨Nat.le_of_ble_eq_true rfl, Nat.le_of_ble_eq_true rfl⟩, k10, trivial⟩ preS0 rfl rfl hl.1 rfl (lv_room (Nat.le_of_ble_eq_true rfl)) dX8_renew_35 ⟨Nat.le_of_ble_eq_true rfl, Nat.le_of_ble_eq_true rfl⟩) hA hP hS (fun H locs hP hS hbz_q19 => ?_)
        obtain ⟨q20, htq20, hf⟩ := bd_e hf
        have jnq20 : ∀ (C : Nat → va_E) (H : Heap) (locs : List Loc) (ls : Array Slot), va_P D vwCl (wd N ad C) H → va_S (Aw N ad s.heap.size) s.heap H locs → (∀ i : Nat, i ≠ 22 ∧ (i < 24 ∨ 64 < i ∨ i = 60 ∨ i = 61) → C i = C0 i) → C 5 = .inr (7, [.ref (ad 6), .ref (ad 7), .ref (ad 8), .ref (ad 9), .ref (ad 10), .ref (ad 11), .ref (ad 12), .ref (ad 13), .ref (ad 14), .ref (ad 15), .ref (ad 16), .ref (ad 17), .ref (ad 18), .int t_there, .int t_lift, .int t_none]) → C 6 = aI g 12 t_down → C 7 = aI g 12 t_min → C 9 = aI g 12 t_gone → C 10 = aI g 12 t_infl → C 12 = aI g 12 t_str → C 13 = aI g 12 t_from → C 14 = aI g 12 t_unt → C 19 = .inr (9, [.ref (ad 5), .ref (ad 20), .int w_src]) → C 20 = aI g 12 w_over → C 21 = .inr (8, [.ref (ad 5), .ref (ad 19), .ref (ad 22), .ref (ad 23)]) → C 22 = aI g 12 f17 → C 23 = aS g 12 (fun i => if i < 12 then some (ad (24 + 3 * i)) else none) → PoolS g ad C q20.2.1 q20.2.2.1 q20.1 q20.2.2.2 → lv_has ls 2 [(0, .ref (ad 21)), (1, .int x1)] → W p l e (headSpec wsX8_renew rmX8_renew).room s m args below meth c H locs 0 0 QQ (F0 m 82 ls []) := by
          intro C H locs ls hP hS hag h5 h6 h7 h9 h10 h12 h13 h14 h19 h20 h21 h22 h23 hS_ hl
          obtain ⟨x21, ex21, hf⟩ := lt_e hf
          refine lv_iinc (v := x21) (lv' := [(1, .int x21), (0, .ref (ad 21))]) hx hb dX8_renew_82 hl (k := 1) rfl (by rw [ex21]; rfl) (by decide) rfl (fun ls hl => ?_)
          refine lv_goto (tgt := 2) hx hb dX8_renew_85 (by decide) ?_
          exact ih x21 q20.1 q20.2.1 q20.2.2.1 q20.2.2.2 f17 C H locs ls hP hS hag h5 h6 h7 h9 h10 h12 h13 h14 h19 h20 h21 h22 h23 hS_ (lv_sub hl [1, 0] rfl) hf
        clear hf
        have hf := htq20
        refine lv_if_eq (tgt := 82) hx hb dX8_renew_38 (by decide) (fun c22 => ?_) (fun c22 => ?_)
        · have hf := it_e c22 hf
          obtain rfl := Option.some.inj hf
          exact jnq20 C H locs ls hP hS hag h5 h6 h7 h9 h10 h12 h13 h14 h19 h20 h21 h22 h23 hS_ (lv_sub hl [0, 1] rfl)
        · have hf := ie_e c22 hf
          refine lv_aload_n hx hb dX8_renew_41 rfl (lv_at hl 0 rfl) ?_
          refine r_get (own := RX8) (T := TX8) (n := 4) (ci := 8) (v := .ref (ad 23)) hx hb hts nX8 hown hK hP (by omega) h21 rfl 3 (by decide) k11 rfl dX8_renew_42 ?_
          refine lv_iload_n hx hb dX8_renew_45 rfl (lv_at hl 1 rfl) ?_
          obtain ⟨i23, hf⟩ := ix_e hf
          refine r_aldS2 hx hb hK hP (by omega) h23 i23 dX8_renew_46 (if_pos (vp_lt i23)) ?_
          obtain ⟨j25, ej25⟩ : ∃ z : Nat, z = Int32.toNatClampNeg x1 := ⟨_, rfl⟩
          rw [← ej25] at hf ⊢
          have hbj25 : isSB (24 + 3 * j25) := isSB_i (by rw [ej25]; exact vp_lt i23)
          refine W.eq (g2 := F0 m 47 ls [.ref (ad (24 + 3 * j25))]) rfl ?_
          refine lv_aload_n hx hb dX8_renew_47 rfl (lv_at hl 0 rfl) ?_
          refine r_get (own := RX8) (T := TX8) (n := 4) (ci := 8) (v := .ref (ad 5)) hx hb hts nX8 hown hK hP (by omega) h21 rfl 0 (by decide) k5 rfl dX8_renew_48 ?_
          refine lv_iload_n hx hb dX8_renew_51 rfl (lv_at hl 1 rfl) ?_
          refine lv_aload_n hx hb dX8_renew_52 rfl (lv_at hl 0 rfl) ?_
          refine r_get (own := RX8) (T := TX8) (n := 4) (ci := 8) (v := .ref (ad 5)) hx hb hts nX8 hown hK hP (by omega) h21 rfl 0 (by decide) k5 rfl dX8_renew_53 ?_
          refine r_getN (own := RX8) (T := TX7) (n := 16) (ci := 7) (v := .ref (ad 12)) hx hb hts nX7 hown hK hP (by omega) h5 rfl 6 (by decide) k12 rfl dX8_renew_56 ?_
          refine lv_iload_n hx hb dX8_renew_59 rfl (lv_at hl 1 rfl) ?_
          obtain ⟨i27, x26, ex26, hf⟩ := ri_e hf
          refine r_iald hx hb hK hP (by omega) h12 i27 dX8_renew_60 ex26 ?_
          refine lv_aload_n hx hb dX8_renew_61 rfl (lv_at hl 0 rfl) ?_
          refine r_get (own := RX8) (T := TX8) (n := 4) (ci := 8) (v := .ref (ad 5)) hx hb hts nX8 hown hK hP (by omega) h21 rfl 0 (by decide) k5 rfl dX8_renew_62 ?_
          refine r_getN (own := RX8) (T := TX7) (n := 16) (ci := 7) (v := .ref (ad 13)) hx hb hts nX7 hown hK hP (by omega) h5 rfl 7 (by decide) k13 rfl dX8_renew_65 ?_
          refine lv_iload_n hx hb dX8_renew_68 rfl (lv_at hl 1 rfl) ?_
          obtain ⟨i29, x28, ex28, hf⟩ := ri_e hf
          refine r_iald hx hb hK hP (by omega) h13 i29 dX8_renew_69 ex28 ?_
          refine lv_aload_n hx hb dX8_renew_70 rfl (lv_at hl 0 rfl) ?_
          refine r_get (own := RX8) (T := TX8) (n := 4) (ci := 8) (v := .ref (ad 5)) hx hb hts nX8 hown hK hP (by omega) h21 rfl 0 (by decide) k5 rfl dX8_renew_71 ?_
          refine r_getN (own := RX8) (T := TX7) (n := 16) (ci := 7) (v := .ref (ad 14)) hx hb hts nX7 hown hK hP (by omega) h5 rfl 8 (by decide) k14 rfl dX8_renew_74 ?_
          refine lv_iload_n hx hb dX8_renew_77 rfl (lv_at hl 1 rfl) ?_
          obtain ⟨i31, x30, ex30, hf⟩ := ri_e hf
          refine r_iald hx hb hK hP (by omega) h14 i31 dX8_renew_78 ex30 ?_
          obtain ⟨q32, hq32, hf⟩ := bd_e hf
          refine k_vW (va_runV (C := RX4) (As := [.ref (ad 5), .int x1, .int x26, .int x28, .int x30]) (rest := []) ⟨hx, hb, hml, hown, hts⟩ (c_X4_follow (l := l) (sz := H.size) (p1 := x1) (p2 := x26) (p3 := x28) (p4 := x30) (b := (24 + 3 * j25)) hN hI hbj25 h5 h6 h7 h9 hS_ hq32) (cwV 5 hts gX8_renew_X4_follow rfl rfl rfl (by decide +kernel) ⟨Nat.le_of_ble_eq_true rfl, Nat.le_of_ble_eq_true rfl⟩) (preV_of hK hP (isSB_0 hN hbj25) (hS_ (24 + 3 * j25) hbj25).1 rfl) rfl rfl hl.1 rfl (lv_room (Nat.le_of_ble_eq_true rfl)) dX8_renew_79 ⟨Nat.le_of_ble_eq_true rfl, Nat.le_of_ble_eq_true rfl⟩) hA hAd hS (fun C H locs hP hS hpo => ?_)
          obtain ⟨he, hS_⟩ := hpo
          have hag : ∀ i : Nat, i ≠ 22 ∧ (i < 24 ∨ 64 < i ∨ i = 60 ∨ i = 61) → C i = C0 i := fun i h => (he i (by omega)).trans (hag i h)
          have h5 := (he 5 (by decide)).trans h5
          have h6 := (he 6 (by decide)).trans h6
          have h7 := (he 7 (by decide)).trans h7
          have h9 := (he 9 (by decide)).trans h9
          have h10 := (he 10 (by decide)).trans h10
          have h12 := (he 12 (by decide)).trans h12
          have h13 := (he 13 (by decide)).trans h13
          have h14 := (he 14 (by decide)).trans h14
          have h19 := (he 19 (by decide)).trans h19
          have h20 := (he 20 (by decide)).trans h20
          have h21 := (he 21 (by decide)).trans h21
          have h22 := (he 22 (by decide)).trans h22
          have h23 := (he 23 (by decide)).trans h23
          obtain rfl := Option.some.inj hf
          exact jnq20 C H locs ls hP hS hag h5 h6 h7 h9 h10 h12 h13 h14 h19 h20 h21 h22 h23 hS_ (lv_sub hl [0, 1] rfl)
  refine key2 _ (fun x7 f8 f9 f10 f11 f12 C H locs ls hP hS hag h5 h6 h7 h9 h10 h12 h13 h14 h19 h20 h21 h22 h23 hS_ hl hf => ?_) FU 0 sF sL sT sU wa_g C H locs ls hP hS hag h5 h6 h7 h9 h10 h12 h13 h14 h19 h20 h21 h22 h23 hS_ (lv_sub hl [1, 0] rfl) hf
  obtain rfl := Option.some.inj hf
  rw [← hQ]
  exact e_vW hx hb hr hP hS ⟨hag, h22, hS_⟩ hlocks dX8_renew_88

def f_X8_flowAt (p0 : Int32) (p1 : Int32) (t_rain : Nat → Int32) (wa_g : Nat → Int32) : Option (Int32) :=
  ri wa_g 12 (p0) fun x1 =>
  ri t_rain 24 (p1) fun x3 =>
  nz (10) <|
  lt (((x1 * (10 + x3)) / 10) : Int32) fun x6 =>
  if 1 ≤ x6 then
    some (x6)
  else
    some (1)
abbrev rmX8_flowAt : Room := { frames := 0, cells := 0, slots := 0, locals := 0 }
set_option maxHeartbeats 4000000 in
set_option maxRecDepth 100000 in
theorem c_X8_flowAt {l : Launch} {D : va_G} {g : Nat → ClassId} {N : Nat} {ad : Nat → Nat} {C : Nat → va_E} {sz : Nat} {t_there : Int32} {t_lift : Int32} {t_none : Int32} {t_rain : Nat → Int32} {wa_g : Nat → Int32} {p0 : Int32} {p1 : Int32} {rr : Int32} (hN : 86 ≤ N) (h5 : C 5 = .inr (7, [.ref (ad 6), .ref (ad 7), .ref (ad 8), .ref (ad 9), .ref (ad 10), .ref (ad 11), .ref (ad 12), .ref (ad 13), .ref (ad 14), .ref (ad 15), .ref (ad 16), .ref (ad 17), .ref (ad 18), .int t_there, .int t_lift, .int t_none])) (h15 : C 15 = aI g 24 t_rain) (h21 : C 21 = .inr (8, [.ref (ad 5), .ref (ad 19), .ref (ad 22), .ref (ad 23)])) (h22 : C 22 = aI g 12 wa_g) (hf : f_X8_flowAt p0 p1 t_rain wa_g = some rr) : Met l yX8_flowAt wsX8_flowAt rmX8_flowAt (PcW D g N ad C sz [.ref (ad 21), .int p0, .int p1]) (QiR sz tP rr) 0 0 (An sz) := by
  refine Met.ofW (cc := cX8_flowAt) (maxL := 4) (ret := (some .int)) (by decide) rfl ?_
  intro p e s m args below meth c s₁ B hml hv
  obtain ⟨hav, hsz, hK, hP⟩ := hv
  subst hsz
  have hx := B.exec
  have hb := B.bytes
  have hr := B.returns
  have hts := atoms_spec (ws := wsX8_flowAt) B.pre
  have hown : s.vm.findClass RX8 = some m.cls := findClass_of_methodNamed B.named
  have hlocks := B.notSynchronized
  generalize hQ : MQ below (QiR s.heap.size tP rr) args s 0 0 (An s.heap.size) = QQ
  have hS : va_S (An s.heap.size) s.heap s.heap [] := va_S.rf
  have hA : ∀ q, s.heap.size ≤ q → (An s.heap.size) q := fun q h => h
  have k0 := hts (.fieldLink RX8 9 "UpDrain$Water" "gathered" "[I") (List.mem_of_getElem? (i := 1) rfl)
  have nX8 : ∀ w ∈ u_ws RX8 TX8 4, w ∈ wsX8_flowAt := fun _ h => List.mem_cons_of_mem _ (List.mem_append_left _ (List.mem_append_right _ h))
  have k2 := hts (.fieldLink RX8 21 "UpDrain$Water" "plan" "LUpDrain$Town;") (List.mem_of_getElem? (i := 2) rfl)
  have k3 := nf_27 (A := args) hK
  have nX7 : ∀ w ∈ u_ws RX7 TX7 16, w ∈ wsX8_flowAt := fun _ h => List.mem_cons_of_mem _ (List.mem_append_right _ h)
  have hE := lg_entry_eq m [.ref (ad 21), .int p0, .int p1] 4
  rw [← hav] at hE
  rw [hE]
  have hl := lv_entry [.ref (ad 21), .int p0, .int p1] (n := 4) (Nat.le_of_ble_eq_true rfl)
  generalize (lg_sl [.ref (ad 21), .int p0, .int p1] ++ List.replicate (4 - (lg_sl [.ref (ad 21), .int p0, .int p1]).length) Slot.unset).toArray = ls at hl ⊢
  have hl : lv_has ls 4 [(0, .ref (ad 21)), (1, .int p0), (2, .int p1)] := hl
  clear hE
  unfold f_X8_flowAt at hf
  suffices hgo : ∀ (H : Heap) (locs : List Loc), va_P D vwCl (wd N ad C) H → va_S (An s.heap.size) s.heap H locs → W p l e (headSpec wsX8_flowAt rmX8_flowAt).room s m args below meth c H locs 0 0 QQ (F0 m 0 ls []) from hgo s.heap [] hP hS
  clear hS hP
  intro H locs hP hS
  refine lv_aload_n hx hb dX8_flowAt_0 rfl (lv_at hl 0 rfl) ?_
  refine r_get (own := RX8) (T := TX8) (n := 4) (ci := 8) (v := .ref (ad 22)) hx hb hts nX8 hown hK hP (by omega) h21 rfl 2 (by decide) k0 rfl dX8_flowAt_1 ?_
  refine lv_iload_n hx hb dX8_flowAt_4 rfl (lv_at hl 1 rfl) ?_
  obtain ⟨i2, x1, ex1, hf⟩ := ri_e hf
  refine r_iald hx hb hK hP (by omega) h22 i2 dX8_flowAt_5 ex1 ?_
  refine lv_bipush (v := 10) hx hb dX8_flowAt_6 (by decide) ?_
  refine lv_aload_n hx hb dX8_flowAt_8 rfl (lv_at hl 0 rfl) ?_
  refine r_get (own := RX8) (T := TX8) (n := 4) (ci := 8) (v := .ref (ad 5)) hx hb hts nX8 hown hK hP (by omega) h21 rfl 0 (by decide) k2 rfl dX8_flowAt_9 ?_
  refine r_getN (own := RX8) (T := TX7) (n := 16) (ci := 7) (v := .ref (ad 15)) hx hb hts nX7 hown hK hP (by omega) h5 rfl 9 (by decide) k3 rfl dX8_flowAt_12 ?_
  refine lv_iload_n hx hb dX8_flowAt_15 rfl (lv_at hl 2 rfl) ?_
  obtain ⟨i4, x3, ex3, hf⟩ := ri_e hf
  refine r_iald hx hb hK hP (by omega) h15 i4 dX8_flowAt_16 ex3 ?_
  refine lv_iadd hx hb dX8_flowAt_17 ?_
  refine lv_imul hx hb dX8_flowAt_18 ?_
  refine lv_bipush (v := 10) hx hb dX8_flowAt_19 (by decide) ?_
  obtain ⟨z5, hf⟩ := nz_e hf
  refine lv_idiv hx hb dX8_flowAt_21 z5 ?_
  obtain ⟨x6, ex6, hf⟩ := lt_e hf
  refine tp_i ex6 ?_
  refine lv_istore_n (lv' := [(3, .int x6), (0, .ref (ad 21)), (1, .int p0), (2, .int p1)]) hx hb dX8_flowAt_22 rfl hl (by decide) rfl (fun ls hl => ?_)
  refine lv_iload_n hx hb dX8_flowAt_23 rfl (lv_at hl 0 rfl) ?_
  refine lv_iconst (v := 1) hx hb dX8_flowAt_24 (by decide) ?_
  refine lv_icmp_ge (tgt := 32) hx hb dX8_flowAt_25 (by decide) (fun c7 => ?_) (fun c7 => ?_)
  · have hf := it_e c7 hf
    refine lv_iload_n hx hb dX8_flowAt_32 rfl (lv_at hl 0 rfl) ?_
    obtain rfl := Option.some.inj hf
    rw [← hQ]
    exact e_iR hx hb hr rfl (tP_i _) hS hlocks dX8_flowAt_33
  · have hf := ie_e c7 hf
    refine lv_iconst (v := 1) hx hb dX8_flowAt_28 (by decide) ?_
    refine lv_goto (tgt := 33) hx hb dX8_flowAt_29 (by decide) ?_
    obtain rfl := Option.some.inj hf
    rw [← hQ]
    exact e_iR hx hb hr rfl (tP_i _) hS hlocks dX8_flowAt_33

def f_X8_thinAt (p0 : Int32) (p1 : Int32) (p2 : Option Nat) (p3 : Option Nat) (t_rain : Nat → Int32) (wa_g : Nat → Int32) (sL : Nat → Nat → Int32) (sT : Nat → Nat → Int32) (sF : Nat → Int32) (sU : Nat → Int32) : Option (Int32) :=
  (om p2 (
    some (0)) fun b10 =>
    (f_X4_amountAt b10 p0 p1 sL sT sF sU).bind fun q12 =>
    lt ((0 + q12) : Int32) fun x13 =>
    some (x13) : Option (Int32)).bind fun q1 =>
  (om p3 (
    some (q1)) fun b6 =>
    (f_X4_amountAt b6 p0 p1 sL sT sF sU).bind fun q8 =>
    lt ((q1 + q8) : Int32) fun x9 =>
    some (x9) : Option (Int32)).bind fun q2 =>
  nz (60) <|
  (f_X8_flowAt p0 (p1 / 60) t_rain wa_g).bind fun q4 =>
  nz (q4) <|
  some (((1000 * q2) / q4))
abbrev rmX8_thinAt : Room := { frames := 1, cells := 0, slots := 0, locals := 23 }
set_option maxHeartbeats 4000000 in
set_option maxRecDepth 100000 in
theorem c_X8_thinAt {l : Launch} {D : va_G} {g : Nat → ClassId} {N : Nat} {ad : Nat → Nat} {C : Nat → va_E} {sz : Nat} {t_there : Int32} {t_lift : Int32} {t_none : Int32} {t_rain : Nat → Int32} {wa_g : Nat → Int32} {sL : Nat → Nat → Int32} {sT : Nat → Nat → Int32} {sF : Nat → Int32} {sU : Nat → Int32} {p0 : Int32} {p1 : Int32} {p2 : Option Nat} {p3 : Option Nat} {rr : Int32} (hN : 86 ≤ N) (hb_p2 : ∀ b : Nat, p2 = some b → isSB b) (hb_p3 : ∀ b : Nat, p3 = some b → isSB b) (h5 : C 5 = .inr (7, [.ref (ad 6), .ref (ad 7), .ref (ad 8), .ref (ad 9), .ref (ad 10), .ref (ad 11), .ref (ad 12), .ref (ad 13), .ref (ad 14), .ref (ad 15), .ref (ad 16), .ref (ad 17), .ref (ad 18), .int t_there, .int t_lift, .int t_none])) (h15 : C 15 = aI g 24 t_rain) (h21 : C 21 = .inr (8, [.ref (ad 5), .ref (ad 19), .ref (ad 22), .ref (ad 23)])) (h22 : C 22 = aI g 12 wa_g) (hS_ : PoolS g ad C sL sT sF sU) (hf : f_X8_thinAt p0 p1 p2 p3 t_rain wa_g sL sT sF sU = some rr) : Met l yX8_thinAt wsX8_thinAt rmX8_thinAt (PcW D g N ad C sz [.ref (ad 21), .int p0, .int p1, va_rf (Option.map ad p2), va_rf (Option.map ad p3)]) (QiR sz tP rr) 0 0 (An sz) := by
  refine Met.ofW (cc := cX8_thinAt) (maxL := 6) (ret := (some .int)) (by decide) rfl ?_
  intro p e s m args below meth c s₁ B hml hv
  obtain ⟨hav, hsz, hK, hP⟩ := hv
  subst hsz
  have hx := B.exec
  have hb := B.bytes
  have hr := B.returns
  have hts := atoms_spec (ws := wsX8_thinAt) B.pre
  have hown : s.vm.findClass RX8 = some m.cls := findClass_of_methodNamed B.named
  have hlocks := B.notSynchronized
  generalize hQ : MQ below (QiR s.heap.size tP rr) args s 0 0 (An s.heap.size) = QQ
  have hS : va_S (An s.heap.size) s.heap s.heap [] := va_S.rf
  have hA : ∀ q, s.heap.size ≤ q → (An s.heap.size) q := fun q h => h
  have hE := lg_entry_eq m [.ref (ad 21), .int p0, .int p1, va_rf (Option.map ad p2), va_rf (Option.map ad p3)] 6
  rw [← hav] at hE
  rw [hE]
  have hl : lv_has (lg_sl [.ref (ad 21), .int p0, .int p1, va_rf (Option.map ad p2), va_rf (Option.map ad p3)] ++ List.replicate (6 - (lg_sl [.ref (ad 21), .int p0, .int p1, va_rf (Option.map ad p2), va_rf (Option.map ad p3)]).length) Slot.unset).toArray 6 [(0, .ref (ad 21)), (1, .int p0), (2, .int p1), (3, va_rf (Option.map ad p2)), (4, va_rf (Option.map ad p3))] := by cases p2 <;> cases p3 <;> exact lv_entry _ (n := 6) (Nat.le_of_ble_eq_true rfl)
  generalize (lg_sl [.ref (ad 21), .int p0, .int p1, va_rf (Option.map ad p2), va_rf (Option.map ad p3)] ++ List.replicate (6 - (lg_sl [.ref (ad 21), .int p0, .int p1, va_rf (Option.map ad p2), va_rf (Option.map ad p3)]).length) Slot.unset).toArray = ls at hl ⊢
  have hl : lv_has ls 6 [(0, .ref (ad 21)), (1, .int p0), (2, .int p1), (3, va_rf (Option.map ad p2)), (4, va_rf (Option.map ad p3))] := hl
  clear hE
  unfold f_X8_thinAt at hf
  suffices hgo : ∀ (H : Heap) (locs : List Loc), va_P D vwCl (wd N ad C) H → va_S (An s.heap.size) s.heap H locs → W p l e (headSpec wsX8_thinAt rmX8_thinAt).room s m args below meth c H locs 0 0 QQ (F0 m 0 ls []) from hgo s.heap [] hP hS
  clear hS hP
  intro H locs hP hS
  refine lv_iconst (v := 0) hx hb dX8_thinAt_0 (by decide) ?_
  refine lv_istore (lv' := [(5, .int 0), (0, .ref (ad 21)), (1, .int p0), (2, .int p1), (3, va_rf (Option.map ad p2)), (4, va_rf (Option.map ad p3))]) hx hb dX8_thinAt_1 hl (by decide) (by cases p3 <;> rfl) (fun ls hl => ?_)
  refine r_alq_n hx hb dX8_thinAt_3 rfl (lv_at hl 4 rfl) ?_
  obtain ⟨q1, htq1, hf⟩ := bd_e hf
  have jnq1 : ∀ (C : Nat → va_E) (H : Heap) (locs : List Loc) (ls : Array Slot), va_P D vwCl (wd N ad C) H → va_S (An s.heap.size) s.heap H locs → C 5 = .inr (7, [.ref (ad 6), .ref (ad 7), .ref (ad 8), .ref (ad 9), .ref (ad 10), .ref (ad 11), .ref (ad 12), .ref (ad 13), .ref (ad 14), .ref (ad 15), .ref (ad 16), .ref (ad 17), .ref (ad 18), .int t_there, .int t_lift, .int t_none]) → C 15 = aI g 24 t_rain → C 21 = .inr (8, [.ref (ad 5), .ref (ad 19), .ref (ad 22), .ref (ad 23)]) → C 22 = aI g 12 wa_g → PoolS g ad C sL sT sF sU → lv_has ls 6 [(0, .ref (ad 21)), (1, .int p0), (2, .int p1), (3, va_rf (Option.map ad p2)), (4, va_rf (Option.map ad p3)), (5, .int q1)] → W p l e (headSpec wsX8_thinAt rmX8_thinAt).room s m args below meth c H locs 0 0 QQ (F0 m 18 ls []) := by
    intro C H locs ls hP hS h5 h15 h21 h22 hS_ hl
    refine r_alq hx hb dX8_thinAt_18 (lv_at hl 4 rfl) ?_
    obtain ⟨q2, htq2, hf⟩ := bd_e hf
    have jnq2 : ∀ (C : Nat → va_E) (H : Heap) (locs : List Loc) (ls : Array Slot), va_P D vwCl (wd N ad C) H → va_S (An s.heap.size) s.heap H locs → C 5 = .inr (7, [.ref (ad 6), .ref (ad 7), .ref (ad 8), .ref (ad 9), .ref (ad 10), .ref (ad 11), .ref (ad 12), .ref (ad 13), .ref (ad 14), .ref (ad 15), .ref (ad 16), .ref (ad 17), .ref (ad 18), .int t_there, .int t_lift, .int t_none]) → C 15 = aI g 24 t_rain → C 21 = .inr (8, [.ref (ad 5), .ref (ad 19), .ref (ad 22), .ref (ad 23)]) → C 22 = aI g 12 wa_g → PoolS g ad C sL sT sF sU → lv_has ls 6 [(0, .ref (ad 21)), (1, .int p0), (2, .int p1), (3, va_rf (Option.map ad p2)), (4, va_rf (Option.map ad p3)), (5, .int q2)] → W p l e (headSpec wsX8_thinAt rmX8_thinAt).room s m args below meth c H locs 0 0 QQ (F0 m 35 ls []) := by
      intro C H locs ls hP hS h5 h15 h21 h22 hS_ hl
      refine lv_sipush (v := 1000) hx hb dX8_thinAt_35 (by decide) ?_
      refine lv_iload hx hb dX8_thinAt_38 (lv_at hl 5 rfl) ?_
      refine lv_imul hx hb dX8_thinAt_40 ?_
      refine lv_aload_n hx hb dX8_thinAt_41 rfl (lv_at hl 0 rfl) ?_
      refine lv_iload_n hx hb dX8_thinAt_42 rfl (lv_at hl 1 rfl) ?_
      refine lv_iload_n hx hb dX8_thinAt_43 rfl (lv_at hl 2 rfl) ?_
      refine lv_bipush (v := 60) hx hb dX8_thinAt_44 (by decide) ?_
      obtain ⟨z3, hf⟩ := nz_e hf
      refine lv_idiv hx hb dX8_thinAt_46 z3 ?_
      obtain ⟨q4, hq4, hf⟩ := bd_e hf
      refine k_iR (va_runV (C := RX8) (As := [.int p0, .int (p1 / 60)]) (rest := [.int (1000 * q2)]) ⟨hx, hb, hml, hown, hts⟩ (c_X8_flowAt (l := l) (sz := H.size) (p0 := p0) (p1 := (p1 / 60)) hN h5 h15 h21 h22 hq4) (cwV 2 hts gX8_thinAt_X8_flowAt rfl rfl rfl (by decide +kernel) ⟨Nat.le_of_ble_eq_true rfl, Nat.le_of_ble_eq_true rfl⟩) (preV_of hK hP (by omega) h21 rfl) rfl rfl hl.1 rfl (lv_room (Nat.le_of_ble_eq_true rfl)) dX8_thinAt_47 ⟨Nat.le_of_ble_eq_true rfl, Nat.le_of_ble_eq_true rfl⟩) hA hP hS (fun H locs hP hS hbz_q4 => ?_)
      obtain ⟨z5, hf⟩ := nz_e hf
      refine lv_idiv hx hb dX8_thinAt_50 z5 ?_
      obtain rfl := Option.some.inj hf
      rw [← hQ]
      exact e_iR hx hb hr rfl (tP_i _) hS hlocks dX8_thinAt_51
    clear hf
    have hf := htq2
    rcases om_c p3 with u7 | ⟨b6, u7⟩
    · have hf := om_n u7 hf
      refine r_rfn u7 ?_
      refine lv_ifnullN (tgt := 35) hx hb dX8_thinAt_20 (by decide) ?_
      obtain rfl := Option.some.inj hf
      exact jnq2 C H locs ls hP hS h5 h15 h21 h22 hS_ (lv_sub hl [0, 1, 2, 3, 4, 5] rfl)
    · have hf := om_s u7 hf
      refine r_rfs u7 ?_
      refine lv_ifnull hx hb dX8_thinAt_20 ?_
      refine lv_iload hx hb dX8_thinAt_23 (lv_at hl 5 rfl) ?_
      refine r_alq hx hb dX8_thinAt_25 (lv_at hl 4 rfl) ?_
      refine r_rfs u7 ?_
      refine lv_iload_n hx hb dX8_thinAt_27 rfl (lv_at hl 1 rfl) ?_
      refine lv_iload_n hx hb dX8_thinAt_28 rfl (lv_at hl 2 rfl) ?_
      obtain ⟨q8, hq8, hf⟩ := bd_e hf
      refine k_iR (va_runV (C := RX4) (As := [.int p0, .int p1]) (rest := [.int q1]) ⟨hx, hb, hml, hown, hts⟩ (c_X4_amountAt (l := l) (sz := H.size) (p0 := p0) (p1 := p1) (b := b6) hN (hb_p3 _ u7) hS_ hq8) (cwV 2 hts gX8_thinAt_X4_amountAt rfl rfl rfl (by decide +kernel) ⟨Nat.le_of_ble_eq_true rfl, Nat.le_of_ble_eq_true rfl⟩) (preV_of hK hP (isSB_0 hN (hb_p3 _ u7)) (hS_ b6 (hb_p3 _ u7)).1 rfl) rfl rfl hl.1 rfl (lv_room (Nat.le_of_ble_eq_true rfl)) dX8_thinAt_29 ⟨Nat.le_of_ble_eq_true rfl, Nat.le_of_ble_eq_true rfl⟩) hA hP hS (fun H locs hP hS hbz_q8 => ?_)
      refine lv_iadd hx hb dX8_thinAt_32 ?_
      obtain ⟨x9, ex9, hf⟩ := lt_e hf
      refine tp_i ex9 ?_
      refine lv_istore (lv' := [(5, .int x9), (0, .ref (ad 21)), (1, .int p0), (2, .int p1), (3, va_rf (Option.map ad p2)), (4, va_rf (Option.map ad p3))]) hx hb dX8_thinAt_33 hl (by decide) (by cases p3 <;> rfl) (fun ls hl => ?_)
      obtain rfl := Option.some.inj hf
      exact jnq2 C H locs ls hP hS h5 h15 h21 h22 hS_ (lv_sub hl [1, 2, 3, 4, 5, 0] rfl)
  clear hf
  have hf := htq1
  rcases om_c p2 with u11 | ⟨b10, u11⟩
  · have hf := om_n u11 hf
    refine r_rfn u11 ?_
    refine lv_ifnullN (tgt := 18) hx hb dX8_thinAt_4 (by decide) ?_
    obtain rfl := Option.some.inj hf
    exact jnq1 C H locs ls hP hS h5 h15 h21 h22 hS_ (lv_sub hl [1, 2, 3, 4, 5, 0] rfl)
  · have hf := om_s u11 hf
    refine r_rfs u11 ?_
    refine lv_ifnull hx hb dX8_thinAt_4 ?_
    refine lv_iload hx hb dX8_thinAt_7 (lv_at hl 0 rfl) ?_
    refine r_alq_n hx hb dX8_thinAt_9 rfl (lv_at hl 4 rfl) ?_
    refine r_rfs u11 ?_
    refine lv_iload_n hx hb dX8_thinAt_10 rfl (lv_at hl 2 rfl) ?_
    refine lv_iload_n hx hb dX8_thinAt_11 rfl (lv_at hl 3 rfl) ?_
    obtain ⟨q12, hq12, hf⟩ := bd_e hf
    refine k_iR (va_runV (C := RX4) (As := [.int p0, .int p1]) (rest := [.int 0]) ⟨hx, hb, hml, hown, hts⟩ (c_X4_amountAt (l := l) (sz := H.size) (p0 := p0) (p1 := p1) (b := b10) hN (hb_p2 _ u11) hS_ hq12) (cwV 2 hts gX8_thinAt_X4_amountAt rfl rfl rfl (by decide +kernel) ⟨Nat.le_of_ble_eq_true rfl, Nat.le_of_ble_eq_true rfl⟩) (preV_of hK hP (isSB_0 hN (hb_p2 _ u11)) (hS_ b10 (hb_p2 _ u11)).1 rfl) rfl rfl hl.1 rfl (lv_room (Nat.le_of_ble_eq_true rfl)) dX8_thinAt_12 ⟨Nat.le_of_ble_eq_true rfl, Nat.le_of_ble_eq_true rfl⟩) hA hP hS (fun H locs hP hS hbz_q12 => ?_)
    refine lv_iadd hx hb dX8_thinAt_15 ?_
    obtain ⟨x13, ex13, hf⟩ := lt_e hf
    refine tp_i ex13 ?_
    refine lv_istore (lv' := [(5, .int x13), (0, .ref (ad 21)), (1, .int p0), (2, .int p1), (3, va_rf (Option.map ad p2)), (4, va_rf (Option.map ad p3))]) hx hb dX8_thinAt_16 hl (by decide) (by cases p3 <;> rfl) (fun ls hl => ?_)
    obtain rfl := Option.some.inj hf
    exact jnq1 C H locs ls hP hS h5 h15 h21 h22 hS_ (lv_sub hl [1, 2, 3, 4, 5, 0] rfl)

def LX8_pouredTogether_9 (p0 : Int32) (p1 : Int32) (p2 : Option Nat) (p3 : Option Nat) (t_rain : Nat → Int32) (wa_g : Nat → Int32) (sL : Nat → Nat → Int32) (sT : Nat → Nat → Int32) (sF : Nat → Int32) (sU : Nat → Int32) (ko : Int32 → Int32 → Int32 → Option (Int32)) : Nat → Int32 → Int32 → Int32 → Option (Int32)
  | 0, _, _, _ => none
  | n + 1, x1, x2, x3 =>
    if 12 ≤ x3 then
      ko x1 x2 x3
    else
      (f_X10_has p0 x3).bind fun q8 =>
      (if q8 = 0 then
        some (x1, x2)
      else
        (f_X8_thinAt x3 p1 p2 p3 t_rain wa_g sL sT sF sU).bind fun q12 =>
        lt ((x1 + q12) : Int32) fun x13 =>
        lt (x2 + 1 : Int32) fun x14 =>
        some (x13, x14) : Option (Int32 × Int32)).bind fun q9 =>
      lt (x3 + 1 : Int32) fun x10 =>
      LX8_pouredTogether_9 p0 p1 p2 p3 t_rain wa_g sL sT sF sU ko n q9.1 q9.2 x10
theorem LX8_pouredTogether_9_z (p0 : Int32) (p1 : Int32) (p2 : Option Nat) (p3 : Option Nat) (t_rain : Nat → Int32) (wa_g : Nat → Int32) (sL : Nat → Nat → Int32) (sT : Nat → Nat → Int32) (sF : Nat → Int32) (sU : Nat → Int32) (ko : Int32 → Int32 → Int32 → Option (Int32)) (x1 : Int32) (x2 : Int32) (x3 : Int32) : LX8_pouredTogether_9 p0 p1 p2 p3 t_rain wa_g sL sT sF sU ko 0 x1 x2 x3 = none := rfl
theorem LX8_pouredTogether_9_s (p0 : Int32) (p1 : Int32) (p2 : Option Nat) (p3 : Option Nat) (t_rain : Nat → Int32) (wa_g : Nat → Int32) (sL : Nat → Nat → Int32) (sT : Nat → Nat → Int32) (sF : Nat → Int32) (sU : Nat → Int32) (ko : Int32 → Int32 → Int32 → Option (Int32)) (n : Nat) (x1 : Int32) (x2 : Int32) (x3 : Int32) : LX8_pouredTogether_9 p0 p1 p2 p3 t_rain wa_g sL sT sF sU ko (n + 1) x1 x2 x3 =
    if 12 ≤ x3 then
      ko x1 x2 x3
    else
      (f_X10_has p0 x3).bind fun q8 =>
      (if q8 = 0 then
        some (x1, x2)
      else
        (f_X8_thinAt x3 p1 p2 p3 t_rain wa_g sL sT sF sU).bind fun q12 =>
        lt ((x1 + q12) : Int32) fun x13 =>
        lt (x2 + 1 : Int32) fun x14 =>
        some (x13, x14) : Option (Int32 × Int32)).bind fun q9 =>
      lt (x3 + 1 : Int32) fun x10 =>
      LX8_pouredTogether_9 p0 p1 p2 p3 t_rain wa_g sL sT sF sU ko n q9.1 q9.2 x10 := rfl
def f_X8_pouredTogether (p0 : Int32) (p1 : Int32) (p2 : Option Nat) (p3 : Option Nat) (t_rain : Nat → Int32) (wa_g : Nat → Int32) (sL : Nat → Nat → Int32) (sT : Nat → Nat → Int32) (sF : Nat → Int32) (sU : Nat → Int32) : Option (Int32) :=
  LX8_pouredTogether_9 p0 p1 p2 p3 t_rain wa_g sL sT sF sU (fun x4 x5 x6 =>
    lt ((if 1 < x5 then x5 else 1) : Int32) fun x15 =>
    nz (x15) <|
    some ((x4 / x15))) FU 0 0 0
abbrev rmX8_pouredTogether : Room := { frames := 2, cells := 0, slots := 0, locals := 48 }
set_option maxHeartbeats 4000000 in
set_option maxRecDepth 100000 in
theorem c_X8_pouredTogether {l : Launch} {D : va_G} {g : Nat → ClassId} {N : Nat} {ad : Nat → Nat} {C : Nat → va_E} {sz : Nat} {t_there : Int32} {t_lift : Int32} {t_none : Int32} {t_rain : Nat → Int32} {wa_g : Nat → Int32} {sL : Nat → Nat → Int32} {sT : Nat → Nat → Int32} {sF : Nat → Int32} {sU : Nat → Int32} {p0 : Int32} {p1 : Int32} {p2 : Option Nat} {p3 : Option Nat} {rr : Int32} (hN : 86 ≤ N) (hb_p2 : ∀ b : Nat, p2 = some b → isSB b) (hb_p3 : ∀ b : Nat, p3 = some b → isSB b) (h5 : C 5 = .inr (7, [.ref (ad 6), .ref (ad 7), .ref (ad 8), .ref (ad 9), .ref (ad 10), .ref (ad 11), .ref (ad 12), .ref (ad 13), .ref (ad 14), .ref (ad 15), .ref (ad 16), .ref (ad 17), .ref (ad 18), .int t_there, .int t_lift, .int t_none])) (h15 : C 15 = aI g 24 t_rain) (h21 : C 21 = .inr (8, [.ref (ad 5), .ref (ad 19), .ref (ad 22), .ref (ad 23)])) (h22 : C 22 = aI g 12 wa_g) (hS_ : PoolS g ad C sL sT sF sU) (hf : f_X8_pouredTogether p0 p1 p2 p3 t_rain wa_g sL sT sF sU = some rr) : Met l yX8_pouredTogether wsX8_pouredTogether rmX8_pouredTogether (PcW D g N ad C sz [.ref (ad 21), .int p0, .int p1, va_rf (Option.map ad p2), va_rf (Option.map ad p3)]) (QiR sz tP rr) 0 0 (An sz) := by
  refine Met.ofW (cc := cX8_pouredTogether) (maxL := 8) (ret := (some .int)) (by decide) rfl ?_
  intro p e s m args below meth c s₁ B hml hv
  obtain ⟨hav, hsz, hK, hP⟩ := hv
  subst hsz
  have hx := B.exec
  have hb := B.bytes
  have hr := B.returns
  have hts := atoms_spec (ws := wsX8_pouredTogether) B.pre
  have hown : s.vm.findClass RX8 = some m.cls := findClass_of_methodNamed B.named
  have hlocks := B.notSynchronized
  generalize hQ : MQ below (QiR s.heap.size tP rr) args s 0 0 (An s.heap.size) = QQ
  have hS : va_S (An s.heap.size) s.heap s.heap [] := va_S.rf
  have hA : ∀ q, s.heap.size ≤ q → (An s.heap.size) q := fun q h => h
  have k0 := nm_6 hK
  have k1 := hts (.initialized RX10) (List.mem_of_getElem? (i := 6) rfl)
  have k2 := hts (.static yX10_has) (List.mem_of_getElem? (i := 5) rfl)
  have k3 := hts (.methodLink RX8 99 Lib.Math.max.name) (List.mem_of_getElem? (i := 1) rfl)
  have k4 := hts (.static Lib.Math.max.name) (List.mem_of_getElem? (i := 2) rfl)
  have k5 := hts (.initialized "java/lang/Math") (List.mem_of_getElem? (i := 3) rfl)
  have k6 := hts (.code Lib.Math.max.name Lib.Math.max.code 2 (some .int)) (List.mem_of_getElem? (i := 4) rfl)
  have hE := lg_entry_eq m [.ref (ad 21), .int p0, .int p1, va_rf (Option.map ad p2), va_rf (Option.map ad p3)] 8
  rw [← hav] at hE
  rw [hE]
  have hl : lv_has (lg_sl [.ref (ad 21), .int p0, .int p1, va_rf (Option.map ad p2), va_rf (Option.map ad p3)] ++ List.replicate (8 - (lg_sl [.ref (ad 21), .int p0, .int p1, va_rf (Option.map ad p2), va_rf (Option.map ad p3)]).length) Slot.unset).toArray 8 [(0, .ref (ad 21)), (1, .int p0), (2, .int p1), (3, va_rf (Option.map ad p2)), (4, va_rf (Option.map ad p3))] := by cases p2 <;> cases p3 <;> exact lv_entry _ (n := 8) (Nat.le_of_ble_eq_true rfl)
  generalize (lg_sl [.ref (ad 21), .int p0, .int p1, va_rf (Option.map ad p2), va_rf (Option.map ad p3)] ++ List.replicate (8 - (lg_sl [.ref (ad 21), .int p0, .int p1, va_rf (Option.map ad p2), va_rf (Option.map ad p3)]).length) Slot.unset).toArray = ls at hl ⊢
  have hl : lv_has ls 8 [(0, .ref (ad 21)), (1, .int p0), (2, .int p1), (3, va_rf (Option.map ad p2)), (4, va_rf (Option.map ad p3))] := hl
  clear hE
  unfold f_X8_pouredTogether at hf
  suffices hgo : ∀ (H : Heap) (locs : List Loc), va_P D vwCl (wd N ad C) H → va_S (An s.heap.size) s.heap H locs → W p l e (headSpec wsX8_pouredTogether rmX8_pouredTogether).room s m args below meth c H locs 0 0 QQ (F0 m 0 ls []) from hgo s.heap [] hP hS
  clear hS hP
  intro H locs hP hS
  refine lv_iconst (v := 0) hx hb dX8_pouredTogether_0 (by decide) ?_
  refine lv_istore (lv' := [(5, .int 0), (0, .ref (ad 21)), (1, .int p0), (2, .int p1), (3, va_rf (Option.map ad p2)), (4, va_rf (Option.map ad p3))]) hx hb dX8_pouredTogether_1 hl (by decide) (by cases p3 <;> rfl) (fun ls hl => ?_)
  refine lv_iconst (v := 0) hx hb dX8_pouredTogether_3 (by decide) ?_
  refine lv_istore (lv' := [(6, .int 0), (5, .int 0), (0, .ref (ad 21)), (1, .int p0), (2, .int p1), (3, va_rf (Option.map ad p2)), (4, va_rf (Option.map ad p3))]) hx hb dX8_pouredTogether_4 hl (by decide) rfl (fun ls hl => ?_)
  refine lv_iconst (v := 0) hx hb dX8_pouredTogether_6 (by decide) ?_
  refine lv_istore (lv' := [(7, .int 0), (6, .int 0), (5, .int 0), (0, .ref (ad 21)), (1, .int p0), (2, .int p1), (3, va_rf (Option.map ad p2)), (4, va_rf (Option.map ad p3))]) hx hb dX8_pouredTogether_7 hl (by decide) rfl (fun ls hl => ?_)
  have key9 : ∀ (ko : Int32 → Int32 → Int32 → Option (Int32)), (∀ (x4 : Int32) (x5 : Int32) (x6 : Int32) (C : Nat → va_E) (H : Heap) (locs : List Loc) (ls : Array Slot), va_P D vwCl (wd N ad C) H → va_S (An s.heap.size) s.heap H locs → C 5 = .inr (7, [.ref (ad 6), .ref (ad 7), .ref (ad 8), .ref (ad 9), .ref (ad 10), .ref (ad 11), .ref (ad 12), .ref (ad 13), .ref (ad 14), .ref (ad 15), .ref (ad 16), .ref (ad 17), .ref (ad 18), .int t_there, .int t_lift, .int t_none]) → C 15 = aI g 24 t_rain → C 21 = .inr (8, [.ref (ad 5), .ref (ad 19), .ref (ad 22), .ref (ad 23)]) → C 22 = aI g 12 wa_g → PoolS g ad C sL sT sF sU → lv_has ls 8 [(0, .ref (ad 21)), (1, .int p0), (2, .int p1), (3, va_rf (Option.map ad p2)), (4, va_rf (Option.map ad p3)), (5, .int x4), (6, .int x5), (7, .int x6)] → ko x4 x5 x6 = some rr → W p l e (headSpec wsX8_pouredTogether rmX8_pouredTogether).room s m args below meth c H locs 0 0 QQ (F0 m 49 ls [])) → ∀ (n : Nat) (x1 : Int32) (x2 : Int32) (x3 : Int32) (C : Nat → va_E) (H : Heap) (locs : List Loc) (ls : Array Slot), va_P D vwCl (wd N ad C) H → va_S (An s.heap.size) s.heap H locs → C 5 = .inr (7, [.ref (ad 6), .ref (ad 7), .ref (ad 8), .ref (ad 9), .ref (ad 10), .ref (ad 11), .ref (ad 12), .ref (ad 13), .ref (ad 14), .ref (ad 15), .ref (ad 16), .ref (ad 17), .ref (ad 18), .int t_there, .int t_lift, .int t_none]) → C 15 = aI g 24 t_rain → C 21 = .inr (8, [.ref (ad 5), .ref (ad 19), .ref (ad 22), .ref (ad 23)]) → C 22 = aI g 12 wa_g → PoolS g ad C sL sT sF sU → lv_has ls 8 [(0, .ref (ad 21)), (1, .int p0), (2, .int p1), (3, va_rf (Option.map ad p2)), (4, va_rf (Option.map ad p3)), (5, .int x1), (6, .int x2), (7, .int x3)] → LX8_pouredTogether_9 p0 p1 p2 p3 t_rain wa_g sL sT sF sU ko n x1 x2 x3 = some rr → W p l e (headSpec wsX8_pouredTogether rmX8_pouredTogether).room s m args below meth c H locs 0 0 QQ (F0 m 9 ls []) := by
    intro ko hko n
    induction n with
    | zero =>
      intro x1 x2 x3 C H locs ls hP hS h5 h15 h21 h22 hS_ hl hf
      rw [LX8_pouredTogether_9_z] at hf
      cases hf
    | succ n ih =>
      intro x1 x2 x3 C H locs ls hP hS h5 h15 h21 h22 hS_ hl hf
      rw [LX8_pouredTogether_9_s] at hf
      refine lv_iload hx hb dX8_pouredTogether_9 (lv_at hl 7 rfl) ?_
      refine lv_bipush (v := 12) hx hb dX8_pouredTogether_11 (by decide) ?_
      refine lv_icmp_ge (tgt := 49) hx hb dX8_pouredTogether_13 (by decide) (fun c7 => ?_) (fun c7 => ?_)
      · have hf := it_e c7 hf
        exact hko x1 x2 x3 C H locs ls hP hS h5 h15 h21 h22 hS_ (lv_sub hl [0, 1, 2, 3, 4, 5, 6, 7] rfl) hf
      · have hf := ie_e c7 hf
        refine lv_iload_n hx hb dX8_pouredTogether_16 rfl (lv_at hl 1 rfl) ?_
        refine lv_iload hx hb dX8_pouredTogether_17 (lv_at hl 7 rfl) ?_
        obtain ⟨q8, hq8, hf⟩ := bd_e hf
        refine k_iR (va_runSN (As := [.int p0, .int x3]) (rest := []) ⟨hx, hb, hml, hown, hts⟩ (c_X10_has (l := l) (sz := H.size) (p0 := p0) (p1 := x3) hq8) ⟨va_cnB 2 hts gX8_pouredTogether_X10_has_n45 rfl rfl rfl k0 k1 (by decide +kernel) ⟨Nat.le_of_ble_eq_true rfl, Nat.le_of_ble_eq_true rfl⟩, k2, trivial⟩ preS0 rfl rfl hl.1 rfl (lv_room (Nat.le_of_ble_eq_true rfl)) dX8_pouredTogether_19 ⟨Nat.le_of_ble_eq_true rfl, Nat.le_of_ble_eq_true rfl⟩) hA hP hS (fun H locs hP hS hbz_q8 => ?_)
        obtain ⟨q9, htq9, hf⟩ := bd_e hf
        have jnq9 : ∀ (C : Nat → va_E) (H : Heap) (locs : List Loc) (ls : Array Slot), va_P D vwCl (wd N ad C) H → va_S (An s.heap.size) s.heap H locs → C 5 = .inr (7, [.ref (ad 6), .ref (ad 7), .ref (ad 8), .ref (ad 9), .ref (ad 10), .ref (ad 11), .ref (ad 12), .ref (ad 13), .ref (ad 14), .ref (ad 15), .ref (ad 16), .ref (ad 17), .ref (ad 18), .int t_there, .int t_lift, .int t_none]) → C 15 = aI g 24 t_rain → C 21 = .inr (8, [.ref (ad 5), .ref (ad 19), .ref (ad 22), .ref (ad 23)]) → C 22 = aI g 12 wa_g → PoolS g ad C sL sT sF sU → lv_has ls 8 [(0, .ref (ad 21)), (1, .int p0), (2, .int p1), (3, va_rf (Option.map ad p2)), (4, va_rf (Option.map ad p3)), (5, .int q9.1), (6, .int q9.2), (7, .int x3)] → W p l e (headSpec wsX8_pouredTogether rmX8_pouredTogether).room s m args below meth c H locs 0 0 QQ (F0 m 43 ls []) := by
          intro C H locs ls hP hS h5 h15 h21 h22 hS_ hl
          obtain ⟨x10, ex10, hf⟩ := lt_e hf
          refine lv_iinc (v := x10) (lv' := [(7, .int x10), (0, .ref (ad 21)), (1, .int p0), (2, .int p1), (3, va_rf (Option.map ad p2)), (4, va_rf (Option.map ad p3)), (5, .int q9.1), (6, .int q9.2)]) hx hb dX8_pouredTogether_43 hl (k := 7) rfl (by rw [ex10]; rfl) (by decide) rfl (fun ls hl => ?_)
          refine lv_goto (tgt := 9) hx hb dX8_pouredTogether_46 (by decide) ?_
          exact ih q9.1 q9.2 x10 C H locs ls hP hS h5 h15 h21 h22 hS_ (lv_sub hl [1, 2, 3, 4, 5, 6, 7, 0] rfl) hf
        clear hf
        have hf := htq9
        refine lv_if_eq (tgt := 43) hx hb dX8_pouredTogether_22 (by decide) (fun c11 => ?_) (fun c11 => ?_)
        · have hf := it_e c11 hf
          obtain rfl := Option.some.inj hf
          exact jnq9 C H locs ls hP hS h5 h15 h21 h22 hS_ (lv_sub hl [0, 1, 2, 3, 4, 5, 6, 7] rfl)
        · have hf := ie_e c11 hf
          refine lv_iload hx hb dX8_pouredTogether_25 (lv_at hl 5 rfl) ?_
          refine lv_aload_n hx hb dX8_pouredTogether_27 rfl (lv_at hl 0 rfl) ?_
          refine lv_iload hx hb dX8_pouredTogether_28 (lv_at hl 7 rfl) ?_
          refine lv_iload_n hx hb dX8_pouredTogether_30 rfl (lv_at hl 2 rfl) ?_
          refine r_alq_n hx hb dX8_pouredTogether_31 rfl (lv_at hl 3 rfl) ?_
          refine r_alq hx hb dX8_pouredTogether_32 (lv_at hl 4 rfl) ?_
          obtain ⟨q12, hq12, hf⟩ := bd_e hf
          refine k_iR (va_runV (C := RX8) (As := [.int x3, .int p1, va_rf (Option.map ad p2), va_rf (Option.map ad p3)]) (rest := [.int x1]) ⟨hx, hb, hml, hown, hts⟩ (c_X8_thinAt (l := l) (sz := H.size) (p0 := x3) (p1 := p1) (p2 := p2) (p3 := p3) hN hb_p2 hb_p3 h5 h15 h21 h22 hS_ hq12) (cwV 4 hts gX8_pouredTogether_X8_thinAt rfl rfl rfl (by decide +kernel) ⟨Nat.le_of_ble_eq_true rfl, Nat.le_of_ble_eq_true rfl⟩) (preV_of hK hP (by omega) h21 rfl) rfl rfl hl.1 rfl (lv_room (Nat.le_of_ble_eq_true rfl)) dX8_pouredTogether_34 ⟨Nat.le_of_ble_eq_true rfl, Nat.le_of_ble_eq_true rfl⟩) hA hP hS (fun H locs hP hS hbz_q12 => ?_)
          refine lv_iadd hx hb dX8_pouredTogether_37 ?_
          obtain ⟨x13, ex13, hf⟩ := lt_e hf
          refine tp_i ex13 ?_
          refine lv_istore (lv' := [(5, .int x13), (0, .ref (ad 21)), (1, .int p0), (2, .int p1), (3, va_rf (Option.map ad p2)), (4, va_rf (Option.map ad p3)), (6, .int x2), (7, .int x3)]) hx hb dX8_pouredTogether_38 hl (by decide) (by cases p3 <;> rfl) (fun ls hl => ?_)
          obtain ⟨x14, ex14, hf⟩ := lt_e hf
          refine lv_iinc (v := x14) (lv' := [(6, .int x14), (5, .int x13), (0, .ref (ad 21)), (1, .int p0), (2, .int p1), (3, va_rf (Option.map ad p2)), (4, va_rf (Option.map ad p3)), (7, .int x3)]) hx hb dX8_pouredTogether_40 hl (k := 6) rfl (by rw [ex14]; rfl) (by decide) rfl (fun ls hl => ?_)
          obtain rfl := Option.some.inj hf
          exact jnq9 C H locs ls hP hS h5 h15 h21 h22 hS_ (lv_sub hl [2, 3, 4, 5, 6, 1, 0, 7] rfl)
  refine key9 _ (fun x4 x5 x6 C H locs ls hP hS h5 h15 h21 h22 hS_ hl hf => ?_) FU 0 0 0 C H locs ls hP hS h5 h15 h21 h22 hS_ (lv_sub hl [3, 4, 5, 6, 7, 2, 1, 0] rfl) hf
  refine lv_iload hx hb dX8_pouredTogether_49 (lv_at hl 5 rfl) ?_
  refine lv_iconst (v := 1) hx hb dX8_pouredTogether_51 (by decide) ?_
  refine lv_iload hx hb dX8_pouredTogether_52 (lv_at hl 6 rfl) ?_
  refine va_mmax (own := RX8) hx hb (hml.trans hl.1.symm) hown k3 k4 k5 k6 (Nat.le_of_ble_eq_true rfl) (Nat.le_of_ble_eq_true rfl) (Nat.le_refl _) (Nat.le_refl _) dX8_pouredTogether_54 ?_
  obtain ⟨x15, ex15, hf⟩ := lt_e hf
  refine tp_i ex15 ?_
  obtain ⟨z16, hf⟩ := nz_e hf
  refine lv_idiv hx hb dX8_pouredTogether_57 z16 ?_
  obtain rfl := Option.some.inj hf
  rw [← hQ]
  exact e_iR hx hb hr rfl (tP_i _) hS hlocks dX8_pouredTogether_58

def LX8_shouldSayYes_13 (p0 : Nat) (p1 : Option Nat) (p2 : Option Nat) (t_rain : Nat → Int32) (t_tell : Nat → Int32) (wa_g : Nat → Int32) (sL : Nat → Nat → Int32) (sT : Nat → Nat → Int32) (sF : Nat → Int32) (sU : Nat → Int32) (fC : Nat → Int32) (fS : Nat → Int32) (fM : Nat → Int32) (fT : Nat → Int32) (ko : Int32 → Option (Int32)) : Nat → Int32 → Option (Int32)
  | 0, _ => none
  | n + 1, x2 =>
    if (fT p0) ≤ x2 then
      ko x2
    else
      lt (((fM p0) + (x2 * 60)) : Int32) fun x5 =>
      (f_X8_pouredTogether (fS p0) x5 p1 p2 t_rain wa_g sL sT sF sU).bind fun q6 =>
      ri t_tell 4 ((fC p0)) fun x7 =>
      if q6 < x7 then
        lt (x2 + 1 : Int32) fun x10 =>
        LX8_shouldSayYes_13 p0 p1 p2 t_rain t_tell wa_g sL sT sF sU fC fS fM fT ko n x10
      else
        some (1)
theorem LX8_shouldSayYes_13_z (p0 : Nat) (p1 : Option Nat) (p2 : Option Nat) (t_rain : Nat → Int32) (t_tell : Nat → Int32) (wa_g : Nat → Int32) (sL : Nat → Nat → Int32) (sT : Nat → Nat → Int32) (sF : Nat → Int32) (sU : Nat → Int32) (fC : Nat → Int32) (fS : Nat → Int32) (fM : Nat → Int32) (fT : Nat → Int32) (ko : Int32 → Option (Int32)) (x2 : Int32) : LX8_shouldSayYes_13 p0 p1 p2 t_rain t_tell wa_g sL sT sF sU fC fS fM fT ko 0 x2 = none := rfl
theorem LX8_shouldSayYes_13_s (p0 : Nat) (p1 : Option Nat) (p2 : Option Nat) (t_rain : Nat → Int32) (t_tell : Nat → Int32) (wa_g : Nat → Int32) (sL : Nat → Nat → Int32) (sT : Nat → Nat → Int32) (sF : Nat → Int32) (sU : Nat → Int32) (fC : Nat → Int32) (fS : Nat → Int32) (fM : Nat → Int32) (fT : Nat → Int32) (ko : Int32 → Option (Int32)) (n : Nat) (x2 : Int32) : LX8_shouldSayYes_13 p0 p1 p2 t_rain t_tell wa_g sL sT sF sU fC fS fM fT ko (n + 1) x2 =
    if (fT p0) ≤ x2 then
      ko x2
    else
      lt (((fM p0) + (x2 * 60)) : Int32) fun x5 =>
      (f_X8_pouredTogether (fS p0) x5 p1 p2 t_rain wa_g sL sT sF sU).bind fun q6 =>
      ri t_tell 4 ((fC p0)) fun x7 =>
      if q6 < x7 then
        lt (x2 + 1 : Int32) fun x10 =>
        LX8_shouldSayYes_13 p0 p1 p2 t_rain t_tell wa_g sL sT sF sU fC fS fM fT ko n x10
      else
        some (1) := rfl
def f_X8_shouldSayYes (p0 : Nat) (p1 : Option Nat) (p2 : Option Nat) (t_rain : Nat → Int32) (t_tell : Nat → Int32) (wa_g : Nat → Int32) (sL : Nat → Nat → Int32) (sT : Nat → Nat → Int32) (sF : Nat → Int32) (sU : Nat → Int32) (fC : Nat → Int32) (fS : Nat → Int32) (fM : Nat → Int32) (fT : Nat → Int32) : Option (Int32) :=
  lt (
    LX8_shouldSayYes_13 p0 p1 p2 t_rain t_tell wa_g sL sT sF sU fC fS fM fT (fun x3 =>
      some (0)) FU 0 : Option (Int32)) fun k1 =>
  om p1 (
    om p2 (
      some (0)) fun b13 =>
      k1) fun b11 =>
    k1
abbrev rmX8_shouldSayYes : Room := { frames := 3, cells := 0, slots := 0, locals := 75 }
set_option maxHeartbeats 4000000 in
set_option maxRecDepth 100000 in
theorem c_X8_shouldSayYes {l : Launch} {D : va_G} {g : Nat → ClassId} {N : Nat} {ad : Nat → Nat} {C : Nat → va_E} {sz : Nat} {t_there : Int32} {t_lift : Int32} {t_none : Int32} {t_rain : Nat → Int32} {t_tell : Nat → Int32} {wa_g : Nat → Int32} {fC : Nat → Int32} {fS : Nat → Int32} {fM : Nat → Int32} {fT : Nat → Int32} {fY : Nat → Int32} {sL : Nat → Nat → Int32} {sT : Nat → Nat → Int32} {sF : Nat → Int32} {sU : Nat → Int32} {p0 : Nat} {p1 : Option Nat} {p2 : Option Nat} {rr : Int32} (hN : 86 ≤ N) (hb_p0 : isFB p0) (hb_p1 : ∀ b : Nat, p1 = some b → isSB b) (hb_p2 : ∀ b : Nat, p2 = some b → isSB b) (h5 : C 5 = .inr (7, [.ref (ad 6), .ref (ad 7), .ref (ad 8), .ref (ad 9), .ref (ad 10), .ref (ad 11), .ref (ad 12), .ref (ad 13), .ref (ad 14), .ref (ad 15), .ref (ad 16), .ref (ad 17), .ref (ad 18), .int t_there, .int t_lift, .int t_none])) (h15 : C 15 = aI g 24 t_rain) (h16 : C 16 = aI g 4 t_tell) (h21 : C 21 = .inr (8, [.ref (ad 5), .ref (ad 19), .ref (ad 22), .ref (ad 23)])) (h22 : C 22 = aI g 12 wa_g) (hF_ : PoolF C fC fS fM fT fY) (hS_ : PoolS g ad C sL sT sF sU) (hf : f_X8_shouldSayYes p0 p1 p2 t_rain t_tell wa_g sL sT sF sU fC fS fM fT = some rr) : Met l yX8_shouldSayYes wsX8_shouldSayYes rmX8_shouldSayYes (PcW D g N ad C sz [.ref (ad 21), .ref (ad p0), va_rf (Option.map ad p1), va_rf (Option.map ad p2)]) (QiR sz bz rr) 0 0 (An sz) := by
  refine Met.ofW (cc := cX8_shouldSayYes) (maxL := 6) (ret := (some .boolean)) (by decide) rfl ?_
  intro p e s m args below meth c s₁ B hml hv
  obtain ⟨hav, hsz, hK, hP⟩ := hv
  subst hsz
  have hx := B.exec
  have hb := B.bytes
  have hr := B.returns
  have hts := atoms_spec (ws := wsX8_shouldSayYes) B.pre
  have hown : s.vm.findClass RX8 = some m.cls := findClass_of_methodNamed B.named
  have hlocks := B.notSynchronized
  generalize hQ : MQ below (QiR s.heap.size bz rr) args s 0 0 (An s.heap.size) = QQ
  have hS : va_S (An s.heap.size) s.heap s.heap [] := va_S.rf
  have hA : ∀ q, s.heap.size ≤ q → (An s.heap.size) q := fun q h => h
  have k0 := nf_62 (A := args) hK
  have nX1 : ∀ w ∈ u_ws RX1 TX1 5, w ∈ wsX8_shouldSayYes := fun _ h => List.mem_cons_of_mem _ (List.mem_append_left _ (List.mem_append_left _ (List.mem_append_left _ (List.mem_append_right _ h))))
  have k2 := nf_61 (A := args) hK
  have k3 := nf_60 (A := args) hK
  have k4 := hts (.fieldLink RX8 21 "UpDrain$Water" "plan" "LUpDrain$Town;") (List.mem_of_getElem? (i := 1) rfl)
  have nX8 : ∀ w ∈ u_ws RX8 TX8 4, w ∈ wsX8_shouldSayYes := fun _ h => List.mem_cons_of_mem _ (List.mem_append_left _ (List.mem_append_left _ (List.mem_append_right _ h)))
  have k6 := nf_28 (A := args) hK
  have nX7 : ∀ w ∈ u_ws RX7 TX7 16, w ∈ wsX8_shouldSayYes := fun _ h => List.mem_cons_of_mem _ (List.mem_append_left _ (List.mem_append_right _ h))
  have k8 := nf_58 (A := args) hK
  have hE := lg_entry_eq m [.ref (ad 21), .ref (ad p0), va_rf (Option.map ad p1), va_rf (Option.map ad p2)] 6
  rw [← hav] at hE
  rw [hE]
  have hl : lv_has (lg_sl [.ref (ad 21), .ref (ad p0), va_rf (Option.map ad p1), va_rf (Option.map ad p2)] ++ List.replicate (6 - (lg_sl [.ref (ad 21), .ref (ad p0), va_rf (Option.map ad p1), va_rf (Option.map ad p2)]).length) Slot.unset).toArray 6 [(0, .ref (ad 21)), (1, .ref (ad p0)), (2, va_rf (Option.map ad p1)), (3, va_rf (Option.map ad p2))] := by cases p1 <;> cases p2 <;> exact lv_entry _ (n := 6) (Nat.le_of_ble_eq_true rfl)
  generalize (lg_sl [.ref (ad 21), .ref (ad p0), va_rf (Option.map ad p1), va_rf (Option.map ad p2)] ++ List.replicate (6 - (lg_sl [.ref (ad 21), .ref (ad p0), va_rf (Option.map ad p1), va_rf (Option.map ad p2)]).length) Slot.unset).toArray = ls at hl ⊢
  have hl : lv_has ls 6 [(0, .ref (ad 21)), (1, .ref (ad p0)), (2, va_rf (Option.map ad p1)), (3, va_rf (Option.map ad p2))] := hl
  clear hE
  unfold f_X8_shouldSayYes at hf
  suffices hgo : ∀ (H : Heap) (locs : List Loc), va_P D vwCl (wd N ad C) H → va_S (An s.heap.size) s.heap H locs → W p l e (headSpec wsX8_shouldSayYes rmX8_shouldSayYes).room s m args below meth c H locs 0 0 QQ (F0 m 0 ls []) from hgo s.heap [] hP hS
  clear hS hP
  intro H locs hP hS
  refine r_alq_n hx hb dX8_shouldSayYes_0 rfl (lv_at hl 2 rfl) ?_
  obtain ⟨k1, ek1, hf⟩ := lt_e hf
  have jnk1 : ∀ (C : Nat → va_E) (H : Heap) (locs : List Loc) (ls : Array Slot), va_P D vwCl (wd N ad C) H → va_S (An s.heap.size) s.heap H locs → C 5 = .inr (7, [.ref (ad 6), .ref (ad 7), .ref (ad 8), .ref (ad 9), .ref (ad 10), .ref (ad 11), .ref (ad 12), .ref (ad 13), .ref (ad 14), .ref (ad 15), .ref (ad 16), .ref (ad 17), .ref (ad 18), .int t_there, .int t_lift, .int t_none]) → C 15 = aI g 24 t_rain → C 16 = aI g 4 t_tell → C 21 = .inr (8, [.ref (ad 5), .ref (ad 19), .ref (ad 22), .ref (ad 23)]) → C 22 = aI g 12 wa_g → PoolF C fC fS fM fT fY → PoolS g ad C sL sT sF sU → lv_has ls 6 [(0, .ref (ad 21)), (1, .ref (ad p0)), (2, va_rf (Option.map ad p1)), (3, va_rf (Option.map ad p2))] → k1 = some rr → W p l e (headSpec wsX8_shouldSayYes rmX8_shouldSayYes).room s m args below meth c H locs 0 0 QQ (F0 m 10 ls []) := by
    intro C H locs ls hP hS h5 h15 h16 h21 h22 hF_ hS_ hl hf
    rw [ek1] at hf
    refine lv_iconst (v := 0) hx hb dX8_shouldSayYes_10 (by decide) ?_
    refine lv_istore (lv' := [(4, .int 0), (0, .ref (ad 21)), (1, .ref (ad p0)), (2, va_rf (Option.map ad p1)), (3, va_rf (Option.map ad p2))]) hx hb dX8_shouldSayYes_11 hl (by decide) (by cases p2 <;> rfl) (fun ls hl => ?_)
    have key13 : ∀ (ko : Int32 → Option (Int32)), (∀ (x3 : Int32) (C : Nat → va_E) (H : Heap) (locs : List Loc) (ls : Array Slot), va_P D vwCl (wd N ad C) H → va_S (An s.heap.size) s.heap H locs → C 5 = .inr (7, [.ref (ad 6), .ref (ad 7), .ref (ad 8), .ref (ad 9), .ref (ad 10), .ref (ad 11), .ref (ad 12), .ref (ad 13), .ref (ad 14), .ref (ad 15), .ref (ad 16), .ref (ad 17), .ref (ad 18), .int t_there, .int t_lift, .int t_none]) → C 15 = aI g 24 t_rain → C 16 = aI g 4 t_tell → C 21 = .inr (8, [.ref (ad 5), .ref (ad 19), .ref (ad 22), .ref (ad 23)]) → C 22 = aI g 12 wa_g → PoolF C fC fS fM fT fY → PoolS g ad C sL sT sF sU → lv_has ls 6 [(0, .ref (ad 21)), (1, .ref (ad p0)), (2, va_rf (Option.map ad p1)), (3, va_rf (Option.map ad p2)), (4, .int x3)] → ko x3 = some rr → W p l e (headSpec wsX8_shouldSayYes rmX8_shouldSayYes).room s m args below meth c H locs 0 0 QQ (F0 m 69 ls [])) → ∀ (n : Nat) (x2 : Int32) (C : Nat → va_E) (H : Heap) (locs : List Loc) (ls : Array Slot), va_P D vwCl (wd N ad C) H → va_S (An s.heap.size) s.heap H locs → C 5 = .inr (7, [.ref (ad 6), .ref (ad 7), .ref (ad 8), .ref (ad 9), .ref (ad 10), .ref (ad 11), .ref (ad 12), .ref (ad 13), .ref (ad 14), .ref (ad 15), .ref (ad 16), .ref (ad 17), .ref (ad 18), .int t_there, .int t_lift, .int t_none]) → C 15 = aI g 24 t_rain → C 16 = aI g 4 t_tell → C 21 = .inr (8, [.ref (ad 5), .ref (ad 19), .ref (ad 22), .ref (ad 23)]) → C 22 = aI g 12 wa_g → PoolF C fC fS fM fT fY → PoolS g ad C sL sT sF sU → lv_has ls 6 [(0, .ref (ad 21)), (1, .ref (ad p0)), (2, va_rf (Option.map ad p1)), (3, va_rf (Option.map ad p2)), (4, .int x2)] → LX8_shouldSayYes_13 p0 p1 p2 t_rain t_tell wa_g sL sT sF sU fC fS fM fT ko n x2 = some rr → W p l e (headSpec wsX8_shouldSayYes rmX8_shouldSayYes).room s m args below meth c H locs 0 0 QQ (F0 m 13 ls []) := by
      intro ko hko n
      induction n with
      | zero =>
        intro x2 C H locs ls hP hS h5 h15 h16 h21 h22 hF_ hS_ hl hf
        rw [LX8_shouldSayYes_13_z] at hf
        cases hf
      | succ n ih =>
        intro x2 C H locs ls hP hS h5 h15 h16 h21 h22 hF_ hS_ hl hf
        rw [LX8_shouldSayYes_13_s] at hf
        refine lv_iload hx hb dX8_shouldSayYes_13 (lv_at hl 4 rfl) ?_
        refine lv_aload_n hx hb dX8_shouldSayYes_15 rfl (lv_at hl 1 rfl) ?_
        refine r_getN (own := RX8) (T := TX1) (n := 5) (ci := 1) (v := .int (fT p0)) hx hb hts nX1 hown hK hP (isFB_0 hN hb_p0) (hF_ p0 hb_p0) rfl 3 (by decide) k0 rfl dX8_shouldSayYes_16 ?_
        refine lv_icmp_ge (tgt := 69) hx hb dX8_shouldSayYes_19 (by decide) (fun c4 => ?_) (fun c4 => ?_)
        · have hf := it_e c4 hf
          exact hko x2 C H locs ls hP hS h5 h15 h16 h21 h22 hF_ hS_ (lv_sub hl [0, 1, 2, 3, 4] rfl) hf
        · have hf := ie_e c4 hf
          refine lv_aload_n hx hb dX8_shouldSayYes_22 rfl (lv_at hl 1 rfl) ?_
          refine r_getN (own := RX8) (T := TX1) (n := 5) (ci := 1) (v := .int (fM p0)) hx hb hts nX1 hown hK hP (isFB_0 hN hb_p0) (hF_ p0 hb_p0) rfl 2 (by decide) k2 rfl dX8_shouldSayYes_23 ?_
          refine lv_iload hx hb dX8_shouldSayYes_26 (lv_at hl 4 rfl) ?_
          refine lv_bipush (v := 60) hx hb dX8_shouldSayYes_28 (by decide) ?_
          refine lv_imul hx hb dX8_shouldSayYes_30 ?_
          refine lv_iadd hx hb dX8_shouldSayYes_31 ?_
          obtain ⟨x5, ex5, hf⟩ := lt_e hf
          refine tp_i ex5 ?_
          refine lv_istore (lv' := [(5, .int x5), (0, .ref (ad 21)), (1, .ref (ad p0)), (2, va_rf (Option.map ad p1)), (3, va_rf (Option.map ad p2)), (4, .int x2)]) hx hb dX8_shouldSayYes_32 hl (by decide) rfl (fun ls hl => ?_)
          refine lv_aload_n hx hb dX8_shouldSayYes_34 rfl (lv_at hl 1 rfl) ?_
          refine lv_aload_n hx hb dX8_shouldSayYes_35 rfl (lv_at hl 2 rfl) ?_
          refine r_getN (own := RX8) (T := TX1) (n := 5) (ci := 1) (v := .int (fS p0)) hx hb hts nX1 hown hK hP (isFB_0 hN hb_p0) (hF_ p0 hb_p0) rfl 1 (by decide) k3 rfl dX8_shouldSayYes_36 ?_
          refine lv_iload hx hb dX8_shouldSayYes_39 (lv_at hl 0 rfl) ?_
          refine r_alq_n hx hb dX8_shouldSayYes_41 rfl (lv_at hl 3 rfl) ?_
          refine r_alq_n hx hb dX8_shouldSayYes_42 rfl (lv_at hl 4 rfl) ?_
          obtain ⟨q6, hq6, hf⟩ := bd_e hf
          refine k_iR (va_runV (C := RX8) (As := [.int (fS p0), .int x5, va_rf (Option.map ad p1), va_rf (Option.map ad p2)]) (rest := []) ⟨hx, hb, hml, hown, hts⟩ (c_X8_pouredTogether (l := l) (sz := H.size) (p0 := (fS p0)) (p1 := x5) (p2 := p1) (p3 := p2) hN hb_p1 hb_p2 h5 h15 h21 h22 hS_ hq6) (cwV 4 hts gX8_shouldSayYes_X8_pouredTogether rfl rfl rfl (by decide +kernel) ⟨Nat.le_of_ble_eq_true rfl, Nat.le_of_ble_eq_true rfl⟩) (preV_of hK hP (by omega) h21 rfl) rfl rfl hl.1 rfl (lv_room (Nat.le_of_ble_eq_true rfl)) dX8_shouldSayYes_43 ⟨Nat.le_of_ble_eq_true rfl, Nat.le_of_ble_eq_true rfl⟩) hA hP hS (fun H locs hP hS hbz_q6 => ?_)
          refine lv_aload_n hx hb dX8_shouldSayYes_46 rfl (lv_at hl 1 rfl) ?_
          refine r_get (own := RX8) (T := TX8) (n := 4) (ci := 8) (v := .ref (ad 5)) hx hb hts nX8 hown hK hP (by omega) h21 rfl 0 (by decide) k4 rfl dX8_shouldSayYes_47 ?_
          refine r_getN (own := RX8) (T := TX7) (n := 16) (ci := 7) (v := .ref (ad 16)) hx hb hts nX7 hown hK hP (by omega) h5 rfl 10 (by decide) k6 rfl dX8_shouldSayYes_50 ?_
          refine lv_aload_n hx hb dX8_shouldSayYes_53 rfl (lv_at hl 2 rfl) ?_
          refine r_getN (own := RX8) (T := TX1) (n := 5) (ci := 1) (v := .int (fC p0)) hx hb hts nX1 hown hK hP (isFB_0 hN hb_p0) (hF_ p0 hb_p0) rfl 0 (by decide) k8 rfl dX8_shouldSayYes_54 ?_
          obtain ⟨i8, x7, ex7, hf⟩ := ri_e hf
          refine r_iald hx hb hK hP (by omega) h16 i8 dX8_shouldSayYes_57 ex7 ?_
          refine lv_icmp_lt (tgt := 63) hx hb dX8_shouldSayYes_58 (by decide) (fun c9 => ?_) (fun c9 => ?_)
          · have hf := it_e c9 hf
            obtain ⟨x10, ex10, hf⟩ := lt_e hf
            refine lv_iinc (v := x10) (lv' := [(4, .int x10), (5, .int x5), (0, .ref (ad 21)), (1, .ref (ad p0)), (2, va_rf (Option.map ad p1)), (3, va_rf (Option.map ad p2))]) hx hb dX8_shouldSayYes_63 hl (k := 5) rfl (by rw [ex10]; rfl) (by decide) (by cases p2 <;> rfl) (fun ls hl => ?_)
            refine lv_goto (tgt := 13) hx hb dX8_shouldSayYes_66 (by decide) ?_
            exact ih x10 C H locs ls hP hS h5 h15 h16 h21 h22 hF_ hS_ (lv_sub hl [2, 3, 4, 5, 0] rfl) hf
          · have hf := ie_e c9 hf
            refine lv_iconst (v := 1) hx hb dX8_shouldSayYes_61 (by decide) ?_
            obtain rfl := Option.some.inj hf
            rw [← hQ]
            exact e_zR hx hb hr rfl bz1 hS hlocks dX8_shouldSayYes_62
    refine key13 _ (fun x3 C H locs ls hP hS h5 h15 h16 h21 h22 hF_ hS_ hl hf => ?_) FU 0 C H locs ls hP hS h5 h15 h16 h21 h22 hF_ hS_ (lv_sub hl [1, 2, 3, 4, 0] rfl) hf
    refine lv_iconst (v := 0) hx hb dX8_shouldSayYes_69 (by decide) ?_
    obtain rfl := Option.some.inj hf
    rw [← hQ]
    exact e_zR hx hb hr rfl bz0 hS hlocks dX8_shouldSayYes_70
  rcases om_c p1 with u12 | ⟨b11, u12⟩
  · have hf := om_n u12 hf
    refine r_rfn u12 ?_
    refine lv_ifnonnullN hx hb dX8_shouldSayYes_1 ?_
    refine r_alq_n hx hb dX8_shouldSayYes_4 rfl (lv_at hl 3 rfl) ?_
    rcases om_c p2 with u14 | ⟨b13, u14⟩
    · have hf := om_n u14 hf
      refine r_rfn u14 ?_
      refine lv_ifnonnullN hx hb dX8_shouldSayYes_5 ?_
      refine lv_iconst (v := 0) hx hb dX8_shouldSayYes_8 (by decide) ?_
      obtain rfl := Option.some.inj hf
      rw [← hQ]
      exact e_zR hx hb hr rfl bz0 hS hlocks dX8_shouldSayYes_9
    · have hf := om_s u14 hf
      refine r_rfs u14 ?_
      refine lv_ifnonnull (tgt := 10) hx hb dX8_shouldSayYes_5 (by decide) ?_
      exact jnk1 C H locs ls hP hS h5 h15 h16 h21 h22 hF_ hS_ (lv_sub hl [0, 1, 2, 3] rfl) hf
  · have hf := om_s u12 hf
    refine r_rfs u12 ?_
    refine lv_ifnonnull (tgt := 10) hx hb dX8_shouldSayYes_1 (by decide) ?_
    exact jnk1 C H locs ls hP hS h5 h15 h16 h21 h22 hF_ hS_ (lv_sub hl [0, 1, 2, 3] rfl) hf

def f_X6_doubt (th_k1 : Int32) (th_k2 : Int32) : Option (Int32 × Int32) :=
  some (0, 0)
abbrev rmX6_doubt : Room := { frames := 0, cells := 0, slots := 0, locals := 0 }
set_option maxHeartbeats 4000000 in
set_option maxRecDepth 100000 in
theorem c_X6_doubt {l : Launch} {D : va_G} {g : Nat → ClassId} {N : Nat} {ad : Nat → Nat} {C : Nat → va_E} {sz : Nat} {th_none : Int64} {th_all1 : Int64} {th_all2 : Int64} {th_k1 : Int32} {th_k2 : Int32} {th_size : Int32}  {rr : Int32 × Int32} (hN : 86 ≤ N) (hI : Inj N ad) (h60 : C 60 = .inr (6, [.ref (ad 5), .ref (ad 19), .ref (ad 21), .ref (ad 61), .ref (ad 62), .ref (ad 65), .ref (ad 66), .long th_none, .long th_all1, .long th_all2, .int th_k1, .int th_k2, .int th_size])) (hf : f_X6_doubt th_k1 th_k2 = some rr) : Met l yX6_doubt wsX6_doubt rmX6_doubt (PcW D g N ad C sz [.ref (ad 60)]) (QvW D N ad sz (fun C' => (∀ i : Nat, i ≠ 60 → C' i = C i) ∧ (C' 60 = .inr (6, [.ref (ad 5), .ref (ad 19), .ref (ad 21), .ref (ad 61), .ref (ad 62), .ref (ad 65), .ref (ad 66), .long th_none, .long th_all1, .long th_all2, .int rr.1, .int rr.2, .int th_size])))) 0 0 (Aw N ad sz) := by
  refine Met.ofW (cc := cX6_doubt) (maxL := 1) (ret := none) (by decide) rfl ?_
  intro p e s m args below meth c s₁ B hml hv
  obtain ⟨hav, hsz, hK, hP⟩ := hv
  subst hsz
  have hx := B.exec
  have hb := B.bytes
  have hr := B.returns
  have hts := atoms_spec (ws := wsX6_doubt) B.pre
  have hown : s.vm.findClass RX6 = some m.cls := findClass_of_methodNamed B.named
  have hlocks := B.notSynchronized
  generalize hQ : MQ below (QvW D N ad s.heap.size (fun C' => (∀ i : Nat, i ≠ 60 → C' i = C i) ∧ (C' 60 = .inr (6, [.ref (ad 5), .ref (ad 19), .ref (ad 21), .ref (ad 61), .ref (ad 62), .ref (ad 65), .ref (ad 66), .long th_none, .long th_all1, .long th_all2, .int rr.1, .int rr.2, .int th_size])))) args s 0 0 (Aw N ad s.heap.size) = QQ
  have hS : va_S (Aw N ad s.heap.size) s.heap s.heap [] := va_S.rf
  have hA : ∀ q, s.heap.size ≤ q → (Aw N ad s.heap.size) q := fun q h => Or.inr h
  have hAd : ∀ j : Nat, j < N → (Aw N ad s.heap.size) (ad j) := fun j h => Or.inl ⟨j, h, rfl⟩
  obtain ⟨C0, hC0⟩ : ∃ C0 : Nat → va_E, C0 = C := ⟨_, rfl⟩
  have hag : ∀ i : Nat, i ≠ 60 → C i = C0 i := fun i _ => by rw [hC0]
  rw [← hC0] at hQ
  have k0 := hts (.fieldLink RX6 44 "UpDrain$Thoughts" "knowsOne" "Z") (List.mem_of_getElem? (i := 1) rfl)
  have nX6 : ∀ w ∈ u_ws RX6 TX6 13, w ∈ wsX6_doubt := fun _ h => List.mem_cons_of_mem _ (List.mem_append_right _ h)
  have k2 := hts (.fieldLink RX6 48 "UpDrain$Thoughts" "knowsTwo" "Z") (List.mem_of_getElem? (i := 2) rfl)
  have hE := lg_entry_eq m [.ref (ad 60)] 1
  rw [← hav] at hE
  rw [hE]
  have hl := lv_entry [.ref (ad 60)] (n := 1) (Nat.le_of_ble_eq_true rfl)
  generalize (lg_sl [.ref (ad 60)] ++ List.replicate (1 - (lg_sl [.ref (ad 60)]).length) Slot.unset).toArray = ls at hl ⊢
  have hl : lv_has ls 1 [(0, .ref (ad 60))] := hl
  clear hE
  unfold f_X6_doubt at hf
  suffices hgo : ∀ (H : Heap) (locs : List Loc), va_P D vwCl (wd N ad C) H → va_S (Aw N ad s.heap.size) s.heap H locs → W p l e (headSpec wsX6_doubt rmX6_doubt).room s m args below meth c H locs 0 0 QQ (F0 m 0 ls []) from hgo s.heap [] hP hS
  clear hS hP
  intro H locs hP hS
  refine lv_aload_n hx hb dX6_doubt_0 rfl (lv_at hl 0 rfl) ?_
  refine lv_iconst (v := 0) hx hb dX6_doubt_1 (by decide) ?_
  refine r_put (own := RX6) (T := TX6) (n := 13) (ci := 6) (v := .int 0) hx hb hts nX6 tyX6 tyX6_ok nmX6 hown hK hI hAd hP hS (by omega) h60 rfl 10 (by decide) k0 rfl (bz_n bz0) (bz_f bz0) (Nat.le_of_ble_eq_true rfl) dX6_doubt_2 (fun C H locs hP hS he hn => ?_)
  have hag : ∀ i : Nat, i ≠ 60 → C i = C0 i := fun i h => (he i (by omega)).trans (hag i h)
  have h60 : C 60 = .inr (6, [.ref (ad 5), .ref (ad 19), .ref (ad 21), .ref (ad 61), .ref (ad 62), .ref (ad 65), .ref (ad 66), .long th_none, .long th_all1, .long th_all2, .int 0, .int th_k2, .int th_size]) := hn
  refine lv_aload_n hx hb dX6_doubt_5 rfl (lv_at hl 0 rfl) ?_
  refine lv_iconst (v := 0) hx hb dX6_doubt_6 (by decide) ?_
  refine r_put (own := RX6) (T := TX6) (n := 13) (ci := 6) (v := .int 0) hx hb hts nX6 tyX6 tyX6_ok nmX6 hown hK hI hAd hP hS (by omega) h60 rfl 11 (by decide) k2 rfl (bz_n bz0) (bz_f bz0) (Nat.le_of_ble_eq_true rfl) dX6_doubt_7 (fun C H locs hP hS he hn => ?_)
  have hag : ∀ i : Nat, i ≠ 60 → C i = C0 i := fun i h => (he i (by omega)).trans (hag i h)
  have h60 : C 60 = .inr (6, [.ref (ad 5), .ref (ad 19), .ref (ad 21), .ref (ad 61), .ref (ad 62), .ref (ad 65), .ref (ad 66), .long th_none, .long th_all1, .long th_all2, .int 0, .int 0, .int th_size]) := hn
  obtain rfl := Option.some.inj hf
  rw [← hQ]
  exact e_vW hx hb hr hP hS ⟨hag, h60⟩ hlocks dX6_doubt_10

def f_X6_keep (p0 : Int32) (p1 : Int32) (p2 : Int32) (p3 : Int32) (p4 : Int32) (th_k1 : Int32) (th_k2 : Int32) (th_size : Int32) (fC : Nat → Int32) (fS : Nat → Int32) (fM : Nat → Int32) (fT : Nat → Int32) (fY : Nat → Int32) : Option (Int32 × Int32 × Int32 × Int32 × (Nat → Int32) × (Nat → Int32) × (Nat → Int32) × (Nat → Int32) × (Nat → Int32)) :=
  (if 10 ≤ th_size then
    some (fC, fM, fS, fT, fY, th_k1, th_k2, th_size)
  else
    ix 10 (th_size) fun j5 =>
    (f_X1_put (67 + j5) p0 p1 p2 p3 p4 fC fS fM fT fY).bind fun q6 =>
    lt ((th_size + 1) : Int32) fun x7 =>
    (f_X6_doubt th_k1 th_k2).bind fun q8 =>
    some (q6.1, q6.2.2.1, q6.2.1, q6.2.2.2.1, q6.2.2.2.2, q8.1, q8.2, x7) : Option ((Nat → Int32) × (Nat → Int32) × (Nat → Int32) × (Nat → Int32) × (Nat → Int32) × Int32 × Int32 × Int32)).bind fun q1 =>
  some (q1.2.2.2.2.2.2.2, q1.2.2.2.2.2.1, q1.2.2.2.2.2.2.1, q1.2.2.2.2.2.2.2, q1.1, q1.2.2.1, q1.2.1, q1.2.2.2.1, q1.2.2.2.2.1)
abbrev rmX6_keep : Room := { frames := 1, cells := 0, slots := 0, locals := 25 }
set_option maxHeartbeats 4000000 in
set_option maxRecDepth 100000 in
theorem c_X6_keep {l : Launch} {D : va_G} {g : Nat → ClassId} {N : Nat} {ad : Nat → Nat} {C : Nat → va_E} {sz : Nat} {th_none : Int64} {th_all1 : Int64} {th_all2 : Int64} {th_k1 : Int32} {th_k2 : Int32} {th_size : Int32} {fC : Nat → Int32} {fS : Nat → Int32} {fM : Nat → Int32} {fT : Nat → Int32} {fY : Nat → Int32} {p0 : Int32} {p1 : Int32} {p2 : Int32} {p3 : Int32} {p4 : Int32} {rr : Int32 × Int32 × Int32 × Int32 × (Nat → Int32) × (Nat → Int32) × (Nat → Int32) × (Nat → Int32) × (Nat → Int32)} (hN : 86 ≤ N) (hI : Inj N ad) (hbz_p4 : bz p4) (h60 : C 60 = .inr (6, [.ref (ad 5), .ref (ad 19), .ref (ad 21), .ref (ad 61), .ref (ad 62), .ref (ad 65), .ref (ad 66), .long th_none, .long th_all1, .long th_all2, .int th_k1, .int th_k2, .int th_size])) (h61 : C 61 = aF g 10 (fun i => if i < 10 then some (ad (67 + i)) else none)) (hF_ : PoolF C fC fS fM fT fY) (hf : f_X6_keep p0 p1 p2 p3 p4 th_k1 th_k2 th_size fC fS fM fT fY = some rr) : Met l yX6_keep wsX6_keep rmX6_keep (PcW D g N ad C sz [.ref (ad 60), .int p0, .int p1, .int p2, .int p3, .int p4]) (QiW D N ad sz tP rr.1 (fun C' => (∀ i : Nat, i ≠ 60 ∧ (i < 67 ∨ 76 < i) ∧ i ≠ 85 → C' i = C i) ∧ (C' 60 = .inr (6, [.ref (ad 5), .ref (ad 19), .ref (ad 21), .ref (ad 61), .ref (ad 62), .ref (ad 65), .ref (ad 66), .long th_none, .long th_all1, .long th_all2, .int rr.2.1, .int rr.2.2.1, .int rr.2.2.2.1])) ∧ (PoolF C' rr.2.2.2.2.1 rr.2.2.2.2.2.1 rr.2.2.2.2.2.2.1 rr.2.2.2.2.2.2.2.1 rr.2.2.2.2.2.2.2.2))) 0 0 (Aw N ad sz) := by
  refine Met.ofW (cc := cX6_keep) (maxL := 6) (ret := (some .int)) (by decide) rfl ?_
  intro p e s m args below meth c s₁ B hml hv
  obtain ⟨hav, hsz, hK, hP⟩ := hv
  subst hsz
  have hx := B.exec
  have hb := B.bytes
  have hr := B.returns
  have hts := atoms_spec (ws := wsX6_keep) B.pre
  have hown : s.vm.findClass RX6 = some m.cls := findClass_of_methodNamed B.named
  have hlocks := B.notSynchronized
  generalize hQ : MQ below (QiW D N ad s.heap.size tP rr.1 (fun C' => (∀ i : Nat, i ≠ 60 ∧ (i < 67 ∨ 76 < i) ∧ i ≠ 85 → C' i = C i) ∧ (C' 60 = .inr (6, [.ref (ad 5), .ref (ad 19), .ref (ad 21), .ref (ad 61), .ref (ad 62), .ref (ad 65), .ref (ad 66), .long th_none, .long th_all1, .long th_all2, .int rr.2.1, .int rr.2.2.1, .int rr.2.2.2.1])) ∧ (PoolF C' rr.2.2.2.2.1 rr.2.2.2.2.2.1 rr.2.2.2.2.2.2.1 rr.2.2.2.2.2.2.2.1 rr.2.2.2.2.2.2.2.2))) args s 0 0 (Aw N ad s.heap.size) = QQ
  have hS : va_S (Aw N ad s.heap.size) s.heap s.heap [] := va_S.rf
  have hA : ∀ q, s.heap.size ≤ q → (Aw N ad s.heap.size) q := fun q h => Or.inr h
  have hAd : ∀ j : Nat, j < N → (Aw N ad s.heap.size) (ad j) := fun j h => Or.inl ⟨j, h, rfl⟩
  obtain ⟨C0, hC0⟩ : ∃ C0 : Nat → va_E, C0 = C := ⟨_, rfl⟩
  have hag : ∀ i : Nat, i ≠ 60 ∧ (i < 67 ∨ 76 < i) ∧ i ≠ 85 → C i = C0 i := fun i _ => by rw [hC0]
  rw [← hC0] at hQ
  have k0 := hts (.fieldLink RX6 51 "UpDrain$Thoughts" "size" "I") (List.mem_of_getElem? (i := 1) rfl)
  have nX6 : ∀ w ∈ u_ws RX6 TX6 13, w ∈ wsX6_keep := fun _ h => List.mem_cons_of_mem _ (List.mem_append_left _ (List.mem_append_right _ h))
  have k2 := hts (.fieldLink RX6 11 "UpDrain$Thoughts" "fillings" "[LUpDrain$Filling;") (List.mem_of_getElem? (i := 2) rfl)
  have hE := lg_entry_eq m [.ref (ad 60), .int p0, .int p1, .int p2, .int p3, .int p4] 6
  rw [← hav] at hE
  rw [hE]
  have hl := lv_entry [.ref (ad 60), .int p0, .int p1, .int p2, .int p3, .int p4] (n := 6) (Nat.le_of_ble_eq_true rfl)
  generalize (lg_sl [.ref (ad 60), .int p0, .int p1, .int p2, .int p3, .int p4] ++ List.replicate (6 - (lg_sl [.ref (ad 60), .int p0, .int p1, .int p2, .int p3, .int p4]).length) Slot.unset).toArray = ls at hl ⊢
  have hl : lv_has ls 6 [(0, .ref (ad 60)), (1, .int p0), (2, .int p1), (3, .int p2), (4, .int p3), (5, .int p4)] := hl
  clear hE
  unfold f_X6_keep at hf
  suffices hgo : ∀ (H : Heap) (locs : List Loc), va_P D vwCl (wd N ad C) H → va_S (Aw N ad s.heap.size) s.heap H locs → W p l e (headSpec wsX6_keep rmX6_keep).room s m args below meth c H locs 0 0 QQ (F0 m 0 ls []) from hgo s.heap [] hP hS
  clear hS hP
  intro H locs hP hS
  refine lv_aload_n hx hb dX6_keep_0 rfl (lv_at hl 0 rfl) ?_
  refine r_get (own := RX6) (T := TX6) (n := 13) (ci := 6) (v := .int th_size) hx hb hts nX6 hown hK hP (by omega) h60 rfl 12 (by decide) k0 rfl dX6_keep_1 ?_
  refine lv_bipush (v := 10) hx hb dX6_keep_4 (by decide) ?_
  obtain ⟨q1, htq1, hf⟩ := bd_e hf
  have jnq1 : ∀ (C : Nat → va_E) (H : Heap) (locs : List Loc) (ls : Array Slot), va_P D vwCl (wd N ad C) H → va_S (Aw N ad s.heap.size) s.heap H locs → (∀ i : Nat, i ≠ 60 ∧ (i < 67 ∨ 76 < i) ∧ i ≠ 85 → C i = C0 i) → C 60 = .inr (6, [.ref (ad 5), .ref (ad 19), .ref (ad 21), .ref (ad 61), .ref (ad 62), .ref (ad 65), .ref (ad 66), .long th_none, .long th_all1, .long th_all2, .int q1.2.2.2.2.2.1, .int q1.2.2.2.2.2.2.1, .int q1.2.2.2.2.2.2.2]) → C 61 = aF g 10 (fun i => if i < 10 then some (ad (67 + i)) else none) → PoolF C q1.1 q1.2.2.1 q1.2.1 q1.2.2.2.1 q1.2.2.2.2.1 → lv_has ls 6 [(0, .ref (ad 60)), (1, .int p0), (2, .int p1), (3, .int p2), (4, .int p3), (5, .int p4)] → W p l e (headSpec wsX6_keep rmX6_keep).room s m args below meth c H locs 0 0 QQ (F0 m 42 ls []) := by
    intro C H locs ls hP hS hag h60 h61 hF_ hl
    refine lv_aload_n hx hb dX6_keep_42 rfl (lv_at hl 0 rfl) ?_
    refine r_get (own := RX6) (T := TX6) (n := 13) (ci := 6) (v := .int q1.2.2.2.2.2.2.2) hx hb hts nX6 hown hK hP (by omega) h60 rfl 12 (by decide) k0 rfl dX6_keep_43 ?_
    obtain rfl := Option.some.inj hf
    rw [← hQ]
    exact e_iW hx hb hr rfl (tP_i _) hP hS ⟨hag, h60, hF_⟩ hlocks dX6_keep_46
  clear hf
  have hf := htq1
  refine lv_icmp_ge (tgt := 42) hx hb dX6_keep_6 (by decide) (fun c2 => ?_) (fun c2 => ?_)
  · have hf := it_e c2 hf
    obtain rfl := Option.some.inj hf
    exact jnq1 C H locs ls hP hS hag h60 h61 hF_ (lv_sub hl [0, 1, 2, 3, 4, 5] rfl)
  · have hf := ie_e c2 hf
    refine lv_aload_n hx hb dX6_keep_9 rfl (lv_at hl 0 rfl) ?_
    refine r_get (own := RX6) (T := TX6) (n := 13) (ci := 6) (v := .ref (ad 61)) hx hb hts nX6 hown hK hP (by omega) h60 rfl 3 (by decide) k2 rfl dX6_keep_10 ?_
    refine lv_aload_n hx hb dX6_keep_13 rfl (lv_at hl 0 rfl) ?_
    refine r_get (own := RX6) (T := TX6) (n := 13) (ci := 6) (v := .int th_size) hx hb hts nX6 hown hK hP (by omega) h60 rfl 12 (by decide) k0 rfl dX6_keep_14 ?_
    obtain ⟨i3, hf⟩ := ix_e hf
    refine r_aldF2 hx hb hK hP (by omega) h61 i3 dX6_keep_17 (if_pos (vp_lt i3)) ?_
    obtain ⟨j5, ej5⟩ : ∃ z : Nat, z = Int32.toNatClampNeg th_size := ⟨_, rfl⟩
    rw [← ej5] at hf ⊢
    have hbj5 : isFB (67 + j5) := isFB_i (by rw [ej5]; exact vp_lt i3)
    refine W.eq (g2 := F0 m 18 ls [.ref (ad (67 + j5))]) rfl ?_
    refine lv_iload_n hx hb dX6_keep_18 rfl (lv_at hl 1 rfl) ?_
    refine lv_iload_n hx hb dX6_keep_19 rfl (lv_at hl 2 rfl) ?_
    refine lv_iload_n hx hb dX6_keep_20 rfl (lv_at hl 3 rfl) ?_
    refine lv_iload hx hb dX6_keep_21 (lv_at hl 4 rfl) ?_
    refine lv_iload hx hb dX6_keep_23 (lv_at hl 5 rfl) ?_
    obtain ⟨q6, hq6, hf⟩ := bd_e hf
    refine k_vW (va_runV (C := RX1) (As := [.int p0, .int p1, .int p2, .int p3, .int p4]) (rest := []) ⟨hx, hb, hml, hown, hts⟩ (c_X1_put (l := l) (sz := H.size) (p0 := p0) (p1 := p1) (p2 := p2) (p3 := p3) (p4 := p4) (b := (67 + j5)) hN hI hbz_p4 hbj5 hF_ hq6) (cwV 5 hts gX6_keep_X1_put rfl rfl rfl (by decide +kernel) ⟨Nat.le_of_ble_eq_true rfl, Nat.le_of_ble_eq_true rfl⟩) (preV_of hK hP (isFB_0 hN hbj5) (hF_ (67 + j5) hbj5) rfl) rfl rfl hl.1 rfl (lv_room (Nat.le_of_ble_eq_true rfl)) dX6_keep_25 ⟨Nat.le_of_ble_eq_true rfl, Nat.le_of_ble_eq_true rfl⟩) hA hAd hS (fun C H locs hP hS hpo => ?_)
    obtain ⟨he, hF_⟩ := hpo
    have hag : ∀ i : Nat, i ≠ 60 ∧ (i < 67 ∨ 76 < i) ∧ i ≠ 85 → C i = C0 i := fun i h => (he i (by omega)).trans (hag i h)
    have h60 := (he 60 (by decide)).trans h60
    have h61 := (he 61 (by decide)).trans h61
    refine lv_aload_n hx hb dX6_keep_28 rfl (lv_at hl 0 rfl) ?_
    refine lv_dup hx hb dX6_keep_29 rfl ?_
    refine r_get (own := RX6) (T := TX6) (n := 13) (ci := 6) (v := .int th_size) hx hb hts nX6 hown hK hP (by omega) h60 rfl 12 (by decide) k0 rfl dX6_keep_30 ?_
    refine lv_iconst (v := 1) hx hb dX6_keep_33 (by decide) ?_
    refine lv_iadd hx hb dX6_keep_34 ?_
    obtain ⟨x7, ex7, hf⟩ := lt_e hf
    refine tp_i ex7 ?_
    refine r_put (own := RX6) (T := TX6) (n := 13) (ci := 6) (v := .int x7) hx hb hts nX6 tyX6 tyX6_ok nmX6 hown hK hI hAd hP hS (by omega) h60 rfl 12 (by decide) k0 rfl rfl rfl (Nat.le_of_ble_eq_true rfl) dX6_keep_35 (fun C H locs hP hS he hn => ?_)
    have hag : ∀ i : Nat, i ≠ 60 ∧ (i < 67 ∨ 76 < i) ∧ i ≠ 85 → C i = C0 i := fun i h => (he i (by omega)).trans (hag i h)
    have h61 := (he 61 (by decide)).trans h61
    have hF_ := hF_.ne (fun i h1 => he i (by omega))
    have h60 : C 60 = .inr (6, [.ref (ad 5), .ref (ad 19), .ref (ad 21), .ref (ad 61), .ref (ad 62), .ref (ad 65), .ref (ad 66), .long th_none, .long th_all1, .long th_all2, .int th_k1, .int th_k2, .int x7]) := hn
    refine lv_aload_n hx hb dX6_keep_38 rfl (lv_at hl 0 rfl) ?_
    obtain ⟨q8, hq8, hf⟩ := bd_e hf
    refine k_vW (va_runV (C := RX6) (As := []) (rest := []) ⟨hx, hb, hml, hown, hts⟩ (c_X6_doubt (l := l) (sz := H.size)  hN hI h60 hq8) (cwV 0 hts gX6_keep_X6_doubt rfl rfl rfl (by decide +kernel) ⟨Nat.le_of_ble_eq_true rfl, Nat.le_of_ble_eq_true rfl⟩) (preV_of hK hP (by omega) h60 rfl) rfl rfl hl.1 rfl (lv_room (Nat.le_of_ble_eq_true rfl)) dX6_keep_39 ⟨Nat.le_of_ble_eq_true rfl, Nat.le_of_ble_eq_true rfl⟩) hA hAd hS (fun C H locs hP hS hpo => ?_)
    obtain ⟨he, h60⟩ := hpo
    have hag : ∀ i : Nat, i ≠ 60 ∧ (i < 67 ∨ 76 < i) ∧ i ≠ 85 → C i = C0 i := fun i h => (he i (by omega)).trans (hag i h)
    have h61 := (he 61 (by decide)).trans h61
    have hF_ := hF_.ne (fun i h1 => he i (by omega))
    obtain rfl := Option.some.inj hf
    exact jnq1 C H locs ls hP hS hag h60 h61 hF_ (lv_sub hl [0, 1, 2, 3, 4, 5] rfl)

def f_X6_drop (th_k1 : Int32) (th_k2 : Int32) (th_size : Int32) : Option (Int32 × Int32 × Int32 × Int32) :=
  (f_X6_doubt th_k1 th_k2).bind fun q1 =>
  some (th_size, q1.1, q1.2, 0)
abbrev rmX6_drop : Room := { frames := 1, cells := 0, slots := 0, locals := 20 }
set_option maxHeartbeats 4000000 in
set_option maxRecDepth 100000 in
theorem c_X6_drop {l : Launch} {D : va_G} {g : Nat → ClassId} {N : Nat} {ad : Nat → Nat} {C : Nat → va_E} {sz : Nat} {th_none : Int64} {th_all1 : Int64} {th_all2 : Int64} {th_k1 : Int32} {th_k2 : Int32} {th_size : Int32}  {rr : Int32 × Int32 × Int32 × Int32} (hN : 86 ≤ N) (hI : Inj N ad) (h60 : C 60 = .inr (6, [.ref (ad 5), .ref (ad 19), .ref (ad 21), .ref (ad 61), .ref (ad 62), .ref (ad 65), .ref (ad 66), .long th_none, .long th_all1, .long th_all2, .int th_k1, .int th_k2, .int th_size])) (hf : f_X6_drop th_k1 th_k2 th_size = some rr) : Met l yX6_drop wsX6_drop rmX6_drop (PcW D g N ad C sz [.ref (ad 60)]) (QiW D N ad sz tP rr.1 (fun C' => (∀ i : Nat, i ≠ 60 → C' i = C i) ∧ (C' 60 = .inr (6, [.ref (ad 5), .ref (ad 19), .ref (ad 21), .ref (ad 61), .ref (ad 62), .ref (ad 65), .ref (ad 66), .long th_none, .long th_all1, .long th_all2, .int rr.2.1, .int rr.2.2.1, .int rr.2.2.2])))) 0 0 (Aw N ad sz) := by
  refine Met.ofW (cc := cX6_drop) (maxL := 2) (ret := (some .int)) (by decide) rfl ?_
  intro p e s m args below meth c s₁ B hml hv
  obtain ⟨hav, hsz, hK, hP⟩ := hv
  subst hsz
  have hx := B.exec
  have hb := B.bytes
  have hr := B.returns
  have hts := atoms_spec (ws := wsX6_drop) B.pre
  have hown : s.vm.findClass RX6 = some m.cls := findClass_of_methodNamed B.named
  have hlocks := B.notSynchronized
  generalize hQ : MQ below (QiW D N ad s.heap.size tP rr.1 (fun C' => (∀ i : Nat, i ≠ 60 → C' i = C i) ∧ (C' 60 = .inr (6, [.ref (ad 5), .ref (ad 19), .ref (ad 21), .ref (ad 61), .ref (ad 62), .ref (ad 65), .ref (ad 66), .long th_none, .long th_all1, .long th_all2, .int rr.2.1, .int rr.2.2.1, .int rr.2.2.2])))) args s 0 0 (Aw N ad s.heap.size) = QQ
  have hS : va_S (Aw N ad s.heap.size) s.heap s.heap [] := va_S.rf
  have hA : ∀ q, s.heap.size ≤ q → (Aw N ad s.heap.size) q := fun q h => Or.inr h
  have hAd : ∀ j : Nat, j < N → (Aw N ad s.heap.size) (ad j) := fun j h => Or.inl ⟨j, h, rfl⟩
  obtain ⟨C0, hC0⟩ : ∃ C0 : Nat → va_E, C0 = C := ⟨_, rfl⟩
  have hag : ∀ i : Nat, i ≠ 60 → C i = C0 i := fun i _ => by rw [hC0]
  rw [← hC0] at hQ
  have k0 := hts (.fieldLink RX6 51 "UpDrain$Thoughts" "size" "I") (List.mem_of_getElem? (i := 1) rfl)
  have nX6 : ∀ w ∈ u_ws RX6 TX6 13, w ∈ wsX6_drop := fun _ h => List.mem_cons_of_mem _ (List.mem_append_right _ h)
  have hE := lg_entry_eq m [.ref (ad 60)] 2
  rw [← hav] at hE
  rw [hE]
  have hl := lv_entry [.ref (ad 60)] (n := 2) (Nat.le_of_ble_eq_true rfl)
  generalize (lg_sl [.ref (ad 60)] ++ List.replicate (2 - (lg_sl [.ref (ad 60)]).length) Slot.unset).toArray = ls at hl ⊢
  have hl : lv_has ls 2 [(0, .ref (ad 60))] := hl
  clear hE
  unfold f_X6_drop at hf
  suffices hgo : ∀ (H : Heap) (locs : List Loc), va_P D vwCl (wd N ad C) H → va_S (Aw N ad s.heap.size) s.heap H locs → W p l e (headSpec wsX6_drop rmX6_drop).room s m args below meth c H locs 0 0 QQ (F0 m 0 ls []) from hgo s.heap [] hP hS
  clear hS hP
  intro H locs hP hS
  refine lv_aload_n hx hb dX6_drop_0 rfl (lv_at hl 0 rfl) ?_
  refine r_get (own := RX6) (T := TX6) (n := 13) (ci := 6) (v := .int th_size) hx hb hts nX6 hown hK hP (by omega) h60 rfl 12 (by decide) k0 rfl dX6_drop_1 ?_
  refine lv_istore_n (lv' := [(1, .int th_size), (0, .ref (ad 60))]) hx hb dX6_drop_4 rfl hl (by decide) rfl (fun ls hl => ?_)
  refine lv_aload_n hx hb dX6_drop_5 rfl (lv_at hl 1 rfl) ?_
  refine lv_iconst (v := 0) hx hb dX6_drop_6 (by decide) ?_
  refine r_put (own := RX6) (T := TX6) (n := 13) (ci := 6) (v := .int 0) hx hb hts nX6 tyX6 tyX6_ok nmX6 hown hK hI hAd hP hS (by omega) h60 rfl 12 (by decide) k0 rfl rfl rfl (Nat.le_of_ble_eq_true rfl) dX6_drop_7 (fun C H locs hP hS he hn => ?_)
  have hag : ∀ i : Nat, i ≠ 60 → C i = C0 i := fun i h => (he i (by omega)).trans (hag i h)
  have h60 : C 60 = .inr (6, [.ref (ad 5), .ref (ad 19), .ref (ad 21), .ref (ad 61), .ref (ad 62), .ref (ad 65), .ref (ad 66), .long th_none, .long th_all1, .long th_all2, .int th_k1, .int th_k2, .int 0]) := hn
  refine lv_aload_n hx hb dX6_drop_10 rfl (lv_at hl 1 rfl) ?_
  obtain ⟨q1, hq1, hf⟩ := bd_e hf
  refine k_vW (va_runV (C := RX6) (As := []) (rest := []) ⟨hx, hb, hml, hown, hts⟩ (c_X6_doubt (l := l) (sz := H.size)  hN hI h60 hq1) (cwV 0 hts gX6_drop_X6_doubt rfl rfl rfl (by decide +kernel) ⟨Nat.le_of_ble_eq_true rfl, Nat.le_of_ble_eq_true rfl⟩) (preV_of hK hP (by omega) h60 rfl) rfl rfl hl.1 rfl (lv_room (Nat.le_of_ble_eq_true rfl)) dX6_drop_11 ⟨Nat.le_of_ble_eq_true rfl, Nat.le_of_ble_eq_true rfl⟩) hA hAd hS (fun C H locs hP hS hpo => ?_)
  obtain ⟨he, h60⟩ := hpo
  have hag : ∀ i : Nat, i ≠ 60 → C i = C0 i := fun i h => (he i (by omega)).trans (hag i h)
  refine lv_iload_n hx hb dX6_drop_14 rfl (lv_at hl 0 rfl) ?_
  obtain rfl := Option.some.inj hf
  rw [← hQ]
  exact e_iW hx hb hr rfl (tP_i _) hP hS ⟨hag, h60⟩ hlocks dX6_drop_15

def f_X6_tenthsToSay (p0 : Nat) (p1 : Int32) (t_wy : Nat → Int32) (t_wn : Nat → Int32) (fC : Nat → Int32) (fY : Nat → Int32) : Option (Int32) :=
  (if p1 = 0 then
    ri t_wy 4 ((fC p0)) fun x4 =>
    some (x4)
  else
    ri t_wn 4 ((fC p0)) fun x6 =>
    some ((10 - x6)) : Option (Int32)).bind fun q1 =>
  if (fY p0) = 0 then
    some ((10 - q1))
  else
    some (q1)
abbrev rmX6_tenthsToSay : Room := { frames := 0, cells := 0, slots := 0, locals := 0 }
set_option maxHeartbeats 4000000 in
set_option maxRecDepth 100000 in
theorem c_X6_tenthsToSay {l : Launch} {D : va_G} {g : Nat → ClassId} {N : Nat} {ad : Nat → Nat} {C : Nat → va_E} {sz : Nat} {t_there : Int32} {t_lift : Int32} {t_none : Int32} {t_wy : Nat → Int32} {t_wn : Nat → Int32} {th_none : Int64} {th_all1 : Int64} {th_all2 : Int64} {th_k1 : Int32} {th_k2 : Int32} {th_size : Int32} {fC : Nat → Int32} {fS : Nat → Int32} {fM : Nat → Int32} {fT : Nat → Int32} {fY : Nat → Int32} {p0 : Nat} {p1 : Int32} {rr : Int32} (hN : 86 ≤ N) (hb_p0 : isFB p0) (hbz_p1 : bz p1) (h5 : C 5 = .inr (7, [.ref (ad 6), .ref (ad 7), .ref (ad 8), .ref (ad 9), .ref (ad 10), .ref (ad 11), .ref (ad 12), .ref (ad 13), .ref (ad 14), .ref (ad 15), .ref (ad 16), .ref (ad 17), .ref (ad 18), .int t_there, .int t_lift, .int t_none])) (h17 : C 17 = aI g 4 t_wy) (h18 : C 18 = aI g 4 t_wn) (h60 : C 60 = .inr (6, [.ref (ad 5), .ref (ad 19), .ref (ad 21), .ref (ad 61), .ref (ad 62), .ref (ad 65), .ref (ad 66), .long th_none, .long th_all1, .long th_all2, .int th_k1, .int th_k2, .int th_size])) (hF_ : PoolF C fC fS fM fT fY) (hf : f_X6_tenthsToSay p0 p1 t_wy t_wn fC fY = some rr) : Met l yX6_tenthsToSay wsX6_tenthsToSay rmX6_tenthsToSay (PcW D g N ad C sz [.ref (ad 60), .ref (ad p0), .int p1]) (QiR sz tP rr) 0 0 (An sz) := by
  refine Met.ofW (cc := cX6_tenthsToSay) (maxL := 4) (ret := (some .int)) (by decide) rfl ?_
  intro p e s m args below meth c s₁ B hml hv
  obtain ⟨hav, hsz, hK, hP⟩ := hv
  subst hsz
  have hx := B.exec
  have hb := B.bytes
  have hr := B.returns
  have hts := atoms_spec (ws := wsX6_tenthsToSay) B.pre
  have hown : s.vm.findClass RX6 = some m.cls := findClass_of_methodNamed B.named
  have hlocks := B.notSynchronized
  generalize hQ : MQ below (QiR s.heap.size tP rr) args s 0 0 (An s.heap.size) = QQ
  have hS : va_S (An s.heap.size) s.heap s.heap [] := va_S.rf
  have hA : ∀ q, s.heap.size ≤ q → (An s.heap.size) q := fun q h => h
  have k0 := hts (.fieldLink RX6 31 "UpDrain$Thoughts" "plan" "LUpDrain$Town;") (List.mem_of_getElem? (i := 1) rfl)
  have nX6 : ∀ w ∈ u_ws RX6 TX6 13, w ∈ wsX6_tenthsToSay := fun _ h => List.mem_cons_of_mem _ (List.mem_append_left _ (List.mem_append_left _ (List.mem_append_right _ h)))
  have k2 := nf_32 (A := args) hK
  have nX7 : ∀ w ∈ u_ws RX7 TX7 16, w ∈ wsX6_tenthsToSay := fun _ h => List.mem_cons_of_mem _ (List.mem_append_left _ (List.mem_append_right _ h))
  have k4 := nf_59 (A := args) hK
  have nX1 : ∀ w ∈ u_ws RX1 TX1 5, w ∈ wsX6_tenthsToSay := fun _ h => List.mem_cons_of_mem _ (List.mem_append_right _ h)
  have k6 := nf_35 (A := args) hK
  have k7 := nf_63 (A := args) hK
  have hE := lg_entry_eq m [.ref (ad 60), .ref (ad p0), .int p1] 4
  rw [← hav] at hE
  rw [hE]
  have hl := lv_entry [.ref (ad 60), .ref (ad p0), .int p1] (n := 4) (Nat.le_of_ble_eq_true rfl)
  generalize (lg_sl [.ref (ad 60), .ref (ad p0), .int p1] ++ List.replicate (4 - (lg_sl [.ref (ad 60), .ref (ad p0), .int p1]).length) Slot.unset).toArray = ls at hl ⊢
  have hl : lv_has ls 4 [(0, .ref (ad 60)), (1, .ref (ad p0)), (2, .int p1)] := hl
  clear hE
  unfold f_X6_tenthsToSay at hf
  suffices hgo : ∀ (H : Heap) (locs : List Loc), va_P D vwCl (wd N ad C) H → va_S (An s.heap.size) s.heap H locs → W p l e (headSpec wsX6_tenthsToSay rmX6_tenthsToSay).room s m args below meth c H locs 0 0 QQ (F0 m 0 ls []) from hgo s.heap [] hP hS
  clear hS hP
  intro H locs hP hS
  refine lv_iload_n hx hb dX6_tenthsToSay_0 rfl (lv_at hl 2 rfl) ?_
  obtain ⟨q1, htq1, hf⟩ := bd_e hf
  have jnq1 : ∀ (C : Nat → va_E) (H : Heap) (locs : List Loc) (ls : Array Slot), va_P D vwCl (wd N ad C) H → va_S (An s.heap.size) s.heap H locs → C 5 = .inr (7, [.ref (ad 6), .ref (ad 7), .ref (ad 8), .ref (ad 9), .ref (ad 10), .ref (ad 11), .ref (ad 12), .ref (ad 13), .ref (ad 14), .ref (ad 15), .ref (ad 16), .ref (ad 17), .ref (ad 18), .int t_there, .int t_lift, .int t_none]) → C 17 = aI g 4 t_wy → C 18 = aI g 4 t_wn → C 60 = .inr (6, [.ref (ad 5), .ref (ad 19), .ref (ad 21), .ref (ad 61), .ref (ad 62), .ref (ad 65), .ref (ad 66), .long th_none, .long th_all1, .long th_all2, .int th_k1, .int th_k2, .int th_size]) → PoolF C fC fS fM fT fY → lv_has ls 4 [(0, .ref (ad 60)), (1, .ref (ad p0)), (2, .int p1)] → W p l e (headSpec wsX6_tenthsToSay rmX6_tenthsToSay).room s m args below meth c H locs 0 0 QQ (F0 m 34 ls [.int q1]) := by
    intro C H locs ls hP hS h5 h17 h18 h60 hF_ hl
    refine lv_istore_n (lv' := [(3, .int q1), (0, .ref (ad 60)), (1, .ref (ad p0)), (2, .int p1)]) hx hb dX6_tenthsToSay_34 rfl hl (by decide) rfl (fun ls hl => ?_)
    refine lv_aload_n hx hb dX6_tenthsToSay_35 rfl (lv_at hl 2 rfl) ?_
    refine r_getN (own := RX6) (T := TX1) (n := 5) (ci := 1) (v := .int (fY p0)) hx hb hts nX1 hown hK hP (isFB_0 hN hb_p0) (hF_ p0 hb_p0) rfl 4 (by decide) k7 rfl dX6_tenthsToSay_36 ?_
    refine lv_if_eq (tgt := 46) hx hb dX6_tenthsToSay_39 (by decide) (fun c2 => ?_) (fun c2 => ?_)
    · have hf := it_e c2 hf
      refine lv_bipush (v := 10) hx hb dX6_tenthsToSay_46 (by decide) ?_
      refine lv_iload_n hx hb dX6_tenthsToSay_48 rfl (lv_at hl 0 rfl) ?_
      refine lv_isub hx hb dX6_tenthsToSay_49 ?_
      obtain rfl := Option.some.inj hf
      rw [← hQ]
      exact e_iR hx hb hr rfl (tP_i _) hS hlocks dX6_tenthsToSay_50
    · have hf := ie_e c2 hf
      refine lv_iload_n hx hb dX6_tenthsToSay_42 rfl (lv_at hl 0 rfl) ?_
      refine lv_goto (tgt := 50) hx hb dX6_tenthsToSay_43 (by decide) ?_
      obtain rfl := Option.some.inj hf
      rw [← hQ]
      exact e_iR hx hb hr rfl (tP_i _) hS hlocks dX6_tenthsToSay_50
  clear hf
  have hf := htq1
  refine lv_if_eq (tgt := 22) hx hb dX6_tenthsToSay_1 (by decide) (fun c3 => ?_) (fun c3 => ?_)
  · have hf := it_e c3 hf
    refine lv_aload_n hx hb dX6_tenthsToSay_22 rfl (lv_at hl 0 rfl) ?_
    refine r_get (own := RX6) (T := TX6) (n := 13) (ci := 6) (v := .ref (ad 5)) hx hb hts nX6 hown hK hP (by omega) h60 rfl 0 (by decide) k0 rfl dX6_tenthsToSay_23 ?_
    refine r_getN (own := RX6) (T := TX7) (n := 16) (ci := 7) (v := .ref (ad 17)) hx hb hts nX7 hown hK hP (by omega) h5 rfl 11 (by decide) k2 rfl dX6_tenthsToSay_26 ?_
    refine lv_aload_n hx hb dX6_tenthsToSay_29 rfl (lv_at hl 1 rfl) ?_
    refine r_getN (own := RX6) (T := TX1) (n := 5) (ci := 1) (v := .int (fC p0)) hx hb hts nX1 hown hK hP (isFB_0 hN hb_p0) (hF_ p0 hb_p0) rfl 0 (by decide) k4 rfl dX6_tenthsToSay_30 ?_
    obtain ⟨i5, x4, ex4, hf⟩ := ri_e hf
    refine r_iald hx hb hK hP (by omega) h17 i5 dX6_tenthsToSay_33 ex4 ?_
    obtain rfl := Option.some.inj hf
    exact jnq1 C H locs ls hP hS h5 h17 h18 h60 hF_ (lv_sub hl [0, 1, 2] rfl)
  · have hf := ie_e c3 hf
    refine lv_bipush (v := 10) hx hb dX6_tenthsToSay_4 (by decide) ?_
    refine lv_aload_n hx hb dX6_tenthsToSay_6 rfl (lv_at hl 0 rfl) ?_
    refine r_get (own := RX6) (T := TX6) (n := 13) (ci := 6) (v := .ref (ad 5)) hx hb hts nX6 hown hK hP (by omega) h60 rfl 0 (by decide) k0 rfl dX6_tenthsToSay_7 ?_
    refine r_getN (own := RX6) (T := TX7) (n := 16) (ci := 7) (v := .ref (ad 18)) hx hb hts nX7 hown hK hP (by omega) h5 rfl 12 (by decide) k6 rfl dX6_tenthsToSay_10 ?_
    refine lv_aload_n hx hb dX6_tenthsToSay_13 rfl (lv_at hl 1 rfl) ?_
    refine r_getN (own := RX6) (T := TX1) (n := 5) (ci := 1) (v := .int (fC p0)) hx hb hts nX1 hown hK hP (isFB_0 hN hb_p0) (hF_ p0 hb_p0) rfl 0 (by decide) k4 rfl dX6_tenthsToSay_14 ?_
    obtain ⟨i7, x6, ex6, hf⟩ := ri_e hf
    refine r_iald hx hb hK hP (by omega) h18 i7 dX6_tenthsToSay_17 ex6 ?_
    refine lv_isub hx hb dX6_tenthsToSay_18 ?_
    refine lv_goto (tgt := 34) hx hb dX6_tenthsToSay_19 (by decide) ?_
    obtain rfl := Option.some.inj hf
    exact jnq1 C H locs ls hP hS h5 h17 h18 h60 hF_ (lv_sub hl [0, 1, 2] rfl)

def LX6_thoughtBy_6 (p1 : Option Nat) (p2 : Option Nat) (t_rain : Nat → Int32) (t_tell : Nat → Int32) (t_wy : Nat → Int32) (t_wn : Nat → Int32) (wa_g : Nat → Int32) (th_size : Int32) (sL : Nat → Nat → Int32) (sT : Nat → Nat → Int32) (sF : Nat → Int32) (sU : Nat → Int32) (fC : Nat → Int32) (fS : Nat → Int32) (fM : Nat → Int32) (fT : Nat → Int32) (fY : Nat → Int32) (ko : Int64 → Int32 → Option (Int64)) : Nat → Int64 → Int32 → Option (Int64)
  | 0, _, _ => none
  | n + 1, x1, x2 =>
    if th_size ≤ x2 then
      ko x1 x2
    else
      if (lg_cmp x1 (0 : Int64)) = 0 then
        ko x1 x2
      else
        ix 10 (x2) fun j9 =>
        (f_X8_shouldSayYes (67 + j9) p1 p2 t_rain t_tell wa_g sL sT sF sU fC fS fM fT).bind fun q10 =>
        (f_X6_tenthsToSay (67 + j9) q10 t_wy t_wn fC fY).bind fun q11 =>
        lt ((x1 * (Int32.toInt64 q11)) : Int64) fun x12 =>
        lt (x2 + 1 : Int32) fun x13 =>
        LX6_thoughtBy_6 p1 p2 t_rain t_tell t_wy t_wn wa_g th_size sL sT sF sU fC fS fM fT fY ko n x12 x13
theorem LX6_thoughtBy_6_z (p1 : Option Nat) (p2 : Option Nat) (t_rain : Nat → Int32) (t_tell : Nat → Int32) (t_wy : Nat → Int32) (t_wn : Nat → Int32) (wa_g : Nat → Int32) (th_size : Int32) (sL : Nat → Nat → Int32) (sT : Nat → Nat → Int32) (sF : Nat → Int32) (sU : Nat → Int32) (fC : Nat → Int32) (fS : Nat → Int32) (fM : Nat → Int32) (fT : Nat → Int32) (fY : Nat → Int32) (ko : Int64 → Int32 → Option (Int64)) (x1 : Int64) (x2 : Int32) : LX6_thoughtBy_6 p1 p2 t_rain t_tell t_wy t_wn wa_g th_size sL sT sF sU fC fS fM fT fY ko 0 x1 x2 = none := rfl
theorem LX6_thoughtBy_6_s (p1 : Option Nat) (p2 : Option Nat) (t_rain : Nat → Int32) (t_tell : Nat → Int32) (t_wy : Nat → Int32) (t_wn : Nat → Int32) (wa_g : Nat → Int32) (th_size : Int32) (sL : Nat → Nat → Int32) (sT : Nat → Nat → Int32) (sF : Nat → Int32) (sU : Nat → Int32) (fC : Nat → Int32) (fS : Nat → Int32) (fM : Nat → Int32) (fT : Nat → Int32) (fY : Nat → Int32) (ko : Int64 → Int32 → Option (Int64)) (n : Nat) (x1 : Int64) (x2 : Int32) : LX6_thoughtBy_6 p1 p2 t_rain t_tell t_wy t_wn wa_g th_size sL sT sF sU fC fS fM fT fY ko (n + 1) x1 x2 =
    if th_size ≤ x2 then
      ko x1 x2
    else
      if (lg_cmp x1 (0 : Int64)) = 0 then
        ko x1 x2
      else
        ix 10 (x2) fun j9 =>
        (f_X8_shouldSayYes (67 + j9) p1 p2 t_rain t_tell wa_g sL sT sF sU fC fS fM fT).bind fun q10 =>
        (f_X6_tenthsToSay (67 + j9) q10 t_wy t_wn fC fY).bind fun q11 =>
        lt ((x1 * (Int32.toInt64 q11)) : Int64) fun x12 =>
        lt (x2 + 1 : Int32) fun x13 =>
        LX6_thoughtBy_6 p1 p2 t_rain t_tell t_wy t_wn wa_g th_size sL sT sF sU fC fS fM fT fY ko n x12 x13 := rfl
def f_X6_thoughtBy (p0 : Int64) (p1 : Option Nat) (p2 : Option Nat) (t_rain : Nat → Int32) (t_tell : Nat → Int32) (t_wy : Nat → Int32) (t_wn : Nat → Int32) (wa_g : Nat → Int32) (th_size : Int32) (sL : Nat → Nat → Int32) (sT : Nat → Nat → Int32) (sF : Nat → Int32) (sU : Nat → Int32) (fC : Nat → Int32) (fS : Nat → Int32) (fM : Nat → Int32) (fT : Nat → Int32) (fY : Nat → Int32) : Option (Int64) :=
  LX6_thoughtBy_6 p1 p2 t_rain t_tell t_wy t_wn wa_g th_size sL sT sF sU fC fS fM fT fY (fun x3 x4 =>
    some (x3)) FU p0 0
abbrev rmX6_thoughtBy : Room := { frames := 4, cells := 0, slots := 0, locals := 100 }
set_option maxHeartbeats 4000000 in
set_option maxRecDepth 100000 in
theorem c_X6_thoughtBy {l : Launch} {D : va_G} {g : Nat → ClassId} {N : Nat} {ad : Nat → Nat} {C : Nat → va_E} {sz : Nat} {t_there : Int32} {t_lift : Int32} {t_none : Int32} {t_rain : Nat → Int32} {t_tell : Nat → Int32} {t_wy : Nat → Int32} {t_wn : Nat → Int32} {wa_g : Nat → Int32} {th_none : Int64} {th_all1 : Int64} {th_all2 : Int64} {th_k1 : Int32} {th_k2 : Int32} {th_size : Int32} {fC : Nat → Int32} {fS : Nat → Int32} {fM : Nat → Int32} {fT : Nat → Int32} {fY : Nat → Int32} {sL : Nat → Nat → Int32} {sT : Nat → Nat → Int32} {sF : Nat → Int32} {sU : Nat → Int32} {p0 : Int64} {p1 : Option Nat} {p2 : Option Nat} {rr : Int64} (hN : 86 ≤ N) (hb_p1 : ∀ b : Nat, p1 = some b → isSB b) (hb_p2 : ∀ b : Nat, p2 = some b → isSB b) (h5 : C 5 = .inr (7, [.ref (ad 6), .ref (ad 7), .ref (ad 8), .ref (ad 9), .ref (ad 10), .ref (ad 11), .ref (ad 12), .ref (ad 13), .ref (ad 14), .ref (ad 15), .ref (ad 16), .ref (ad 17), .ref (ad 18), .int t_there, .int t_lift, .int t_none])) (h15 : C 15 = aI g 24 t_rain) (h16 : C 16 = aI g 4 t_tell) (h17 : C 17 = aI g 4 t_wy) (h18 : C 18 = aI g 4 t_wn) (h21 : C 21 = .inr (8, [.ref (ad 5), .ref (ad 19), .ref (ad 22), .ref (ad 23)])) (h22 : C 22 = aI g 12 wa_g) (h60 : C 60 = .inr (6, [.ref (ad 5), .ref (ad 19), .ref (ad 21), .ref (ad 61), .ref (ad 62), .ref (ad 65), .ref (ad 66), .long th_none, .long th_all1, .long th_all2, .int th_k1, .int th_k2, .int th_size])) (h61 : C 61 = aF g 10 (fun i => if i < 10 then some (ad (67 + i)) else none)) (hF_ : PoolF C fC fS fM fT fY) (hS_ : PoolS g ad C sL sT sF sU) (hf : f_X6_thoughtBy p0 p1 p2 t_rain t_tell t_wy t_wn wa_g th_size sL sT sF sU fC fS fM fT fY = some rr) : Met l yX6_thoughtBy wsX6_thoughtBy rmX6_thoughtBy (PcW D g N ad C sz [.ref (ad 60), .long p0, va_rf (Option.map ad p1), va_rf (Option.map ad p2)]) (QlR sz rr) 0 0 (An sz) := by
  refine Met.ofW (cc := cX6_thoughtBy) (maxL := 9) (ret := (some .long)) (by decide) rfl ?_
  intro p e s m args below meth c s₁ B hml hv
  obtain ⟨hav, hsz, hK, hP⟩ := hv
  subst hsz
  have hx := B.exec
  have hb := B.bytes
  have hr := B.returns
  have hts := atoms_spec (ws := wsX6_thoughtBy) B.pre
  have hown : s.vm.findClass RX6 = some m.cls := findClass_of_methodNamed B.named
  have hlocks := B.notSynchronized
  generalize hQ : MQ below (QlR s.heap.size rr) args s 0 0 (An s.heap.size) = QQ
  have hS : va_S (An s.heap.size) s.heap s.heap [] := va_S.rf
  have hA : ∀ q, s.heap.size ≤ q → (An s.heap.size) q := fun q h => h
  have k0 := hts (.fieldLink RX6 51 "UpDrain$Thoughts" "size" "I") (List.mem_of_getElem? (i := 1) rfl)
  have nX6 : ∀ w ∈ u_ws RX6 TX6 13, w ∈ wsX6_thoughtBy := fun _ h => List.mem_cons_of_mem _ (List.mem_append_left _ (List.mem_append_left _ (List.mem_append_left _ (List.mem_append_left _ (List.mem_append_right _ h)))))
  have k2 := hts (.fieldLink RX6 11 "UpDrain$Thoughts" "fillings" "[LUpDrain$Filling;") (List.mem_of_getElem? (i := 2) rfl)
  have k3 := hts (.fieldLink RX6 39 "UpDrain$Thoughts" "water" "LUpDrain$Water;") (List.mem_of_getElem? (i := 3) rfl)
  have hE := lg_entry_eq m [.ref (ad 60), .long p0, va_rf (Option.map ad p1), va_rf (Option.map ad p2)] 9
  rw [← hav] at hE
  rw [hE]
  have hl : lv_has (lg_sl [.ref (ad 60), .long p0, va_rf (Option.map ad p1), va_rf (Option.map ad p2)] ++ List.replicate (9 - (lg_sl [.ref (ad 60), .long p0, va_rf (Option.map ad p1), va_rf (Option.map ad p2)]).length) Slot.unset).toArray 9 [(0, .ref (ad 60)), (1, .long p0), (3, va_rf (Option.map ad p1)), (4, va_rf (Option.map ad p2))] := by cases p1 <;> cases p2 <;> exact lv_entry _ (n := 9) (Nat.le_of_ble_eq_true rfl)
  generalize (lg_sl [.ref (ad 60), .long p0, va_rf (Option.map ad p1), va_rf (Option.map ad p2)] ++ List.replicate (9 - (lg_sl [.ref (ad 60), .long p0, va_rf (Option.map ad p1), va_rf (Option.map ad p2)]).length) Slot.unset).toArray = ls at hl ⊢
  have hl : lv_has ls 9 [(0, .ref (ad 60)), (1, .long p0), (3, va_rf (Option.map ad p1)), (4, va_rf (Option.map ad p2))] := hl
  clear hE
  unfold f_X6_thoughtBy at hf
  suffices hgo : ∀ (H : Heap) (locs : List Loc), va_P D vwCl (wd N ad C) H → va_S (An s.heap.size) s.heap H locs → W p l e (headSpec wsX6_thoughtBy rmX6_thoughtBy).room s m args below meth c H locs 0 0 QQ (F0 m 0 ls []) from hgo s.heap [] hP hS
  clear hS hP
  intro H locs hP hS
  refine lv_lload_n hx hb dX6_thoughtBy_0 rfl (lv_at hl 1 rfl) ?_
  refine lv_lstore (lv' := [(5, .long p0), (0, .ref (ad 60)), (1, .long p0), (3, va_rf (Option.map ad p1)), (4, va_rf (Option.map ad p2))]) hx hb dX6_thoughtBy_1 hl (by decide) (by cases p2 <;> rfl) (fun ls hl => ?_)
  refine lv_iconst (v := 0) hx hb dX6_thoughtBy_3 (by decide) ?_
  refine lv_istore (lv' := [(7, .int 0), (5, .long p0), (0, .ref (ad 60)), (1, .long p0), (3, va_rf (Option.map ad p1)), (4, va_rf (Option.map ad p2))]) hx hb dX6_thoughtBy_4 hl (by decide) rfl (fun ls hl => ?_)
  have key6 : ∀ (ko : Int64 → Int32 → Option (Int64)), (∀ (x3 : Int64) (x4 : Int32) (C : Nat → va_E) (H : Heap) (locs : List Loc) (ls : Array Slot), va_P D vwCl (wd N ad C) H → va_S (An s.heap.size) s.heap H locs → C 5 = .inr (7, [.ref (ad 6), .ref (ad 7), .ref (ad 8), .ref (ad 9), .ref (ad 10), .ref (ad 11), .ref (ad 12), .ref (ad 13), .ref (ad 14), .ref (ad 15), .ref (ad 16), .ref (ad 17), .ref (ad 18), .int t_there, .int t_lift, .int t_none]) → C 15 = aI g 24 t_rain → C 16 = aI g 4 t_tell → C 17 = aI g 4 t_wy → C 18 = aI g 4 t_wn → C 21 = .inr (8, [.ref (ad 5), .ref (ad 19), .ref (ad 22), .ref (ad 23)]) → C 22 = aI g 12 wa_g → C 60 = .inr (6, [.ref (ad 5), .ref (ad 19), .ref (ad 21), .ref (ad 61), .ref (ad 62), .ref (ad 65), .ref (ad 66), .long th_none, .long th_all1, .long th_all2, .int th_k1, .int th_k2, .int th_size]) → C 61 = aF g 10 (fun i => if i < 10 then some (ad (67 + i)) else none) → PoolF C fC fS fM fT fY → PoolS g ad C sL sT sF sU → lv_has ls 9 [(0, .ref (ad 60)), (1, .long p0), (3, va_rf (Option.map ad p1)), (4, va_rf (Option.map ad p2)), (5, .long x3), (7, .int x4)] → ko x3 x4 = some rr → W p l e (headSpec wsX6_thoughtBy rmX6_thoughtBy).room s m args below meth c H locs 0 0 QQ (F0 m 61 ls [])) → ∀ (n : Nat) (x1 : Int64) (x2 : Int32) (C : Nat → va_E) (H : Heap) (locs : List Loc) (ls : Array Slot), va_P D vwCl (wd N ad C) H → va_S (An s.heap.size) s.heap H locs → C 5 = .inr (7, [.ref (ad 6), .ref (ad 7), .ref (ad 8), .ref (ad 9), .ref (ad 10), .ref (ad 11), .ref (ad 12), .ref (ad 13), .ref (ad 14), .ref (ad 15), .ref (ad 16), .ref (ad 17), .ref (ad 18), .int t_there, .int t_lift, .int t_none]) → C 15 = aI g 24 t_rain → C 16 = aI g 4 t_tell → C 17 = aI g 4 t_wy → C 18 = aI g 4 t_wn → C 21 = .inr (8, [.ref (ad 5), .ref (ad 19), .ref (ad 22), .ref (ad 23)]) → C 22 = aI g 12 wa_g → C 60 = .inr (6, [.ref (ad 5), .ref (ad 19), .ref (ad 21), .ref (ad 61), .ref (ad 62), .ref (ad 65), .ref (ad 66), .long th_none, .long th_all1, .long th_all2, .int th_k1, .int th_k2, .int th_size]) → C 61 = aF g 10 (fun i => if i < 10 then some (ad (67 + i)) else none) → PoolF C fC fS fM fT fY → PoolS g ad C sL sT sF sU → lv_has ls 9 [(0, .ref (ad 60)), (1, .long p0), (3, va_rf (Option.map ad p1)), (4, va_rf (Option.map ad p2)), (5, .long x1), (7, .int x2)] → LX6_thoughtBy_6 p1 p2 t_rain t_tell t_wy t_wn wa_g th_size sL sT sF sU fC fS fM fT fY ko n x1 x2 = some rr → W p l e (headSpec wsX6_thoughtBy rmX6_thoughtBy).room s m args below meth c H locs 0 0 QQ (F0 m 6 ls []) := by
    intro ko hko n
    induction n with
    | zero =>
      intro x1 x2 C H locs ls hP hS h5 h15 h16 h17 h18 h21 h22 h60 h61 hF_ hS_ hl hf
      rw [LX6_thoughtBy_6_z] at hf
      cases hf
    | succ n ih =>
      intro x1 x2 C H locs ls hP hS h5 h15 h16 h17 h18 h21 h22 h60 h61 hF_ hS_ hl hf
      rw [LX6_thoughtBy_6_s] at hf
      refine lv_iload hx hb dX6_thoughtBy_6 (lv_at hl 5 rfl) ?_
      refine lv_aload_n hx hb dX6_thoughtBy_8 rfl (lv_at hl 0 rfl) ?_
      refine r_get (own := RX6) (T := TX6) (n := 13) (ci := 6) (v := .int th_size) hx hb hts nX6 hown hK hP (by omega) h60 rfl 12 (by decide) k0 rfl dX6_thoughtBy_9 ?_
      refine lv_icmp_ge (tgt := 61) hx hb dX6_thoughtBy_12 (by decide) (fun c5 => ?_) (fun c5 => ?_)
      · have hf := it_e c5 hf
        exact hko x1 x2 C H locs ls hP hS h5 h15 h16 h17 h18 h21 h22 h60 h61 hF_ hS_ (lv_sub hl [0, 1, 2, 3, 4, 5] rfl) hf
      · have hf := ie_e c5 hf
        refine lv_lload hx hb dX6_thoughtBy_15 (lv_at hl 4 rfl) ?_
        refine lv_lconst (v := 0) hx hb dX6_thoughtBy_17 (by decide) ?_
        refine W.lcmp hx hb dX6_thoughtBy_18 ?_
        refine lv_if_eq (tgt := 61) hx hb dX6_thoughtBy_19 (by decide) (fun c6 => ?_) (fun c6 => ?_)
        · have hf := it_e c6 hf
          exact hko x1 x2 C H locs ls hP hS h5 h15 h16 h17 h18 h21 h22 h60 h61 hF_ hS_ (lv_sub hl [0, 1, 2, 3, 4, 5] rfl) hf
        · have hf := ie_e c6 hf
          refine lv_aload_n hx hb dX6_thoughtBy_22 rfl (lv_at hl 0 rfl) ?_
          refine r_get (own := RX6) (T := TX6) (n := 13) (ci := 6) (v := .ref (ad 61)) hx hb hts nX6 hown hK hP (by omega) h60 rfl 3 (by decide) k2 rfl dX6_thoughtBy_23 ?_
          refine lv_iload hx hb dX6_thoughtBy_26 (lv_at hl 5 rfl) ?_
          obtain ⟨i7, hf⟩ := ix_e hf
          refine r_aldF2 hx hb hK hP (by omega) h61 i7 dX6_thoughtBy_28 (if_pos (vp_lt i7)) ?_
          obtain ⟨j9, ej9⟩ : ∃ z : Nat, z = Int32.toNatClampNeg x2 := ⟨_, rfl⟩
          rw [← ej9] at hf ⊢
          have hbj9 : isFB (67 + j9) := isFB_i (by rw [ej9]; exact vp_lt i7)
          refine W.eq (g2 := F0 m 29 ls [.ref (ad (67 + j9))]) rfl ?_
          refine lv_astore (lv' := [(8, .ref (ad (67 + j9))), (0, .ref (ad 60)), (1, .long p0), (3, va_rf (Option.map ad p1)), (4, va_rf (Option.map ad p2)), (5, .long x1), (7, .int x2)]) hx hb dX6_thoughtBy_29 hl (by decide) rfl (fun ls hl => ?_)
          refine lv_lload hx hb dX6_thoughtBy_31 (lv_at hl 5 rfl) ?_
          refine lv_aload_n hx hb dX6_thoughtBy_33 rfl (lv_at hl 1 rfl) ?_
          refine lv_aload hx hb dX6_thoughtBy_34 (lv_at hl 0 rfl) ?_
          refine lv_aload_n hx hb dX6_thoughtBy_36 rfl (lv_at hl 1 rfl) ?_
          refine r_get (own := RX6) (T := TX6) (n := 13) (ci := 6) (v := .ref (ad 21)) hx hb hts nX6 hown hK hP (by omega) h60 rfl 2 (by decide) k3 rfl dX6_thoughtBy_37 ?_
          refine lv_aload hx hb dX6_thoughtBy_40 (lv_at hl 0 rfl) ?_
          refine r_alq_n hx hb dX6_thoughtBy_42 rfl (lv_at hl 3 rfl) ?_
          refine r_alq hx hb dX6_thoughtBy_43 (lv_at hl 4 rfl) ?_
          obtain ⟨q10, hq10, hf⟩ := bd_e hf
          refine k_iR (va_runV (C := RX8) (As := [.ref (ad (67 + j9)), va_rf (Option.map ad p1), va_rf (Option.map ad p2)]) (rest := [.ref (ad (67 + j9)), .ref (ad 60), .long x1]) ⟨hx, hb, hml, hown, hts⟩ (c_X8_shouldSayYes (l := l) (sz := H.size) (p0 := (67 + j9)) (p1 := p1) (p2 := p2) hN hbj9 hb_p1 hb_p2 h5 h15 h16 h21 h22 hF_ hS_ hq10) (cwV 3 hts gX6_thoughtBy_X8_shouldSayYes rfl rfl rfl (by decide +kernel) ⟨Nat.le_of_ble_eq_true rfl, Nat.le_of_ble_eq_true rfl⟩) (preV_of hK hP (by omega) h21 rfl) rfl rfl hl.1 rfl (lv_room (Nat.le_of_ble_eq_true rfl)) dX6_thoughtBy_45 ⟨Nat.le_of_ble_eq_true rfl, Nat.le_of_ble_eq_true rfl⟩) hA hP hS (fun H locs hP hS hbz_q10 => ?_)
          obtain ⟨q11, hq11, hf⟩ := bd_e hf
          refine k_iR (va_runV (C := RX6) (As := [.ref (ad (67 + j9)), .int q10]) (rest := [.long x1]) ⟨hx, hb, hml, hown, hts⟩ (c_X6_tenthsToSay (l := l) (sz := H.size) (p0 := (67 + j9)) (p1 := q10) hN hbj9 hbz_q10 h5 h17 h18 h60 hF_ hq11) (cwV 2 hts gX6_thoughtBy_X6_tenthsToSay rfl rfl rfl (by decide +kernel) ⟨Nat.le_of_ble_eq_true rfl, Nat.le_of_ble_eq_true rfl⟩) (preV_of hK hP (by omega) h60 rfl) rfl rfl hl.1 rfl (lv_room (Nat.le_of_ble_eq_true rfl)) dX6_thoughtBy_48 ⟨Nat.le_of_ble_eq_true rfl, Nat.le_of_ble_eq_true rfl⟩) hA hP hS (fun H locs hP hS hbz_q11 => ?_)
          refine lv_i2l hx hb dX6_thoughtBy_51 rfl ?_
          refine lv_lmul hx hb dX6_thoughtBy_52 ?_
          obtain ⟨x12, ex12, hf⟩ := lt_e hf
          refine tp_l ex12 ?_
          refine lv_lstore (lv' := [(5, .long x12), (8, .ref (ad (67 + j9))), (0, .ref (ad 60)), (1, .long p0), (3, va_rf (Option.map ad p1)), (4, va_rf (Option.map ad p2)), (7, .int x2)]) hx hb dX6_thoughtBy_53 hl (by decide) (by cases p2 <;> rfl) (fun ls hl => ?_)
          obtain ⟨x13, ex13, hf⟩ := lt_e hf
          refine lv_iinc (v := x13) (lv' := [(7, .int x13), (5, .long x12), (8, .ref (ad (67 + j9))), (0, .ref (ad 60)), (1, .long p0), (3, va_rf (Option.map ad p1)), (4, va_rf (Option.map ad p2))]) hx hb dX6_thoughtBy_55 hl (k := 6) rfl (by rw [ex13]; rfl) (by decide) rfl (fun ls hl => ?_)
          refine lv_goto (tgt := 6) hx hb dX6_thoughtBy_58 (by decide) ?_
          exact ih x12 x13 C H locs ls hP hS h5 h15 h16 h17 h18 h21 h22 h60 h61 hF_ hS_ (lv_sub hl [3, 4, 5, 6, 1, 0] rfl) hf
  refine key6 _ (fun x3 x4 C H locs ls hP hS h5 h15 h16 h17 h18 h21 h22 h60 h61 hF_ hS_ hl hf => ?_) FU p0 0 C H locs ls hP hS h5 h15 h16 h17 h18 h21 h22 h60 h61 hF_ hS_ (lv_sub hl [2, 3, 4, 5, 1, 0] rfl) hf
  refine lv_lload hx hb dX6_thoughtBy_61 (lv_at hl 4 rfl) ?_
  obtain rfl := Option.some.inj hf
  rw [← hQ]
  exact e_lR hx hb hr rfl hS hlocks dX6_thoughtBy_63

def LX6_thinkOfOne_36 (t_lik : Nat → Int32) (t_rain : Nat → Int32) (t_tell : Nat → Int32) (t_wy : Nat → Int32) (t_wn : Nat → Int32) (w_src : Int32) (wa_g : Nat → Int32) (th_size : Int32) (sL : Nat → Nat → Int32) (sT : Nat → Nat → Int32) (sF : Nat → Int32) (sU : Nat → Int32) (fC : Nat → Int32) (fS : Nat → Int32) (fM : Nat → Int32) (fT : Nat → Int32) (fY : Nat → Int32) (ko : Int32 → Int64 → (Nat → Int64) → Option (Int64 × Int64 × Int32 × (Nat → Int64))) : Nat → Int32 → Int64 → (Nat → Int64) → Option (Int64 × Int64 × Int32 × (Nat → Int64))
  | 0, _, _, _ => none
  | n + 1, x3, x4, f5 =>
    if 12 ≤ x3 then
      ko x3 x4 f5
    else
      wl f5 12 (x3) ((0 : Int64)) fun f10 =>
      (f_X10_has w_src x3).bind fun q12 =>
      (if q12 = 0 then
        some (x4, f10)
      else
        ri t_lik 12 (x3) fun x16 =>
        ix 12 (x3) fun j20 =>
        (f_X6_thoughtBy (Int32.toInt64 x16) (some (24 + 3 * j20)) none t_rain t_tell t_wy t_wn wa_g th_size sL sT sF sU fC fS fM fT fY).bind fun q21 =>
        wl f10 12 (x3) (q21) fun f22 =>
        rl f22 12 (x3) fun x24 =>
        lt ((x4 + x24) : Int64) fun x26 =>
        some (x26, f22) : Option (Int64 × (Nat → Int64))).bind fun q13 =>
      lt (x3 + 1 : Int32) fun x14 =>
      LX6_thinkOfOne_36 t_lik t_rain t_tell t_wy t_wn w_src wa_g th_size sL sT sF sU fC fS fM fT fY ko n x14 q13.1 q13.2
theorem LX6_thinkOfOne_36_z (t_lik : Nat → Int32) (t_rain : Nat → Int32) (t_tell : Nat → Int32) (t_wy : Nat → Int32) (t_wn : Nat → Int32) (w_src : Int32) (wa_g : Nat → Int32) (th_size : Int32) (sL : Nat → Nat → Int32) (sT : Nat → Nat → Int32) (sF : Nat → Int32) (sU : Nat → Int32) (fC : Nat → Int32) (fS : Nat → Int32) (fM : Nat → Int32) (fT : Nat → Int32) (fY : Nat → Int32) (ko : Int32 → Int64 → (Nat → Int64) → Option (Int64 × Int64 × Int32 × (Nat → Int64))) (x3 : Int32) (x4 : Int64) (f5 : Nat → Int64) : LX6_thinkOfOne_36 t_lik t_rain t_tell t_wy t_wn w_src wa_g th_size sL sT sF sU fC fS fM fT fY ko 0 x3 x4 f5 = none := rfl
theorem LX6_thinkOfOne_36_s (t_lik : Nat → Int32) (t_rain : Nat → Int32) (t_tell : Nat → Int32) (t_wy : Nat → Int32) (t_wn : Nat → Int32) (w_src : Int32) (wa_g : Nat → Int32) (th_size : Int32) (sL : Nat → Nat → Int32) (sT : Nat → Nat → Int32) (sF : Nat → Int32) (sU : Nat → Int32) (fC : Nat → Int32) (fS : Nat → Int32) (fM : Nat → Int32) (fT : Nat → Int32) (fY : Nat → Int32) (ko : Int32 → Int64 → (Nat → Int64) → Option (Int64 × Int64 × Int32 × (Nat → Int64))) (n : Nat) (x3 : Int32) (x4 : Int64) (f5 : Nat → Int64) : LX6_thinkOfOne_36 t_lik t_rain t_tell t_wy t_wn w_src wa_g th_size sL sT sF sU fC fS fM fT fY ko (n + 1) x3 x4 f5 =
    if 12 ≤ x3 then
      ko x3 x4 f5
    else
      wl f5 12 (x3) ((0 : Int64)) fun f10 =>
      (f_X10_has w_src x3).bind fun q12 =>
      (if q12 = 0 then
        some (x4, f10)
      else
        ri t_lik 12 (x3) fun x16 =>
        ix 12 (x3) fun j20 =>
        (f_X6_thoughtBy (Int32.toInt64 x16) (some (24 + 3 * j20)) none t_rain t_tell t_wy t_wn wa_g th_size sL sT sF sU fC fS fM fT fY).bind fun q21 =>
        wl f10 12 (x3) (q21) fun f22 =>
        rl f22 12 (x3) fun x24 =>
        lt ((x4 + x24) : Int64) fun x26 =>
        some (x26, f22) : Option (Int64 × (Nat → Int64))).bind fun q13 =>
      lt (x3 + 1 : Int32) fun x14 =>
      LX6_thinkOfOne_36 t_lik t_rain t_tell t_wy t_wn w_src wa_g th_size sL sT sF sU fC fS fM fT fY ko n x14 q13.1 q13.2 := rfl
def f_X6_thinkOfOne (t_lik : Nat → Int32) (t_rain : Nat → Int32) (t_tell : Nat → Int32) (t_wy : Nat → Int32) (t_wn : Nat → Int32) (t_none : Int32) (w_src : Int32) (wa_g : Nat → Int32) (th_none : Int64) (th_all1 : Int64) (th_k1 : Int32) (th_size : Int32) (th_one : Nat → Int64) (sL : Nat → Nat → Int32) (sT : Nat → Nat → Int32) (sF : Nat → Int32) (sU : Nat → Int32) (fC : Nat → Int32) (fS : Nat → Int32) (fM : Nat → Int32) (fT : Nat → Int32) (fY : Nat → Int32) : Option (Int64 × Int64 × Int32 × (Nat → Int64)) :=
  if th_k1 = 0 then
    (f_X6_thoughtBy (Int32.toInt64 t_none) none none t_rain t_tell t_wy t_wn wa_g th_size sL sT sF sU fC fS fM fT fY).bind fun q2 =>
    LX6_thinkOfOne_36 t_lik t_rain t_tell t_wy t_wn w_src wa_g th_size sL sT sF sU fC fS fM fT fY (fun x6 x7 f8 =>
      some (q2, x7, 1, f8)) FU 0 q2 th_one
  else
    some (th_none, th_all1, th_k1, th_one)
abbrev rmX6_thinkOfOne : Room := { frames := 5, cells := 0, slots := 0, locals := 128 }
set_option maxHeartbeats 4000000 in
set_option maxRecDepth 100000 in
theorem c_X6_thinkOfOne {l : Launch} {D : va_G} {g : Nat → ClassId} {N : Nat} {ad : Nat → Nat} {C : Nat → va_E} {sz : Nat} {t_there : Int32} {t_lift : Int32} {t_none : Int32} {t_lik : Nat → Int32} {t_rain : Nat → Int32} {t_tell : Nat → Int32} {t_wy : Nat → Int32} {t_wn : Nat → Int32} {w_src : Int32} {wa_g : Nat → Int32} {th_none : Int64} {th_all1 : Int64} {th_all2 : Int64} {th_k1 : Int32} {th_k2 : Int32} {th_size : Int32} {th_one : Nat → Int64} {fC : Nat → Int32} {fS : Nat → Int32} {fM : Nat → Int32} {fT : Nat → Int32} {fY : Nat → Int32} {sL : Nat → Nat → Int32} {sT : Nat → Nat → Int32} {sF : Nat → Int32} {sU : Nat → Int32}  {rr : Int64 × Int64 × Int32 × (Nat → Int64)} (hN : 86 ≤ N) (hI : Inj N ad) (h5 : C 5 = .inr (7, [.ref (ad 6), .ref (ad 7), .ref (ad 8), .ref (ad 9), .ref (ad 10), .ref (ad 11), .ref (ad 12), .ref (ad 13), .ref (ad 14), .ref (ad 15), .ref (ad 16), .ref (ad 17), .ref (ad 18), .int t_there, .int t_lift, .int t_none])) (h11 : C 11 = aI g 12 t_lik) (h15 : C 15 = aI g 24 t_rain) (h16 : C 16 = aI g 4 t_tell) (h17 : C 17 = aI g 4 t_wy) (h18 : C 18 = aI g 4 t_wn) (h19 : C 19 = .inr (9, [.ref (ad 5), .ref (ad 20), .int w_src])) (h21 : C 21 = .inr (8, [.ref (ad 5), .ref (ad 19), .ref (ad 22), .ref (ad 23)])) (h22 : C 22 = aI g 12 wa_g) (h23 : C 23 = aS g 12 (fun i => if i < 12 then some (ad (24 + 3 * i)) else none)) (h60 : C 60 = .inr (6, [.ref (ad 5), .ref (ad 19), .ref (ad 21), .ref (ad 61), .ref (ad 62), .ref (ad 65), .ref (ad 66), .long th_none, .long th_all1, .long th_all2, .int th_k1, .int th_k2, .int th_size])) (h61 : C 61 = aF g 10 (fun i => if i < 10 then some (ad (67 + i)) else none)) (h65 : C 65 = aL g 12 th_one) (hF_ : PoolF C fC fS fM fT fY) (hS_ : PoolS g ad C sL sT sF sU) (hf : f_X6_thinkOfOne t_lik t_rain t_tell t_wy t_wn t_none w_src wa_g th_none th_all1 th_k1 th_size th_one sL sT sF sU fC fS fM fT fY = some rr) : Met l yX6_thinkOfOne wsX6_thinkOfOne rmX6_thinkOfOne (PcW D g N ad C sz [.ref (ad 60)]) (QvW D N ad sz (fun C' => (∀ i : Nat, i ≠ 60 ∧ i ≠ 65 → C' i = C i) ∧ (C' 60 = .inr (6, [.ref (ad 5), .ref (ad 19), .ref (ad 21), .ref (ad 61), .ref (ad 62), .ref (ad 65), .ref (ad 66), .long rr.1, .long rr.2.1, .long th_all2, .int rr.2.2.1, .int th_k2, .int th_size])) ∧ (C' 65 = aL g 12 rr.2.2.2))) 0 0 (Aw N ad sz) := by
  refine Met.ofW (cc := cX6_thinkOfOne) (maxL := 2) (ret := none) (by decide) rfl ?_
  intro p e s m args below meth c s₁ B hml hv
  obtain ⟨hav, hsz, hK, hP⟩ := hv
  subst hsz
  have hx := B.exec
  have hb := B.bytes
  have hr := B.returns
  have hts := atoms_spec (ws := wsX6_thinkOfOne) B.pre
  have hown : s.vm.findClass RX6 = some m.cls := findClass_of_methodNamed B.named
  have hlocks := B.notSynchronized
  generalize hQ : MQ below (QvW D N ad s.heap.size (fun C' => (∀ i : Nat, i ≠ 60 ∧ i ≠ 65 → C' i = C i) ∧ (C' 60 = .inr (6, [.ref (ad 5), .ref (ad 19), .ref (ad 21), .ref (ad 61), .ref (ad 62), .ref (ad 65), .ref (ad 66), .long rr.1, .long rr.2.1, .long th_all2, .int rr.2.2.1, .int th_k2, .int th_size])) ∧ (C' 65 = aL g 12 rr.2.2.2))) args s 0 0 (Aw N ad s.heap.size) = QQ
  have hS : va_S (Aw N ad s.heap.size) s.heap s.heap [] := va_S.rf
  have hA : ∀ q, s.heap.size ≤ q → (Aw N ad s.heap.size) q := fun q h => Or.inr h
  have hAd : ∀ j : Nat, j < N → (Aw N ad s.heap.size) (ad j) := fun j h => Or.inl ⟨j, h, rfl⟩
  obtain ⟨C0, hC0⟩ : ∃ C0 : Nat → va_E, C0 = C := ⟨_, rfl⟩
  have hag : ∀ i : Nat, i ≠ 60 ∧ i ≠ 65 → C i = C0 i := fun i _ => by rw [hC0]
  rw [← hC0] at hQ
  have k0 := hts (.fieldLink RX6 44 "UpDrain$Thoughts" "knowsOne" "Z") (List.mem_of_getElem? (i := 1) rfl)
  have nX6 : ∀ w ∈ u_ws RX6 TX6 13, w ∈ wsX6_thinkOfOne := fun _ h => List.mem_cons_of_mem _ (List.mem_append_left _ (List.mem_append_left _ (List.mem_append_left _ (List.mem_append_left _ (List.mem_append_left _ (List.mem_append_right _ h))))))
  have k2 := hts (.fieldLink RX6 31 "UpDrain$Thoughts" "plan" "LUpDrain$Town;") (List.mem_of_getElem? (i := 2) rfl)
  have k3 := nf_44 (A := args) hK
  have nX7 : ∀ w ∈ u_ws RX7 TX7 16, w ∈ wsX6_thinkOfOne := fun _ h => List.mem_cons_of_mem _ (List.mem_append_left _ (List.mem_append_left _ (List.mem_append_left _ (List.mem_append_left _ (List.mem_append_right _ h)))))
  have k5 := hts (.fieldLink RX6 71 "UpDrain$Thoughts" "ofNone" "J") (List.mem_of_getElem? (i := 3) rfl)
  have k6 := hts (.fieldLink RX6 75 "UpDrain$Thoughts" "allOfOne" "J") (List.mem_of_getElem? (i := 4) rfl)
  have k7 := hts (.fieldLink RX6 24 "UpDrain$Thoughts" "ofOne" "[J") (List.mem_of_getElem? (i := 5) rfl)
  have k8 := hts (.fieldLink RX6 35 "UpDrain$Thoughts" "ways" "LUpDrain$Ways;") (List.mem_of_getElem? (i := 6) rfl)
  have k9 := nf_53 (A := args) hK
  have nX9 : ∀ w ∈ u_ws RX9 TX9 3, w ∈ wsX6_thinkOfOne := fun _ h => List.mem_cons_of_mem _ (List.mem_append_left _ (List.mem_append_left _ (List.mem_append_left _ (List.mem_append_right _ h))))
  have k11 := nm_8 hK
  have k12 := hts (.initialized RX10) (List.mem_of_getElem? (i := 30) rfl)
  have k13 := hts (.static yX10_has) (List.mem_of_getElem? (i := 29) rfl)
  have k14 := nf_19 (A := args) hK
  have k15 := hts (.fieldLink RX6 39 "UpDrain$Thoughts" "water" "LUpDrain$Water;") (List.mem_of_getElem? (i := 7) rfl)
  have k16 := nf_56 (A := args) hK
  have nX8 : ∀ w ∈ u_ws RX8 TX8 4, w ∈ wsX6_thinkOfOne := fun _ h => List.mem_cons_of_mem _ (List.mem_append_left _ (List.mem_append_left _ (List.mem_append_right _ h)))
  have hE := lg_entry_eq m [.ref (ad 60)] 2
  rw [← hav] at hE
  rw [hE]
  have hl := lv_entry [.ref (ad 60)] (n := 2) (Nat.le_of_ble_eq_true rfl)
  generalize (lg_sl [.ref (ad 60)] ++ List.replicate (2 - (lg_sl [.ref (ad 60)]).length) Slot.unset).toArray = ls at hl ⊢
  have hl : lv_has ls 2 [(0, .ref (ad 60))] := hl
  clear hE
  unfold f_X6_thinkOfOne at hf
  suffices hgo : ∀ (H : Heap) (locs : List Loc), va_P D vwCl (wd N ad C) H → va_S (Aw N ad s.heap.size) s.heap H locs → W p l e (headSpec wsX6_thinkOfOne rmX6_thinkOfOne).room s m args below meth c H locs 0 0 QQ (F0 m 0 ls []) from hgo s.heap [] hP hS
  clear hS hP
  intro H locs hP hS
  refine lv_aload_n hx hb dX6_thinkOfOne_0 rfl (lv_at hl 0 rfl) ?_
  refine r_get (own := RX6) (T := TX6) (n := 13) (ci := 6) (v := .int th_k1) hx hb hts nX6 hown hK hP (by omega) h60 rfl 10 (by decide) k0 rfl dX6_thinkOfOne_1 ?_
  refine lv_if_eq (tgt := 8) hx hb dX6_thinkOfOne_4 (by decide) (fun c1 => ?_) (fun c1 => ?_)
  · have hf := it_e c1 hf
    refine lv_aload_n hx hb dX6_thinkOfOne_8 rfl (lv_at hl 0 rfl) ?_
    refine lv_aload_n hx hb dX6_thinkOfOne_9 rfl (lv_at hl 0 rfl) ?_
    refine lv_aload_n hx hb dX6_thinkOfOne_10 rfl (lv_at hl 0 rfl) ?_
    refine r_get (own := RX6) (T := TX6) (n := 13) (ci := 6) (v := .ref (ad 5)) hx hb hts nX6 hown hK hP (by omega) h60 rfl 0 (by decide) k2 rfl dX6_thinkOfOne_11 ?_
    refine r_getN (own := RX6) (T := TX7) (n := 16) (ci := 7) (v := .int t_none) hx hb hts nX7 hown hK hP (by omega) h5 rfl 15 (by decide) k3 rfl dX6_thinkOfOne_14 ?_
    refine lv_i2l hx hb dX6_thinkOfOne_17 rfl ?_
    refine lv_null hx hb dX6_thinkOfOne_18 ?_
    refine lv_null hx hb dX6_thinkOfOne_19 ?_
    obtain ⟨q2, hq2, hf⟩ := bd_e hf
    refine k_lR (va_runV (C := RX6) (As := [.long (Int32.toInt64 t_none), .null, .null]) (rest := [.ref (ad 60)]) ⟨hx, hb, hml, hown, hts⟩ (c_X6_thoughtBy (l := l) (sz := H.size) (p0 := (Int32.toInt64 t_none)) (p1 := none) (p2 := none) hN oS_n oS_n h5 h15 h16 h17 h18 h21 h22 h60 h61 hF_ hS_ hq2) (cwV 3 hts gX6_thinkOfOne_X6_thoughtBy rfl rfl rfl (by decide +kernel) ⟨Nat.le_of_ble_eq_true rfl, Nat.le_of_ble_eq_true rfl⟩) (preV_of hK hP (by omega) h60 rfl) rfl rfl hl.1 rfl (lv_room (Nat.le_of_ble_eq_true rfl)) dX6_thinkOfOne_20 ⟨Nat.le_of_ble_eq_true rfl, Nat.le_of_ble_eq_true rfl⟩) hA hP hS (fun H locs hP hS => ?_)
    refine r_put (own := RX6) (T := TX6) (n := 13) (ci := 6) (v := .long q2) hx hb hts nX6 tyX6 tyX6_ok nmX6 hown hK hI hAd hP hS (by omega) h60 rfl 7 (by decide) k5 rfl rfl rfl (Nat.le_of_ble_eq_true rfl) dX6_thinkOfOne_23 (fun C H locs hP hS he hn => ?_)
    have hag : ∀ i : Nat, i ≠ 60 ∧ i ≠ 65 → C i = C0 i := fun i h => (he i (by omega)).trans (hag i h)
    have h5 := (he 5 (by decide)).trans h5
    have h11 := (he 11 (by decide)).trans h11
    have h15 := (he 15 (by decide)).trans h15
    have h16 := (he 16 (by decide)).trans h16
    have h17 := (he 17 (by decide)).trans h17
    have h18 := (he 18 (by decide)).trans h18
    have h19 := (he 19 (by decide)).trans h19
    have h21 := (he 21 (by decide)).trans h21
    have h22 := (he 22 (by decide)).trans h22
    have h23 := (he 23 (by decide)).trans h23
    have h61 := (he 61 (by decide)).trans h61
    have h65 := (he 65 (by decide)).trans h65
    have hF_ := hF_.ne (fun i h1 => he i (by omega))
    have hS_ := hS_.ne (fun i h1 h2 => he i (by omega))
    have h60 : C 60 = .inr (6, [.ref (ad 5), .ref (ad 19), .ref (ad 21), .ref (ad 61), .ref (ad 62), .ref (ad 65), .ref (ad 66), .long q2, .long th_all1, .long th_all2, .int th_k1, .int th_k2, .int th_size]) := hn
    refine lv_aload_n hx hb dX6_thinkOfOne_26 rfl (lv_at hl 0 rfl) ?_
    refine lv_aload_n hx hb dX6_thinkOfOne_27 rfl (lv_at hl 0 rfl) ?_
    refine r_get (own := RX6) (T := TX6) (n := 13) (ci := 6) (v := .long q2) hx hb hts nX6 hown hK hP (by omega) h60 rfl 7 (by decide) k5 rfl dX6_thinkOfOne_28 ?_
    refine r_put (own := RX6) (T := TX6) (n := 13) (ci := 6) (v := .long q2) hx hb hts nX6 tyX6 tyX6_ok nmX6 hown hK hI hAd hP hS (by omega) h60 rfl 8 (by decide) k6 rfl rfl rfl (Nat.le_of_ble_eq_true rfl) dX6_thinkOfOne_31 (fun C H locs hP hS he hn => ?_)
    have hag : ∀ i : Nat, i ≠ 60 ∧ i ≠ 65 → C i = C0 i := fun i h => (he i (by omega)).trans (hag i h)
    have h5 := (he 5 (by decide)).trans h5
    have h11 := (he 11 (by decide)).trans h11
    have h15 := (he 15 (by decide)).trans h15
    have h16 := (he 16 (by decide)).trans h16
    have h17 := (he 17 (by decide)).trans h17
    have h18 := (he 18 (by decide)).trans h18
    have h19 := (he 19 (by decide)).trans h19
    have h21 := (he 21 (by decide)).trans h21
    have h22 := (he 22 (by decide)).trans h22
    have h23 := (he 23 (by decide)).trans h23
    have h61 := (he 61 (by decide)).trans h61
    have h65 := (he 65 (by decide)).trans h65
    have hF_ := hF_.ne (fun i h1 => he i (by omega))
    have hS_ := hS_.ne (fun i h1 h2 => he i (by omega))
    have h60 : C 60 = .inr (6, [.ref (ad 5), .ref (ad 19), .ref (ad 21), .ref (ad 61), .ref (ad 62), .ref (ad 65), .ref (ad 66), .long q2, .long q2, .long th_all2, .int th_k1, .int th_k2, .int th_size]) := hn
    refine lv_iconst (v := 0) hx hb dX6_thinkOfOne_34 (by decide) ?_
    refine lv_istore_n (lv' := [(1, .int 0), (0, .ref (ad 60))]) hx hb dX6_thinkOfOne_35 rfl hl (by decide) rfl (fun ls hl => ?_)
    have key36 : ∀ (ko : Int32 → Int64 → (Nat → Int64) → Option (Int64 × Int64 × Int32 × (Nat → Int64))), (∀ (x6 : Int32) (x7 : Int64) (f8 : Nat → Int64) (C : Nat → va_E) (H : Heap) (locs : List Loc) (ls : Array Slot), va_P D vwCl (wd N ad C) H → va_S (Aw N ad s.heap.size) s.heap H locs → (∀ i : Nat, i ≠ 60 ∧ i ≠ 65 → C i = C0 i) → C 5 = .inr (7, [.ref (ad 6), .ref (ad 7), .ref (ad 8), .ref (ad 9), .ref (ad 10), .ref (ad 11), .ref (ad 12), .ref (ad 13), .ref (ad 14), .ref (ad 15), .ref (ad 16), .ref (ad 17), .ref (ad 18), .int t_there, .int t_lift, .int t_none]) → C 11 = aI g 12 t_lik → C 15 = aI g 24 t_rain → C 16 = aI g 4 t_tell → C 17 = aI g 4 t_wy → C 18 = aI g 4 t_wn → C 19 = .inr (9, [.ref (ad 5), .ref (ad 20), .int w_src]) → C 21 = .inr (8, [.ref (ad 5), .ref (ad 19), .ref (ad 22), .ref (ad 23)]) → C 22 = aI g 12 wa_g → C 23 = aS g 12 (fun i => if i < 12 then some (ad (24 + 3 * i)) else none) → C 60 = .inr (6, [.ref (ad 5), .ref (ad 19), .ref (ad 21), .ref (ad 61), .ref (ad 62), .ref (ad 65), .ref (ad 66), .long q2, .long x7, .long th_all2, .int th_k1, .int th_k2, .int th_size]) → C 61 = aF g 10 (fun i => if i < 10 then some (ad (67 + i)) else none) → C 65 = aL g 12 f8 → PoolF C fC fS fM fT fY → PoolS g ad C sL sT sF sU → lv_has ls 2 [(0, .ref (ad 60)), (1, .int x6)] → ko x6 x7 f8 = some rr → W p l e (headSpec wsX6_thinkOfOne rmX6_thinkOfOne).room s m args below meth c H locs 0 0 QQ (F0 m 114 ls [])) → ∀ (n : Nat) (x3 : Int32) (x4 : Int64) (f5 : Nat → Int64) (C : Nat → va_E) (H : Heap) (locs : List Loc) (ls : Array Slot), va_P D vwCl (wd N ad C) H → va_S (Aw N ad s.heap.size) s.heap H locs → (∀ i : Nat, i ≠ 60 ∧ i ≠ 65 → C i = C0 i) → C 5 = .inr (7, [.ref (ad 6), .ref (ad 7), .ref (ad 8), .ref (ad 9), .ref (ad 10), .ref (ad 11), .ref (ad 12), .ref (ad 13), .ref (ad 14), .ref (ad 15), .ref (ad 16), .ref (ad 17), .ref (ad 18), .int t_there, .int t_lift, .int t_none]) → C 11 = aI g 12 t_lik → C 15 = aI g 24 t_rain → C 16 = aI g 4 t_tell → C 17 = aI g 4 t_wy → C 18 = aI g 4 t_wn → C 19 = .inr (9, [.ref (ad 5), .ref (ad 20), .int w_src]) → C 21 = .inr (8, [.ref (ad 5), .ref (ad 19), .ref (ad 22), .ref (ad 23)]) → C 22 = aI g 12 wa_g → C 23 = aS g 12 (fun i => if i < 12 then some (ad (24 + 3 * i)) else none) → C 60 = .inr (6, [.ref (ad 5), .ref (ad 19), .ref (ad 21), .ref (ad 61), .ref (ad 62), .ref (ad 65), .ref (ad 66), .long q2, .long x4, .long th_all2, .int th_k1, .int th_k2, .int th_size]) → C 61 = aF g 10 (fun i => if i < 10 then some (ad (67 + i)) else none) → C 65 = aL g 12 f5 → PoolF C fC fS fM fT fY → PoolS g ad C sL sT sF sU → lv_has ls 2 [(0, .ref (ad 60)), (1, .int x3)] → LX6_thinkOfOne_36 t_lik t_rain t_tell t_wy t_wn w_src wa_g th_size sL sT sF sU fC fS fM fT fY ko n x3 x4 f5 = some rr → W p l e (headSpec wsX6_thinkOfOne rmX6_thinkOfOne).room s m args below meth c H locs 0 0 QQ (F0 m 36 ls []) := by
      intro ko hko n
      induction n with
      | zero =>
        intro x3 x4 f5 C H locs ls hP hS hag h5 h11 h15 h16 h17 h18 h19 h21 h22 h23 h60 h61 h65 hF_ hS_ hl hf
        rw [LX6_thinkOfOne_36_z] at hf
        cases hf
      | succ n ih =>
        intro x3 x4 f5 C H locs ls hP hS hag h5 h11 h15 h16 h17 h18 h19 h21 h22 h23 h60 h61 h65 hF_ hS_ hl hf
        rw [LX6_thinkOfOne_36_s] at hf
        refine lv_iload_n hx hb dX6_thinkOfOne_36 rfl (lv_at hl 1 rfl) ?_
        refine lv_bipush (v := 12) hx hb dX6_thinkOfOne_37 (by decide) ?_
        refine lv_icmp_ge (tgt := 114) hx hb dX6_thinkOfOne_39 (by decide) (fun c9 => ?_) (fun c9 => ?_)
        · have hf := it_e c9 hf
          exact hko x3 x4 f5 C H locs ls hP hS hag h5 h11 h15 h16 h17 h18 h19 h21 h22 h23 h60 h61 h65 hF_ hS_ (lv_sub hl [0, 1] rfl) hf
        · have hf := ie_e c9 hf
          refine lv_aload_n hx hb dX6_thinkOfOne_42 rfl (lv_at hl 0 rfl) ?_
          refine r_get (own := RX6) (T := TX6) (n := 13) (ci := 6) (v := .ref (ad 65)) hx hb hts nX6 hown hK hP (by omega) h60 rfl 5 (by decide) k7 rfl dX6_thinkOfOne_43 ?_
          refine lv_iload_n hx hb dX6_thinkOfOne_46 rfl (lv_at hl 1 rfl) ?_
          refine lv_lconst (v := 0) hx hb dX6_thinkOfOne_47 (by decide) ?_
          obtain ⟨i11, f10, ef10, hf⟩ := wl_e hf
          refine r_last hx hb hK hI hAd hP hS (by omega) h65 i11 dX6_thinkOfOne_48 ef10 (fun C H locs hP hS he hn => ?_)
          have hag : ∀ i : Nat, i ≠ 60 ∧ i ≠ 65 → C i = C0 i := fun i h => (he i (by omega)).trans (hag i h)
          have h5 := (he 5 (by decide)).trans h5
          have h11 := (he 11 (by decide)).trans h11
          have h15 := (he 15 (by decide)).trans h15
          have h16 := (he 16 (by decide)).trans h16
          have h17 := (he 17 (by decide)).trans h17
          have h18 := (he 18 (by decide)).trans h18
          have h19 := (he 19 (by decide)).trans h19
          have h21 := (he 21 (by decide)).trans h21
          have h22 := (he 22 (by decide)).trans h22
          have h23 := (he 23 (by decide)).trans h23
          have h60 := (he 60 (by decide)).trans h60
          have h61 := (he 61 (by decide)).trans h61
          have hF_ := hF_.ne (fun i h1 => he i (by omega))
          have hS_ := hS_.ne (fun i h1 h2 => he i (by omega))
          have h65 : C 65 = aL g 12 f10 := hn
          refine lv_aload_n hx hb dX6_thinkOfOne_49 rfl (lv_at hl 0 rfl) ?_
          refine r_get (own := RX6) (T := TX6) (n := 13) (ci := 6) (v := .ref (ad 19)) hx hb hts nX6 hown hK hP (by omega) h60 rfl 1 (by decide) k8 rfl dX6_thinkOfOne_50 ?_
          refine r_getN (own := RX6) (T := TX9) (n := 3) (ci := 9) (v := .int w_src) hx hb hts nX9 hown hK hP (by omega) h19 rfl 2 (by decide) k9 rfl dX6_thinkOfOne_53 ?_
          refine lv_iload_n hx hb dX6_thinkOfOne_56 rfl (lv_at hl 1 rfl) ?_
          obtain ⟨q12, hq12, hf⟩ := bd_e hf
          refine k_iR (va_runSN (As := [.int w_src, .int x3]) (rest := []) ⟨hx, hb, hml, hown, hts⟩ (c_X10_has (l := l) (sz := H.size) (p0 := w_src) (p1 := x3) hq12) ⟨va_cnB 2 hts gX6_thinkOfOne_X10_has_n83 rfl rfl rfl k11 k12 (by decide +kernel) ⟨Nat.le_of_ble_eq_true rfl, Nat.le_of_ble_eq_true rfl⟩, k13, trivial⟩ preS0 rfl rfl hl.1 rfl (lv_room (Nat.le_of_ble_eq_true rfl)) dX6_thinkOfOne_57 ⟨Nat.le_of_ble_eq_true rfl, Nat.le_of_ble_eq_true rfl⟩) hA hP hS (fun H locs hP hS hbz_q12 => ?_)
          obtain ⟨q13, htq13, hf⟩ := bd_e hf
          have jnq13 : ∀ (C : Nat → va_E) (H : Heap) (locs : List Loc) (ls : Array Slot), va_P D vwCl (wd N ad C) H → va_S (Aw N ad s.heap.size) s.heap H locs → (∀ i : Nat, i ≠ 60 ∧ i ≠ 65 → C i = C0 i) → C 5 = .inr (7, [.ref (ad 6), .ref (ad 7), .ref (ad 8), .ref (ad 9), .ref (ad 10), .ref (ad 11), .ref (ad 12), .ref (ad 13), .ref (ad 14), .ref (ad 15), .ref (ad 16), .ref (ad 17), .ref (ad 18), .int t_there, .int t_lift, .int t_none]) → C 11 = aI g 12 t_lik → C 15 = aI g 24 t_rain → C 16 = aI g 4 t_tell → C 17 = aI g 4 t_wy → C 18 = aI g 4 t_wn → C 19 = .inr (9, [.ref (ad 5), .ref (ad 20), .int w_src]) → C 21 = .inr (8, [.ref (ad 5), .ref (ad 19), .ref (ad 22), .ref (ad 23)]) → C 22 = aI g 12 wa_g → C 23 = aS g 12 (fun i => if i < 12 then some (ad (24 + 3 * i)) else none) → C 60 = .inr (6, [.ref (ad 5), .ref (ad 19), .ref (ad 21), .ref (ad 61), .ref (ad 62), .ref (ad 65), .ref (ad 66), .long q2, .long q13.1, .long th_all2, .int th_k1, .int th_k2, .int th_size]) → C 61 = aF g 10 (fun i => if i < 10 then some (ad (67 + i)) else none) → C 65 = aL g 12 q13.2 → PoolF C fC fS fM fT fY → PoolS g ad C sL sT sF sU → lv_has ls 2 [(0, .ref (ad 60)), (1, .int x3)] → W p l e (headSpec wsX6_thinkOfOne rmX6_thinkOfOne).room s m args below meth c H locs 0 0 QQ (F0 m 108 ls []) := by
            intro C H locs ls hP hS hag h5 h11 h15 h16 h17 h18 h19 h21 h22 h23 h60 h61 h65 hF_ hS_ hl
            obtain ⟨x14, ex14, hf⟩ := lt_e hf
            refine lv_iinc (v := x14) (lv' := [(1, .int x14), (0, .ref (ad 60))]) hx hb dX6_thinkOfOne_108 hl (k := 1) rfl (by rw [ex14]; rfl) (by decide) rfl (fun ls hl => ?_)
            refine lv_goto (tgt := 36) hx hb dX6_thinkOfOne_111 (by decide) ?_
            exact ih x14 q13.1 q13.2 C H locs ls hP hS hag h5 h11 h15 h16 h17 h18 h19 h21 h22 h23 h60 h61 h65 hF_ hS_ (lv_sub hl [1, 0] rfl) hf
          clear hf
          have hf := htq13
          refine lv_if_eq (tgt := 108) hx hb dX6_thinkOfOne_60 (by decide) (fun c15 => ?_) (fun c15 => ?_)
          · have hf := it_e c15 hf
            obtain rfl := Option.some.inj hf
            exact jnq13 C H locs ls hP hS hag h5 h11 h15 h16 h17 h18 h19 h21 h22 h23 h60 h61 h65 hF_ hS_ (lv_sub hl [0, 1] rfl)
          · have hf := ie_e c15 hf
            refine lv_aload_n hx hb dX6_thinkOfOne_63 rfl (lv_at hl 0 rfl) ?_
            refine r_get (own := RX6) (T := TX6) (n := 13) (ci := 6) (v := .ref (ad 65)) hx hb hts nX6 hown hK hP (by omega) h60 rfl 5 (by decide) k7 rfl dX6_thinkOfOne_64 ?_
            refine lv_iload_n hx hb dX6_thinkOfOne_67 rfl (lv_at hl 1 rfl) ?_
            refine lv_aload_n hx hb dX6_thinkOfOne_68 rfl (lv_at hl 0 rfl) ?_
            refine lv_aload_n hx hb dX6_thinkOfOne_69 rfl (lv_at hl 0 rfl) ?_
            refine r_get (own := RX6) (T := TX6) (n := 13) (ci := 6) (v := .ref (ad 5)) hx hb hts nX6 hown hK hP (by omega) h60 rfl 0 (by decide) k2 rfl dX6_thinkOfOne_70 ?_
            refine r_getN (own := RX6) (T := TX7) (n := 16) (ci := 7) (v := .ref (ad 11)) hx hb hts nX7 hown hK hP (by omega) h5 rfl 5 (by decide) k14 rfl dX6_thinkOfOne_73 ?_
            refine lv_iload_n hx hb dX6_thinkOfOne_76 rfl (lv_at hl 1 rfl) ?_
            obtain ⟨i17, x16, ex16, hf⟩ := ri_e hf
            refine r_iald hx hb hK hP (by omega) h11 i17 dX6_thinkOfOne_77 ex16 ?_
            refine lv_i2l hx hb dX6_thinkOfOne_78 rfl ?_
            refine lv_aload_n hx hb dX6_thinkOfOne_79 rfl (lv_at hl 0 rfl) ?_
            refine r_get (own := RX6) (T := TX6) (n := 13) (ci := 6) (v := .ref (ad 21)) hx hb hts nX6 hown hK hP (by omega) h60 rfl 2 (by decide) k15 rfl dX6_thinkOfOne_80 ?_
            refine r_getN (own := RX6) (T := TX8) (n := 4) (ci := 8) (v := .ref (ad 23)) hx hb hts nX8 hown hK hP (by omega) h21 rfl 3 (by decide) k16 rfl dX6_thinkOfOne_83 ?_
            refine lv_iload_n hx hb dX6_thinkOfOne_86 rfl (lv_at hl 1 rfl) ?_
            obtain ⟨i18, hf⟩ := ix_e hf
            refine r_aldS2 hx hb hK hP (by omega) h23 i18 dX6_thinkOfOne_87 (if_pos (vp_lt i18)) ?_
            obtain ⟨j20, ej20⟩ : ∃ z : Nat, z = Int32.toNatClampNeg x3 := ⟨_, rfl⟩
            rw [← ej20] at hf ⊢
            have hbj20 : isSB (24 + 3 * j20) := isSB_i (by rw [ej20]; exact vp_lt i18)
            refine W.eq (g2 := F0 m 88 ls [.ref (ad (24 + 3 * j20)), .long (Int32.toInt64 x16), .ref (ad 60), .int x3, .ref (ad 65)]) rfl ?_
            refine lv_null hx hb dX6_thinkOfOne_88 ?_
            obtain ⟨q21, hq21, hf⟩ := bd_e hf
            refine k_lR (va_runV (C := RX6) (As := [.long (Int32.toInt64 x16), .ref (ad (24 + 3 * j20)), .null]) (rest := [.int x3, .ref (ad 65)]) ⟨hx, hb, hml, hown, hts⟩ (c_X6_thoughtBy (l := l) (sz := H.size) (p0 := (Int32.toInt64 x16)) (p1 := (some (24 + 3 * j20))) (p2 := none) hN (oS_s hbj20) oS_n h5 h15 h16 h17 h18 h21 h22 h60 h61 hF_ hS_ hq21) (cwV 3 hts gX6_thinkOfOne_X6_thoughtBy rfl rfl rfl (by decide +kernel) ⟨Nat.le_of_ble_eq_true rfl, Nat.le_of_ble_eq_true rfl⟩) (preV_of hK hP (by omega) h60 rfl) rfl rfl hl.1 rfl (lv_room (Nat.le_of_ble_eq_true rfl)) dX6_thinkOfOne_89 ⟨Nat.le_of_ble_eq_true rfl, Nat.le_of_ble_eq_true rfl⟩) hA hP hS (fun H locs hP hS => ?_)
            obtain ⟨i23, f22, ef22, hf⟩ := wl_e hf
            refine r_last hx hb hK hI hAd hP hS (by omega) h65 i23 dX6_thinkOfOne_92 ef22 (fun C H locs hP hS he hn => ?_)
            have hag : ∀ i : Nat, i ≠ 60 ∧ i ≠ 65 → C i = C0 i := fun i h => (he i (by omega)).trans (hag i h)
            have h5 := (he 5 (by decide)).trans h5
            have h11 := (he 11 (by decide)).trans h11
            have h15 := (he 15 (by decide)).trans h15
            have h16 := (he 16 (by decide)).trans h16
            have h17 := (he 17 (by decide)).trans h17
            have h18 := (he 18 (by decide)).trans h18
            have h19 := (he 19 (by decide)).trans h19
            have h21 := (he 21 (by decide)).trans h21
            have h22 := (he 22 (by decide)).trans h22
            have h23 := (he 23 (by decide)).trans h23
            have h60 := (he 60 (by decide)).trans h60
            have h61 := (he 61 (by decide)).trans h61
            have hF_ := hF_.ne (fun i h1 => he i (by omega))
            have hS_ := hS_.ne (fun i h1 h2 => he i (by omega))
            have h65 : C 65 = aL g 12 f22 := hn
            refine lv_aload_n hx hb dX6_thinkOfOne_93 rfl (lv_at hl 0 rfl) ?_
            refine lv_dup hx hb dX6_thinkOfOne_94 rfl ?_
            refine r_get (own := RX6) (T := TX6) (n := 13) (ci := 6) (v := .long x4) hx hb hts nX6 hown hK hP (by omega) h60 rfl 8 (by decide) k6 rfl dX6_thinkOfOne_95 ?_
            refine lv_aload_n hx hb dX6_thinkOfOne_98 rfl (lv_at hl 0 rfl) ?_
            refine r_get (own := RX6) (T := TX6) (n := 13) (ci := 6) (v := .ref (ad 65)) hx hb hts nX6 hown hK hP (by omega) h60 rfl 5 (by decide) k7 rfl dX6_thinkOfOne_99 ?_
            refine lv_iload_n hx hb dX6_thinkOfOne_102 rfl (lv_at hl 1 rfl) ?_
            obtain ⟨i25, x24, ex24, hf⟩ := rl_e hf
            refine r_lald hx hb hK hP (by omega) h65 i25 dX6_thinkOfOne_103 ex24 ?_
            refine lv_ladd hx hb dX6_thinkOfOne_104 ?_
            obtain ⟨x26, ex26, hf⟩ := lt_e hf
            refine tp_l ex26 ?_
            refine r_put (own := RX6) (T := TX6) (n := 13) (ci := 6) (v := .long x26) hx hb hts nX6 tyX6 tyX6_ok nmX6 hown hK hI hAd hP hS (by omega) h60 rfl 8 (by decide) k6 rfl rfl rfl (Nat.le_of_ble_eq_true rfl) dX6_thinkOfOne_105 (fun C H locs hP hS he hn => ?_)
            have hag : ∀ i : Nat, i ≠ 60 ∧ i ≠ 65 → C i = C0 i := fun i h => (he i (by omega)).trans (hag i h)
            have h5 := (he 5 (by decide)).trans h5
            have h11 := (he 11 (by decide)).trans h11
            have h15 := (he 15 (by decide)).trans h15
            have h16 := (he 16 (by decide)).trans h16
            have h17 := (he 17 (by decide)).trans h17
            have h18 := (he 18 (by decide)).trans h18
            have h19 := (he 19 (by decide)).trans h19
            have h21 := (he 21 (by decide)).trans h21
            have h22 := (he 22 (by decide)).trans h22
            have h23 := (he 23 (by decide)).trans h23
            have h61 := (he 61 (by decide)).trans h61
            have h65 := (he 65 (by decide)).trans h65
            have hF_ := hF_.ne (fun i h1 => he i (by omega))
            have hS_ := hS_.ne (fun i h1 h2 => he i (by omega))
            have h60 : C 60 = .inr (6, [.ref (ad 5), .ref (ad 19), .ref (ad 21), .ref (ad 61), .ref (ad 62), .ref (ad 65), .ref (ad 66), .long q2, .long x26, .long th_all2, .int th_k1, .int th_k2, .int th_size]) := hn
            obtain rfl := Option.some.inj hf
            exact jnq13 C H locs ls hP hS hag h5 h11 h15 h16 h17 h18 h19 h21 h22 h23 h60 h61 h65 hF_ hS_ (lv_sub hl [0, 1] rfl)
    refine key36 _ (fun x6 x7 f8 C H locs ls hP hS hag h5 h11 h15 h16 h17 h18 h19 h21 h22 h23 h60 h61 h65 hF_ hS_ hl hf => ?_) FU 0 q2 th_one C H locs ls hP hS hag h5 h11 h15 h16 h17 h18 h19 h21 h22 h23 h60 h61 h65 hF_ hS_ (lv_sub hl [1, 0] rfl) hf
    refine lv_aload_n hx hb dX6_thinkOfOne_114 rfl (lv_at hl 0 rfl) ?_
    refine lv_iconst (v := 1) hx hb dX6_thinkOfOne_115 (by decide) ?_
    refine r_put (own := RX6) (T := TX6) (n := 13) (ci := 6) (v := .int 1) hx hb hts nX6 tyX6 tyX6_ok nmX6 hown hK hI hAd hP hS (by omega) h60 rfl 10 (by decide) k0 rfl (bz_n bz1) (bz_f bz1) (Nat.le_of_ble_eq_true rfl) dX6_thinkOfOne_116 (fun C H locs hP hS he hn => ?_)
    have hag : ∀ i : Nat, i ≠ 60 ∧ i ≠ 65 → C i = C0 i := fun i h => (he i (by omega)).trans (hag i h)
    have h5 := (he 5 (by decide)).trans h5
    have h11 := (he 11 (by decide)).trans h11
    have h15 := (he 15 (by decide)).trans h15
    have h16 := (he 16 (by decide)).trans h16
    have h17 := (he 17 (by decide)).trans h17
    have h18 := (he 18 (by decide)).trans h18
    have h19 := (he 19 (by decide)).trans h19
    have h21 := (he 21 (by decide)).trans h21
    have h22 := (he 22 (by decide)).trans h22
    have h23 := (he 23 (by decide)).trans h23
    have h61 := (he 61 (by decide)).trans h61
    have h65 := (he 65 (by decide)).trans h65
    have hF_ := hF_.ne (fun i h1 => he i (by omega))
    have hS_ := hS_.ne (fun i h1 h2 => he i (by omega))
    have h60 : C 60 = .inr (6, [.ref (ad 5), .ref (ad 19), .ref (ad 21), .ref (ad 61), .ref (ad 62), .ref (ad 65), .ref (ad 66), .long q2, .long x7, .long th_all2, .int 1, .int th_k2, .int th_size]) := hn
    obtain rfl := Option.some.inj hf
    rw [← hQ]
    exact e_vW hx hb hr hP hS ⟨hag, h60, h65⟩ hlocks dX6_thinkOfOne_119
  · have hf := ie_e c1 hf
    obtain rfl := Option.some.inj hf
    rw [← hQ]
    exact e_vW hx hb hr hP hS ⟨hag, h60, h65⟩ hlocks dX6_thinkOfOne_7

def LX6_thinkOfTwo_23 (t_lik : Nat → Int32) (t_rain : Nat → Int32) (t_tell : Nat → Int32) (t_wy : Nat → Int32) (t_wn : Nat → Int32) (w_src : Int32) (wa_g : Nat → Int32) (th_size : Int32) (sL : Nat → Nat → Int32) (sT : Nat → Nat → Int32) (sF : Nat → Int32) (sU : Nat → Int32) (fC : Nat → Int32) (fS : Nat → Int32) (fM : Nat → Int32) (fT : Nat → Int32) (fY : Nat → Int32) (x3 : Int32) (ko : Int32 → Int64 → (Nat → Int64) → Option (Int64 × Int32 × (Nat → Int64))) : Nat → Int32 → Int64 → (Nat → Int64) → Option (Int64 × Int32 × (Nat → Int64))
  | 0, _, _, _ => none
  | n + 1, x10, x11, f12 =>
    if x3 ≤ x10 then
      ko x10 x11 f12
    else
      (f_X10_has w_src x3).bind fun q17 =>
      (if q17 = 0 then
        some (x11, f12)
      else
        (f_X10_has w_src x10).bind fun q21 =>
        if q21 = 0 then
          some (x11, f12)
        else
          ri t_lik 12 (x3) fun x23 =>
          ri t_lik 12 (x10) fun x25 =>
          lt ((Int32.toInt64 (x23 * x25)) : Int64) fun x27 =>
          ix 12 (x3) fun j30 =>
          ix 12 (x10) fun j33 =>
          (f_X6_thoughtBy x27 (some (24 + 3 * j30)) (some (24 + 3 * j33)) t_rain t_tell t_wy t_wn wa_g th_size sL sT sF sU fC fS fM fT fY).bind fun q34 =>
          wl f12 144 (((x3 * 12) + x10)) (q34) fun f35 =>
          wl f35 144 (((x10 * 12) + x3)) (q34) fun f37 =>
          lt ((x11 + q34) : Int64) fun x39 =>
          some (x39, f37) : Option (Int64 × (Nat → Int64))).bind fun q18 =>
      lt (x10 + 1 : Int32) fun x19 =>
      LX6_thinkOfTwo_23 t_lik t_rain t_tell t_wy t_wn w_src wa_g th_size sL sT sF sU fC fS fM fT fY x3 ko n x19 q18.1 q18.2
theorem LX6_thinkOfTwo_23_z (t_lik : Nat → Int32) (t_rain : Nat → Int32) (t_tell : Nat → Int32) (t_wy : Nat → Int32) (t_wn : Nat → Int32) (w_src : Int32) (wa_g : Nat → Int32) (th_size : Int32) (sL : Nat → Nat → Int32) (sT : Nat → Nat → Int32) (sF : Nat → Int32) (sU : Nat → Int32) (fC : Nat → Int32) (fS : Nat → Int32) (fM : Nat → Int32) (fT : Nat → Int32) (fY : Nat → Int32) (x3 : Int32) (ko : Int32 → Int64 → (Nat → Int64) → Option (Int64 × Int32 × (Nat → Int64))) (x10 : Int32) (x11 : Int64) (f12 : Nat → Int64) : LX6_thinkOfTwo_23 t_lik t_rain t_tell t_wy t_wn w_src wa_g th_size sL sT sF sU fC fS fM fT fY x3 ko 0 x10 x11 f12 = none := rfl
theorem LX6_thinkOfTwo_23_s (t_lik : Nat → Int32) (t_rain : Nat → Int32) (t_tell : Nat → Int32) (t_wy : Nat → Int32) (t_wn : Nat → Int32) (w_src : Int32) (wa_g : Nat → Int32) (th_size : Int32) (sL : Nat → Nat → Int32) (sT : Nat → Nat → Int32) (sF : Nat → Int32) (sU : Nat → Int32) (fC : Nat → Int32) (fS : Nat → Int32) (fM : Nat → Int32) (fT : Nat → Int32) (fY : Nat → Int32) (x3 : Int32) (ko : Int32 → Int64 → (Nat → Int64) → Option (Int64 × Int32 × (Nat → Int64))) (n : Nat) (x10 : Int32) (x11 : Int64) (f12 : Nat → Int64) : LX6_thinkOfTwo_23 t_lik t_rain t_tell t_wy t_wn w_src wa_g th_size sL sT sF sU fC fS fM fT fY x3 ko (n + 1) x10 x11 f12 =
    if x3 ≤ x10 then
      ko x10 x11 f12
    else
      (f_X10_has w_src x3).bind fun q17 =>
      (if q17 = 0 then
        some (x11, f12)
      else
        (f_X10_has w_src x10).bind fun q21 =>
        if q21 = 0 then
          some (x11, f12)
        else
          ri t_lik 12 (x3) fun x23 =>
          ri t_lik 12 (x10) fun x25 =>
          lt ((Int32.toInt64 (x23 * x25)) : Int64) fun x27 =>
          ix 12 (x3) fun j30 =>
          ix 12 (x10) fun j33 =>
          (f_X6_thoughtBy x27 (some (24 + 3 * j30)) (some (24 + 3 * j33)) t_rain t_tell t_wy t_wn wa_g th_size sL sT sF sU fC fS fM fT fY).bind fun q34 =>
          wl f12 144 (((x3 * 12) + x10)) (q34) fun f35 =>
          wl f35 144 (((x10 * 12) + x3)) (q34) fun f37 =>
          lt ((x11 + q34) : Int64) fun x39 =>
          some (x39, f37) : Option (Int64 × (Nat → Int64))).bind fun q18 =>
      lt (x10 + 1 : Int32) fun x19 =>
      LX6_thinkOfTwo_23 t_lik t_rain t_tell t_wy t_wn w_src wa_g th_size sL sT sF sU fC fS fM fT fY x3 ko n x19 q18.1 q18.2 := rfl
def LX6_thinkOfTwo_15 (t_lik : Nat → Int32) (t_rain : Nat → Int32) (t_tell : Nat → Int32) (t_wy : Nat → Int32) (t_wn : Nat → Int32) (w_src : Int32) (wa_g : Nat → Int32) (th_size : Int32) (sL : Nat → Nat → Int32) (sT : Nat → Nat → Int32) (sF : Nat → Int32) (sU : Nat → Int32) (fC : Nat → Int32) (fS : Nat → Int32) (fM : Nat → Int32) (fT : Nat → Int32) (fY : Nat → Int32) (ko : Int32 → Int64 → (Nat → Int64) → Option (Int64 × Int32 × (Nat → Int64))) : Nat → Int32 → Int64 → (Nat → Int64) → Option (Int64 × Int32 × (Nat → Int64))
  | 0, _, _, _ => none
  | n + 1, x3, x4, f5 =>
    if 12 ≤ x3 then
      ko x3 x4 f5
    else
      LX6_thinkOfTwo_23 t_lik t_rain t_tell t_wy t_wn w_src wa_g th_size sL sT sF sU fC fS fM fT fY x3 (fun x13 x14 f15 =>
        lt (x3 + 1 : Int32) fun x40 =>
        LX6_thinkOfTwo_15 t_lik t_rain t_tell t_wy t_wn w_src wa_g th_size sL sT sF sU fC fS fM fT fY ko n x40 x14 f15) FU 0 x4 f5
theorem LX6_thinkOfTwo_15_z (t_lik : Nat → Int32) (t_rain : Nat → Int32) (t_tell : Nat → Int32) (t_wy : Nat → Int32) (t_wn : Nat → Int32) (w_src : Int32) (wa_g : Nat → Int32) (th_size : Int32) (sL : Nat → Nat → Int32) (sT : Nat → Nat → Int32) (sF : Nat → Int32) (sU : Nat → Int32) (fC : Nat → Int32) (fS : Nat → Int32) (fM : Nat → Int32) (fT : Nat → Int32) (fY : Nat → Int32) (ko : Int32 → Int64 → (Nat → Int64) → Option (Int64 × Int32 × (Nat → Int64))) (x3 : Int32) (x4 : Int64) (f5 : Nat → Int64) : LX6_thinkOfTwo_15 t_lik t_rain t_tell t_wy t_wn w_src wa_g th_size sL sT sF sU fC fS fM fT fY ko 0 x3 x4 f5 = none := rfl
theorem LX6_thinkOfTwo_15_s (t_lik : Nat → Int32) (t_rain : Nat → Int32) (t_tell : Nat → Int32) (t_wy : Nat → Int32) (t_wn : Nat → Int32) (w_src : Int32) (wa_g : Nat → Int32) (th_size : Int32) (sL : Nat → Nat → Int32) (sT : Nat → Nat → Int32) (sF : Nat → Int32) (sU : Nat → Int32) (fC : Nat → Int32) (fS : Nat → Int32) (fM : Nat → Int32) (fT : Nat → Int32) (fY : Nat → Int32) (ko : Int32 → Int64 → (Nat → Int64) → Option (Int64 × Int32 × (Nat → Int64))) (n : Nat) (x3 : Int32) (x4 : Int64) (f5 : Nat → Int64) : LX6_thinkOfTwo_15 t_lik t_rain t_tell t_wy t_wn w_src wa_g th_size sL sT sF sU fC fS fM fT fY ko (n + 1) x3 x4 f5 =
    if 12 ≤ x3 then
      ko x3 x4 f5
    else
      LX6_thinkOfTwo_23 t_lik t_rain t_tell t_wy t_wn w_src wa_g th_size sL sT sF sU fC fS fM fT fY x3 (fun x13 x14 f15 =>
        lt (x3 + 1 : Int32) fun x40 =>
        LX6_thinkOfTwo_15 t_lik t_rain t_tell t_wy t_wn w_src wa_g th_size sL sT sF sU fC fS fM fT fY ko n x40 x14 f15) FU 0 x4 f5 := rfl
def f_X6_thinkOfTwo (t_lik : Nat → Int32) (t_rain : Nat → Int32) (t_tell : Nat → Int32) (t_wy : Nat → Int32) (t_wn : Nat → Int32) (w_src : Int32) (wa_g : Nat → Int32) (th_all2 : Int64) (th_k2 : Int32) (th_size : Int32) (th_two : Nat → Int64) (sL : Nat → Nat → Int32) (sT : Nat → Nat → Int32) (sF : Nat → Int32) (sU : Nat → Int32) (fC : Nat → Int32) (fS : Nat → Int32) (fM : Nat → Int32) (fT : Nat → Int32) (fY : Nat → Int32) : Option (Int64 × Int32 × (Nat → Int64)) :=
  if th_k2 = 0 then
    lt ((0 : Int64) : Int64) fun x2 =>
    LX6_thinkOfTwo_15 t_lik t_rain t_tell t_wy t_wn w_src wa_g th_size sL sT sF sU fC fS fM fT fY (fun x6 x7 f8 =>
      some (x7, 1, f8)) FU 0 x2 th_two
  else
    some (th_all2, th_k2, th_two)
abbrev rmX6_thinkOfTwo : Room := { frames := 5, cells := 0, slots := 0, locals := 128 }
set_option maxHeartbeats 4000000 in
set_option maxRecDepth 100000 in
theorem c_X6_thinkOfTwo {l : Launch} {D : va_G} {g : Nat → ClassId} {N : Nat} {ad : Nat → Nat} {C : Nat → va_E} {sz : Nat} {t_there : Int32} {t_lift : Int32} {t_none : Int32} {t_lik : Nat → Int32} {t_rain : Nat → Int32} {t_tell : Nat → Int32} {t_wy : Nat → Int32} {t_wn : Nat → Int32} {w_src : Int32} {wa_g : Nat → Int32} {th_none : Int64} {th_all1 : Int64} {th_all2 : Int64} {th_k1 : Int32} {th_k2 : Int32} {th_size : Int32} {th_two : Nat → Int64} {fC : Nat → Int32} {fS : Nat → Int32} {fM : Nat → Int32} {fT : Nat → Int32} {fY : Nat → Int32} {sL : Nat → Nat → Int32} {sT : Nat → Nat → Int32} {sF : Nat → Int32} {sU : Nat → Int32}  {rr : Int64 × Int32 × (Nat → Int64)} (hN : 86 ≤ N) (hI : Inj N ad) (h5 : C 5 = .inr (7, [.ref (ad 6), .ref (ad 7), .ref (ad 8), .ref (ad 9), .ref (ad 10), .ref (ad 11), .ref (ad 12), .ref (ad 13), .ref (ad 14), .ref (ad 15), .ref (ad 16), .ref (ad 17), .ref (ad 18), .int t_there, .int t_lift, .int t_none])) (h11 : C 11 = aI g 12 t_lik) (h15 : C 15 = aI g 24 t_rain) (h16 : C 16 = aI g 4 t_tell) (h17 : C 17 = aI g 4 t_wy) (h18 : C 18 = aI g 4 t_wn) (h19 : C 19 = .inr (9, [.ref (ad 5), .ref (ad 20), .int w_src])) (h21 : C 21 = .inr (8, [.ref (ad 5), .ref (ad 19), .ref (ad 22), .ref (ad 23)])) (h22 : C 22 = aI g 12 wa_g) (h23 : C 23 = aS g 12 (fun i => if i < 12 then some (ad (24 + 3 * i)) else none)) (h60 : C 60 = .inr (6, [.ref (ad 5), .ref (ad 19), .ref (ad 21), .ref (ad 61), .ref (ad 62), .ref (ad 65), .ref (ad 66), .long th_none, .long th_all1, .long th_all2, .int th_k1, .int th_k2, .int th_size])) (h61 : C 61 = aF g 10 (fun i => if i < 10 then some (ad (67 + i)) else none)) (h66 : C 66 = aL g 144 th_two) (hF_ : PoolF C fC fS fM fT fY) (hS_ : PoolS g ad C sL sT sF sU) (hf : f_X6_thinkOfTwo t_lik t_rain t_tell t_wy t_wn w_src wa_g th_all2 th_k2 th_size th_two sL sT sF sU fC fS fM fT fY = some rr) : Met l yX6_thinkOfTwo wsX6_thinkOfTwo rmX6_thinkOfTwo (PcW D g N ad C sz [.ref (ad 60)]) (QvW D N ad sz (fun C' => (∀ i : Nat, i ≠ 60 ∧ i ≠ 66 → C' i = C i) ∧ (C' 60 = .inr (6, [.ref (ad 5), .ref (ad 19), .ref (ad 21), .ref (ad 61), .ref (ad 62), .ref (ad 65), .ref (ad 66), .long th_none, .long th_all1, .long rr.1, .int th_k1, .int rr.2.1, .int th_size])) ∧ (C' 66 = aL g 144 rr.2.2))) 0 0 (Aw N ad sz) := by
  refine Met.ofW (cc := cX6_thinkOfTwo) (maxL := 7) (ret := none) (by decide) rfl ?_
  intro p e s m args below meth c s₁ B hml hv
  obtain ⟨hav, hsz, hK, hP⟩ := hv
  subst hsz
  have hx := B.exec
  have hb := B.bytes
  have hr := B.returns
  have hts := atoms_spec (ws := wsX6_thinkOfTwo) B.pre
  have hown : s.vm.findClass RX6 = some m.cls := findClass_of_methodNamed B.named
  have hlocks := B.notSynchronized
  generalize hQ : MQ below (QvW D N ad s.heap.size (fun C' => (∀ i : Nat, i ≠ 60 ∧ i ≠ 66 → C' i = C i) ∧ (C' 60 = .inr (6, [.ref (ad 5), .ref (ad 19), .ref (ad 21), .ref (ad 61), .ref (ad 62), .ref (ad 65), .ref (ad 66), .long th_none, .long th_all1, .long rr.1, .int th_k1, .int rr.2.1, .int th_size])) ∧ (C' 66 = aL g 144 rr.2.2))) args s 0 0 (Aw N ad s.heap.size) = QQ
  have hS : va_S (Aw N ad s.heap.size) s.heap s.heap [] := va_S.rf
  have hA : ∀ q, s.heap.size ≤ q → (Aw N ad s.heap.size) q := fun q h => Or.inr h
  have hAd : ∀ j : Nat, j < N → (Aw N ad s.heap.size) (ad j) := fun j h => Or.inl ⟨j, h, rfl⟩
  obtain ⟨C0, hC0⟩ : ∃ C0 : Nat → va_E, C0 = C := ⟨_, rfl⟩
  have hag : ∀ i : Nat, i ≠ 60 ∧ i ≠ 66 → C i = C0 i := fun i _ => by rw [hC0]
  rw [← hC0] at hQ
  have k0 := hts (.fieldLink RX6 48 "UpDrain$Thoughts" "knowsTwo" "Z") (List.mem_of_getElem? (i := 1) rfl)
  have nX6 : ∀ w ∈ u_ws RX6 TX6 13, w ∈ wsX6_thinkOfTwo := fun _ h => List.mem_cons_of_mem _ (List.mem_append_left _ (List.mem_append_left _ (List.mem_append_left _ (List.mem_append_left _ (List.mem_append_left _ (List.mem_append_right _ h))))))
  have k2 := hts (.fieldLink RX6 97 "UpDrain$Thoughts" "allOfTwo" "J") (List.mem_of_getElem? (i := 2) rfl)
  have k3 := hts (.fieldLink RX6 35 "UpDrain$Thoughts" "ways" "LUpDrain$Ways;") (List.mem_of_getElem? (i := 3) rfl)
  have k4 := nf_53 (A := args) hK
  have nX9 : ∀ w ∈ u_ws RX9 TX9 3, w ∈ wsX6_thinkOfTwo := fun _ h => List.mem_cons_of_mem _ (List.mem_append_left _ (List.mem_append_left _ (List.mem_append_left _ (List.mem_append_left _ (List.mem_append_right _ h)))))
  have k6 := nm_8 hK
  have k7 := hts (.initialized RX10) (List.mem_of_getElem? (i := 8) rfl)
  have k8 := hts (.static yX10_has) (List.mem_of_getElem? (i := 7) rfl)
  have k9 := hts (.fieldLink RX6 31 "UpDrain$Thoughts" "plan" "LUpDrain$Town;") (List.mem_of_getElem? (i := 4) rfl)
  have k10 := nf_19 (A := args) hK
  have nX7 : ∀ w ∈ u_ws RX7 TX7 16, w ∈ wsX6_thinkOfTwo := fun _ h => List.mem_cons_of_mem _ (List.mem_append_left _ (List.mem_append_left _ (List.mem_append_left _ (List.mem_append_right _ h))))
  have k12 := hts (.fieldLink RX6 39 "UpDrain$Thoughts" "water" "LUpDrain$Water;") (List.mem_of_getElem? (i := 5) rfl)
  have k13 := nf_56 (A := args) hK
  have nX8 : ∀ w ∈ u_ws RX8 TX8 4, w ∈ wsX6_thinkOfTwo := fun _ h => List.mem_cons_of_mem _ (List.mem_append_left _ (List.mem_append_left _ (List.mem_append_right _ h)))
  have k15 := hts (.fieldLink RX6 28 "UpDrain$Thoughts" "ofTwo" "[J") (List.mem_of_getElem? (i := 6) rfl)
  have hE := lg_entry_eq m [.ref (ad 60)] 7
  rw [← hav] at hE
  rw [hE]
  have hl := lv_entry [.ref (ad 60)] (n := 7) (Nat.le_of_ble_eq_true rfl)
  generalize (lg_sl [.ref (ad 60)] ++ List.replicate (7 - (lg_sl [.ref (ad 60)]).length) Slot.unset).toArray = ls at hl ⊢
  have hl : lv_has ls 7 [(0, .ref (ad 60))] := hl
  clear hE
  unfold f_X6_thinkOfTwo at hf
  suffices hgo : ∀ (H : Heap) (locs : List Loc), va_P D vwCl (wd N ad C) H → va_S (Aw N ad s.heap.size) s.heap H locs → W p l e (headSpec wsX6_thinkOfTwo rmX6_thinkOfTwo).room s m args below meth c H locs 0 0 QQ (F0 m 0 ls []) from hgo s.heap [] hP hS
  clear hS hP
  intro H locs hP hS
  refine lv_aload_n hx hb dX6_thinkOfTwo_0 rfl (lv_at hl 0 rfl) ?_
  refine r_get (own := RX6) (T := TX6) (n := 13) (ci := 6) (v := .int th_k2) hx hb hts nX6 hown hK hP (by omega) h60 rfl 11 (by decide) k0 rfl dX6_thinkOfTwo_1 ?_
  refine lv_if_eq (tgt := 8) hx hb dX6_thinkOfTwo_4 (by decide) (fun c1 => ?_) (fun c1 => ?_)
  · have hf := it_e c1 hf
    refine lv_aload_n hx hb dX6_thinkOfTwo_8 rfl (lv_at hl 0 rfl) ?_
    refine lv_lconst (v := 0) hx hb dX6_thinkOfTwo_9 (by decide) ?_
    obtain ⟨x2, ex2, hf⟩ := lt_e hf
    refine tp_l ex2 ?_
    refine r_put (own := RX6) (T := TX6) (n := 13) (ci := 6) (v := .long x2) hx hb hts nX6 tyX6 tyX6_ok nmX6 hown hK hI hAd hP hS (by omega) h60 rfl 9 (by decide) k2 rfl rfl rfl (Nat.le_of_ble_eq_true rfl) dX6_thinkOfTwo_10 (fun C H locs hP hS he hn => ?_)
    have hag : ∀ i : Nat, i ≠ 60 ∧ i ≠ 66 → C i = C0 i := fun i h => (he i (by omega)).trans (hag i h)
    have h5 := (he 5 (by decide)).trans h5
    have h11 := (he 11 (by decide)).trans h11
    have h15 := (he 15 (by decide)).trans h15
    have h16 := (he 16 (by decide)).trans h16
    have h17 := (he 17 (by decide)).trans h17
    have h18 := (he 18 (by decide)).trans h18
    have h19 := (he 19 (by decide)).trans h19
    have h21 := (he 21 (by decide)).trans h21
    have h22 := (he 22 (by decide)).trans h22
    have h23 := (he 23 (by decide)).trans h23
    have h61 := (he 61 (by decide)).trans h61
    have h66 := (he 66 (by decide)).trans h66
    have hF_ := hF_.ne (fun i h1 => he i (by omega))
    have hS_ := hS_.ne (fun i h1 h2 => he i (by omega))
    have h60 : C 60 = .inr (6, [.ref (ad 5), .ref (ad 19), .ref (ad 21), .ref (ad 61), .ref (ad 62), .ref (ad 65), .ref (ad 66), .long th_none, .long th_all1, .long x2, .int th_k1, .int th_k2, .int th_size]) := hn
    refine lv_iconst (v := 0) hx hb dX6_thinkOfTwo_13 (by decide) ?_
    refine lv_istore_n (lv' := [(1, .int 0), (0, .ref (ad 60))]) hx hb dX6_thinkOfTwo_14 rfl hl (by decide) rfl (fun ls hl => ?_)
    have key15 : ∀ (ko : Int32 → Int64 → (Nat → Int64) → Option (Int64 × Int32 × (Nat → Int64))), (∀ (x6 : Int32) (x7 : Int64) (f8 : Nat → Int64) (C : Nat → va_E) (H : Heap) (locs : List Loc) (ls : Array Slot), va_P D vwCl (wd N ad C) H → va_S (Aw N ad s.heap.size) s.heap H locs → (∀ i : Nat, i ≠ 60 ∧ i ≠ 66 → C i = C0 i) → C 5 = .inr (7, [.ref (ad 6), .ref (ad 7), .ref (ad 8), .ref (ad 9), .ref (ad 10), .ref (ad 11), .ref (ad 12), .ref (ad 13), .ref (ad 14), .ref (ad 15), .ref (ad 16), .ref (ad 17), .ref (ad 18), .int t_there, .int t_lift, .int t_none]) → C 11 = aI g 12 t_lik → C 15 = aI g 24 t_rain → C 16 = aI g 4 t_tell → C 17 = aI g 4 t_wy → C 18 = aI g 4 t_wn → C 19 = .inr (9, [.ref (ad 5), .ref (ad 20), .int w_src]) → C 21 = .inr (8, [.ref (ad 5), .ref (ad 19), .ref (ad 22), .ref (ad 23)]) → C 22 = aI g 12 wa_g → C 23 = aS g 12 (fun i => if i < 12 then some (ad (24 + 3 * i)) else none) → C 60 = .inr (6, [.ref (ad 5), .ref (ad 19), .ref (ad 21), .ref (ad 61), .ref (ad 62), .ref (ad 65), .ref (ad 66), .long th_none, .long th_all1, .long x7, .int th_k1, .int th_k2, .int th_size]) → C 61 = aF g 10 (fun i => if i < 10 then some (ad (67 + i)) else none) → C 66 = aL g 144 f8 → PoolF C fC fS fM fT fY → PoolS g ad C sL sT sF sU → lv_has ls 7 [(0, .ref (ad 60)), (1, .int x6)] → ko x6 x7 f8 = some rr → W p l e (headSpec wsX6_thinkOfTwo rmX6_thinkOfTwo).room s m args below meth c H locs 0 0 QQ (F0 m 151 ls [])) → ∀ (n : Nat) (x3 : Int32) (x4 : Int64) (f5 : Nat → Int64) (C : Nat → va_E) (H : Heap) (locs : List Loc) (ls : Array Slot), va_P D vwCl (wd N ad C) H → va_S (Aw N ad s.heap.size) s.heap H locs → (∀ i : Nat, i ≠ 60 ∧ i ≠ 66 → C i = C0 i) → C 5 = .inr (7, [.ref (ad 6), .ref (ad 7), .ref (ad 8), .ref (ad 9), .ref (ad 10), .ref (ad 11), .ref (ad 12), .ref (ad 13), .ref (ad 14), .ref (ad 15), .ref (ad 16), .ref (ad 17), .ref (ad 18), .int t_there, .int t_lift, .int t_none]) → C 11 = aI g 12 t_lik → C 15 = aI g 24 t_rain → C 16 = aI g 4 t_tell → C 17 = aI g 4 t_wy → C 18 = aI g 4 t_wn → C 19 = .inr (9, [.ref (ad 5), .ref (ad 20), .int w_src]) → C 21 = .inr (8, [.ref (ad 5), .ref (ad 19), .ref (ad 22), .ref (ad 23)]) → C 22 = aI g 12 wa_g → C 23 = aS g 12 (fun i => if i < 12 then some (ad (24 + 3 * i)) else none) → C 60 = .inr (6, [.ref (ad 5), .ref (ad 19), .ref (ad 21), .ref (ad 61), .ref (ad 62), .ref (ad 65), .ref (ad 66), .long th_none, .long th_all1, .long x4, .int th_k1, .int th_k2, .int th_size]) → C 61 = aF g 10 (fun i => if i < 10 then some (ad (67 + i)) else none) → C 66 = aL g 144 f5 → PoolF C fC fS fM fT fY → PoolS g ad C sL sT sF sU → lv_has ls 7 [(0, .ref (ad 60)), (1, .int x3)] → LX6_thinkOfTwo_15 t_lik t_rain t_tell t_wy t_wn w_src wa_g th_size sL sT sF sU fC fS fM fT fY ko n x3 x4 f5 = some rr → W p l e (headSpec wsX6_thinkOfTwo rmX6_thinkOfTwo).room s m args below meth c H locs 0 0 QQ (F0 m 15 ls []) := by
      intro ko hko n
      induction n with
      | zero =>
        intro x3 x4 f5 C H locs ls hP hS hag h5 h11 h15 h16 h17 h18 h19 h21 h22 h23 h60 h61 h66 hF_ hS_ hl hf
        rw [LX6_thinkOfTwo_15_z] at hf
        cases hf
      | succ n ih =>
        intro x3 x4 f5 C H locs ls hP hS hag h5 h11 h15 h16 h17 h18 h19 h21 h22 h23 h60 h61 h66 hF_ hS_ hl hf
        rw [LX6_thinkOfTwo_15_s] at hf
        refine lv_iload_n hx hb dX6_thinkOfTwo_15 rfl (lv_at hl 1 rfl) ?_
        refine lv_bipush (v := 12) hx hb dX6_thinkOfTwo_16 (by decide) ?_
        refine lv_icmp_ge (tgt := 151) hx hb dX6_thinkOfTwo_18 (by decide) (fun c9 => ?_) (fun c9 => ?_)
        · have hf := it_e c9 hf
          exact hko x3 x4 f5 C H locs ls hP hS hag h5 h11 h15 h16 h17 h18 h19 h21 h22 h23 h60 h61 h66 hF_ hS_ (lv_sub hl [0, 1] rfl) hf
        · have hf := ie_e c9 hf
          refine lv_iconst (v := 0) hx hb dX6_thinkOfTwo_21 (by decide) ?_
          refine lv_istore_n (lv' := [(2, .int 0), (0, .ref (ad 60)), (1, .int x3)]) hx hb dX6_thinkOfTwo_22 rfl hl (by decide) rfl (fun ls hl => ?_)
          have key23 : ∀ (ko : Int32 → Int64 → (Nat → Int64) → Option (Int64 × Int32 × (Nat → Int64))), (∀ (x13 : Int32) (x14 : Int64) (f15 : Nat → Int64) (C : Nat → va_E) (H : Heap) (locs : List Loc) (ls : Array Slot), va_P D vwCl (wd N ad C) H → va_S (Aw N ad s.heap.size) s.heap H locs → (∀ i : Nat, i ≠ 60 ∧ i ≠ 66 → C i = C0 i) → C 5 = .inr (7, [.ref (ad 6), .ref (ad 7), .ref (ad 8), .ref (ad 9), .ref (ad 10), .ref (ad 11), .ref (ad 12), .ref (ad 13), .ref (ad 14), .ref (ad 15), .ref (ad 16), .ref (ad 17), .ref (ad 18), .int t_there, .int t_lift, .int t_none]) → C 11 = aI g 12 t_lik → C 15 = aI g 24 t_rain → C 16 = aI g 4 t_tell → C 17 = aI g 4 t_wy → C 18 = aI g 4 t_wn → C 19 = .inr (9, [.ref (ad 5), .ref (ad 20), .int w_src]) → C 21 = .inr (8, [.ref (ad 5), .ref (ad 19), .ref (ad 22), .ref (ad 23)]) → C 22 = aI g 12 wa_g → C 23 = aS g 12 (fun i => if i < 12 then some (ad (24 + 3 * i)) else none) → C 60 = .inr (6, [.ref (ad 5), .ref (ad 19), .ref (ad 21), .ref (ad 61), .ref (ad 62), .ref (ad 65), .ref (ad 66), .long th_none, .long th_all1, .long x14, .int th_k1, .int th_k2, .int th_size]) → C 61 = aF g 10 (fun i => if i < 10 then some (ad (67 + i)) else none) → C 66 = aL g 144 f15 → PoolF C fC fS fM fT fY → PoolS g ad C sL sT sF sU → lv_has ls 7 [(0, .ref (ad 60)), (1, .int x3), (2, .int x13)] → ko x13 x14 f15 = some rr → W p l e (headSpec wsX6_thinkOfTwo rmX6_thinkOfTwo).room s m args below meth c H locs 0 0 QQ (F0 m 145 ls [])) → ∀ (n : Nat) (x10 : Int32) (x11 : Int64) (f12 : Nat → Int64) (C : Nat → va_E) (H : Heap) (locs : List Loc) (ls : Array Slot), va_P D vwCl (wd N ad C) H → va_S (Aw N ad s.heap.size) s.heap H locs → (∀ i : Nat, i ≠ 60 ∧ i ≠ 66 → C i = C0 i) → C 5 = .inr (7, [.ref (ad 6), .ref (ad 7), .ref (ad 8), .ref (ad 9), .ref (ad 10), .ref (ad 11), .ref (ad 12), .ref (ad 13), .ref (ad 14), .ref (ad 15), .ref (ad 16), .ref (ad 17), .ref (ad 18), .int t_there, .int t_lift, .int t_none]) → C 11 = aI g 12 t_lik → C 15 = aI g 24 t_rain → C 16 = aI g 4 t_tell → C 17 = aI g 4 t_wy → C 18 = aI g 4 t_wn → C 19 = .inr (9, [.ref (ad 5), .ref (ad 20), .int w_src]) → C 21 = .inr (8, [.ref (ad 5), .ref (ad 19), .ref (ad 22), .ref (ad 23)]) → C 22 = aI g 12 wa_g → C 23 = aS g 12 (fun i => if i < 12 then some (ad (24 + 3 * i)) else none) → C 60 = .inr (6, [.ref (ad 5), .ref (ad 19), .ref (ad 21), .ref (ad 61), .ref (ad 62), .ref (ad 65), .ref (ad 66), .long th_none, .long th_all1, .long x11, .int th_k1, .int th_k2, .int th_size]) → C 61 = aF g 10 (fun i => if i < 10 then some (ad (67 + i)) else none) → C 66 = aL g 144 f12 → PoolF C fC fS fM fT fY → PoolS g ad C sL sT sF sU → lv_has ls 7 [(0, .ref (ad 60)), (1, .int x3), (2, .int x10)] → LX6_thinkOfTwo_23 t_lik t_rain t_tell t_wy t_wn w_src wa_g th_size sL sT sF sU fC fS fM fT fY x3 ko n x10 x11 f12 = some rr → W p l e (headSpec wsX6_thinkOfTwo rmX6_thinkOfTwo).room s m args below meth c H locs 0 0 QQ (F0 m 23 ls []) := by
            intro ko hko n
            induction n with
            | zero =>
              intro x10 x11 f12 C H locs ls hP hS hag h5 h11 h15 h16 h17 h18 h19 h21 h22 h23 h60 h61 h66 hF_ hS_ hl hf
              rw [LX6_thinkOfTwo_23_z] at hf
              cases hf
            | succ n ih =>
              intro x10 x11 f12 C H locs ls hP hS hag h5 h11 h15 h16 h17 h18 h19 h21 h22 h23 h60 h61 h66 hF_ hS_ hl hf
              rw [LX6_thinkOfTwo_23_s] at hf
              refine lv_iload_n hx hb dX6_thinkOfTwo_23 rfl (lv_at hl 2 rfl) ?_
              refine lv_iload_n hx hb dX6_thinkOfTwo_24 rfl (lv_at hl 1 rfl) ?_
              refine lv_icmp_ge (tgt := 145) hx hb dX6_thinkOfTwo_25 (by decide) (fun c16 => ?_) (fun c16 => ?_)
              · have hf := it_e c16 hf
                exact hko x10 x11 f12 C H locs ls hP hS hag h5 h11 h15 h16 h17 h18 h19 h21 h22 h23 h60 h61 h66 hF_ hS_ (lv_sub hl [0, 1, 2] rfl) hf
              · have hf := ie_e c16 hf
                refine lv_aload_n hx hb dX6_thinkOfTwo_28 rfl (lv_at hl 0 rfl) ?_
                refine r_get (own := RX6) (T := TX6) (n := 13) (ci := 6) (v := .ref (ad 19)) hx hb hts nX6 hown hK hP (by omega) h60 rfl 1 (by decide) k3 rfl dX6_thinkOfTwo_29 ?_
                refine r_getN (own := RX6) (T := TX9) (n := 3) (ci := 9) (v := .int w_src) hx hb hts nX9 hown hK hP (by omega) h19 rfl 2 (by decide) k4 rfl dX6_thinkOfTwo_32 ?_
                refine lv_iload_n hx hb dX6_thinkOfTwo_35 rfl (lv_at hl 1 rfl) ?_
                obtain ⟨q17, hq17, hf⟩ := bd_e hf
                refine k_iR (va_runSN (As := [.int w_src, .int x3]) (rest := []) ⟨hx, hb, hml, hown, hts⟩ (c_X10_has (l := l) (sz := H.size) (p0 := w_src) (p1 := x3) hq17) ⟨va_cnB 2 hts gX6_thinkOfTwo_X10_has_n83 rfl rfl rfl k6 k7 (by decide +kernel) ⟨Nat.le_of_ble_eq_true rfl, Nat.le_of_ble_eq_true rfl⟩, k8, trivial⟩ preS0 rfl rfl hl.1 rfl (lv_room (Nat.le_of_ble_eq_true rfl)) dX6_thinkOfTwo_36 ⟨Nat.le_of_ble_eq_true rfl, Nat.le_of_ble_eq_true rfl⟩) hA hP hS (fun H locs hP hS hbz_q17 => ?_)
                obtain ⟨q18, htq18, hf⟩ := bd_e hf
                have jnq18 : ∀ (C : Nat → va_E) (H : Heap) (locs : List Loc) (ls : Array Slot), va_P D vwCl (wd N ad C) H → va_S (Aw N ad s.heap.size) s.heap H locs → (∀ i : Nat, i ≠ 60 ∧ i ≠ 66 → C i = C0 i) → C 5 = .inr (7, [.ref (ad 6), .ref (ad 7), .ref (ad 8), .ref (ad 9), .ref (ad 10), .ref (ad 11), .ref (ad 12), .ref (ad 13), .ref (ad 14), .ref (ad 15), .ref (ad 16), .ref (ad 17), .ref (ad 18), .int t_there, .int t_lift, .int t_none]) → C 11 = aI g 12 t_lik → C 15 = aI g 24 t_rain → C 16 = aI g 4 t_tell → C 17 = aI g 4 t_wy → C 18 = aI g 4 t_wn → C 19 = .inr (9, [.ref (ad 5), .ref (ad 20), .int w_src]) → C 21 = .inr (8, [.ref (ad 5), .ref (ad 19), .ref (ad 22), .ref (ad 23)]) → C 22 = aI g 12 wa_g → C 23 = aS g 12 (fun i => if i < 12 then some (ad (24 + 3 * i)) else none) → C 60 = .inr (6, [.ref (ad 5), .ref (ad 19), .ref (ad 21), .ref (ad 61), .ref (ad 62), .ref (ad 65), .ref (ad 66), .long th_none, .long th_all1, .long q18.1, .int th_k1, .int th_k2, .int th_size]) → C 61 = aF g 10 (fun i => if i < 10 then some (ad (67 + i)) else none) → C 66 = aL g 144 q18.2 → PoolF C fC fS fM fT fY → PoolS g ad C sL sT sF sU → lv_has ls 7 [(0, .ref (ad 60)), (1, .int x3), (2, .int x10)] → W p l e (headSpec wsX6_thinkOfTwo rmX6_thinkOfTwo).room s m args below meth c H locs 0 0 QQ (F0 m 139 ls []) := by
                  intro C H locs ls hP hS hag h5 h11 h15 h16 h17 h18 h19 h21 h22 h23 h60 h61 h66 hF_ hS_ hl
                  obtain ⟨x19, ex19, hf⟩ := lt_e hf
                  refine lv_iinc (v := x19) (lv' := [(2, .int x19), (0, .ref (ad 60)), (1, .int x3)]) hx hb dX6_thinkOfTwo_139 hl (k := 2) rfl (by rw [ex19]; rfl) (by decide) rfl (fun ls hl => ?_)
                  refine lv_goto (tgt := 23) hx hb dX6_thinkOfTwo_142 (by decide) ?_
                  exact ih x19 q18.1 q18.2 C H locs ls hP hS hag h5 h11 h15 h16 h17 h18 h19 h21 h22 h23 h60 h61 h66 hF_ hS_ (lv_sub hl [1, 2, 0] rfl) hf
                clear hf
                have hf := htq18
                refine lv_if_eq (tgt := 139) hx hb dX6_thinkOfTwo_39 (by decide) (fun c20 => ?_) (fun c20 => ?_)
                · have hf := it_e c20 hf
                  obtain rfl := Option.some.inj hf
                  exact jnq18 C H locs ls hP hS hag h5 h11 h15 h16 h17 h18 h19 h21 h22 h23 h60 h61 h66 hF_ hS_ (lv_sub hl [0, 1, 2] rfl)
                · have hf := ie_e c20 hf
                  refine lv_aload_n hx hb dX6_thinkOfTwo_42 rfl (lv_at hl 0 rfl) ?_
                  refine r_get (own := RX6) (T := TX6) (n := 13) (ci := 6) (v := .ref (ad 19)) hx hb hts nX6 hown hK hP (by omega) h60 rfl 1 (by decide) k3 rfl dX6_thinkOfTwo_43 ?_
                  refine r_getN (own := RX6) (T := TX9) (n := 3) (ci := 9) (v := .int w_src) hx hb hts nX9 hown hK hP (by omega) h19 rfl 2 (by decide) k4 rfl dX6_thinkOfTwo_46 ?_
                  refine lv_iload_n hx hb dX6_thinkOfTwo_49 rfl (lv_at hl 2 rfl) ?_
                  obtain ⟨q21, hq21, hf⟩ := bd_e hf
                  refine k_iR (va_runSN (As := [.int w_src, .int x10]) (rest := []) ⟨hx, hb, hml, hown, hts⟩ (c_X10_has (l := l) (sz := H.size) (p0 := w_src) (p1 := x10) hq21) ⟨va_cnB 2 hts gX6_thinkOfTwo_X10_has_n83 rfl rfl rfl k6 k7 (by decide +kernel) ⟨Nat.le_of_ble_eq_true rfl, Nat.le_of_ble_eq_true rfl⟩, k8, trivial⟩ preS0 rfl rfl hl.1 rfl (lv_room (Nat.le_of_ble_eq_true rfl)) dX6_thinkOfTwo_50 ⟨Nat.le_of_ble_eq_true rfl, Nat.le_of_ble_eq_true rfl⟩) hA hP hS (fun H locs hP hS hbz_q21 => ?_)
                  refine lv_if_eq (tgt := 139) hx hb dX6_thinkOfTwo_53 (by decide) (fun c22 => ?_) (fun c22 => ?_)
                  · have hf := it_e c22 hf
                    obtain rfl := Option.some.inj hf
                    exact jnq18 C H locs ls hP hS hag h5 h11 h15 h16 h17 h18 h19 h21 h22 h23 h60 h61 h66 hF_ hS_ (lv_sub hl [0, 1, 2] rfl)
                  · have hf := ie_e c22 hf
                    refine lv_aload_n hx hb dX6_thinkOfTwo_56 rfl (lv_at hl 0 rfl) ?_
                    refine r_get (own := RX6) (T := TX6) (n := 13) (ci := 6) (v := .ref (ad 5)) hx hb hts nX6 hown hK hP (by omega) h60 rfl 0 (by decide) k9 rfl dX6_thinkOfTwo_57 ?_
                    refine r_getN (own := RX6) (T := TX7) (n := 16) (ci := 7) (v := .ref (ad 11)) hx hb hts nX7 hown hK hP (by omega) h5 rfl 5 (by decide) k10 rfl dX6_thinkOfTwo_60 ?_
                    refine lv_iload_n hx hb dX6_thinkOfTwo_63 rfl (lv_at hl 1 rfl) ?_
                    obtain ⟨i24, x23, ex23, hf⟩ := ri_e hf
                    refine r_iald hx hb hK hP (by omega) h11 i24 dX6_thinkOfTwo_64 ex23 ?_
                    refine lv_aload_n hx hb dX6_thinkOfTwo_65 rfl (lv_at hl 0 rfl) ?_
                    refine r_get (own := RX6) (T := TX6) (n := 13) (ci := 6) (v := .ref (ad 5)) hx hb hts nX6 hown hK hP (by omega) h60 rfl 0 (by decide) k9 rfl dX6_thinkOfTwo_66 ?_
                    refine r_getN (own := RX6) (T := TX7) (n := 16) (ci := 7) (v := .ref (ad 11)) hx hb hts nX7 hown hK hP (by omega) h5 rfl 5 (by decide) k10 rfl dX6_thinkOfTwo_69 ?_
                    refine lv_iload_n hx hb dX6_thinkOfTwo_72 rfl (lv_at hl 2 rfl) ?_
                    obtain ⟨i26, x25, ex25, hf⟩ := ri_e hf
                    refine r_iald hx hb hK hP (by omega) h11 i26 dX6_thinkOfTwo_73 ex25 ?_
                    refine lv_imul hx hb dX6_thinkOfTwo_74 ?_
                    refine lv_i2l hx hb dX6_thinkOfTwo_75 rfl ?_
                    obtain ⟨x27, ex27, hf⟩ := lt_e hf
                    refine tp_l ex27 ?_
                    refine lv_lstore_n (lv' := [(3, .long x27), (0, .ref (ad 60)), (1, .int x3), (2, .int x10)]) hx hb dX6_thinkOfTwo_76 rfl hl (by decide) rfl (fun ls hl => ?_)
                    refine lv_aload_n hx hb dX6_thinkOfTwo_77 rfl (lv_at hl 1 rfl) ?_
                    refine lv_lload_n hx hb dX6_thinkOfTwo_78 rfl (lv_at hl 0 rfl) ?_
                    refine lv_aload_n hx hb dX6_thinkOfTwo_79 rfl (lv_at hl 1 rfl) ?_
                    refine r_get (own := RX6) (T := TX6) (n := 13) (ci := 6) (v := .ref (ad 21)) hx hb hts nX6 hown hK hP (by omega) h60 rfl 2 (by decide) k12 rfl dX6_thinkOfTwo_80 ?_
                    refine r_getN (own := RX6) (T := TX8) (n := 4) (ci := 8) (v := .ref (ad 23)) hx hb hts nX8 hown hK hP (by omega) h21 rfl 3 (by decide) k13 rfl dX6_thinkOfTwo_83 ?_
                    refine lv_iload_n hx hb dX6_thinkOfTwo_86 rfl (lv_at hl 2 rfl) ?_
                    obtain ⟨i28, hf⟩ := ix_e hf
                    refine r_aldS2 hx hb hK hP (by omega) h23 i28 dX6_thinkOfTwo_87 (if_pos (vp_lt i28)) ?_
                    obtain ⟨j30, ej30⟩ : ∃ z : Nat, z = Int32.toNatClampNeg x3 := ⟨_, rfl⟩
                    rw [← ej30] at hf ⊢
                    have hbj30 : isSB (24 + 3 * j30) := isSB_i (by rw [ej30]; exact vp_lt i28)
                    refine W.eq (g2 := F0 m 88 ls [.ref (ad (24 + 3 * j30)), .long x27, .ref (ad 60)]) rfl ?_
                    refine lv_aload_n hx hb dX6_thinkOfTwo_88 rfl (lv_at hl 1 rfl) ?_
                    refine r_get (own := RX6) (T := TX6) (n := 13) (ci := 6) (v := .ref (ad 21)) hx hb hts nX6 hown hK hP (by omega) h60 rfl 2 (by decide) k12 rfl dX6_thinkOfTwo_89 ?_
                    refine r_getN (own := RX6) (T := TX8) (n := 4) (ci := 8) (v := .ref (ad 23)) hx hb hts nX8 hown hK hP (by omega) h21 rfl 3 (by decide) k13 rfl dX6_thinkOfTwo_92 ?_
                    refine lv_iload_n hx hb dX6_thinkOfTwo_95 rfl (lv_at hl 3 rfl) ?_
                    obtain ⟨i31, hf⟩ := ix_e hf
                    refine r_aldS2 hx hb hK hP (by omega) h23 i31 dX6_thinkOfTwo_96 (if_pos (vp_lt i31)) ?_
                    obtain ⟨j33, ej33⟩ : ∃ z : Nat, z = Int32.toNatClampNeg x10 := ⟨_, rfl⟩
                    rw [← ej33] at hf ⊢
                    have hbj33 : isSB (24 + 3 * j33) := isSB_i (by rw [ej33]; exact vp_lt i31)
                    refine W.eq (g2 := F0 m 97 ls [.ref (ad (24 + 3 * j33)), .ref (ad (24 + 3 * j30)), .long x27, .ref (ad 60)]) rfl ?_
                    obtain ⟨q34, hq34, hf⟩ := bd_e hf
                    refine k_lR (va_runV (C := RX6) (As := [.long x27, .ref (ad (24 + 3 * j30)), .ref (ad (24 + 3 * j33))]) (rest := []) ⟨hx, hb, hml, hown, hts⟩ (c_X6_thoughtBy (l := l) (sz := H.size) (p0 := x27) (p1 := (some (24 + 3 * j30))) (p2 := (some (24 + 3 * j33))) hN (oS_s hbj30) (oS_s hbj33) h5 h15 h16 h17 h18 h21 h22 h60 h61 hF_ hS_ hq34) (cwV 3 hts gX6_thinkOfTwo_X6_thoughtBy rfl rfl rfl (by decide +kernel) ⟨Nat.le_of_ble_eq_true rfl, Nat.le_of_ble_eq_true rfl⟩) (preV_of hK hP (by omega) h60 rfl) rfl rfl hl.1 rfl (lv_room (Nat.le_of_ble_eq_true rfl)) dX6_thinkOfTwo_97 ⟨Nat.le_of_ble_eq_true rfl, Nat.le_of_ble_eq_true rfl⟩) hA hP hS (fun H locs hP hS => ?_)
                    refine lv_lstore (lv' := [(5, .long q34), (3, .long x27), (0, .ref (ad 60)), (1, .int x3), (2, .int x10)]) hx hb dX6_thinkOfTwo_100 hl (by decide) rfl (fun ls hl => ?_)
                    refine lv_aload_n hx hb dX6_thinkOfTwo_102 rfl (lv_at hl 2 rfl) ?_
                    refine r_get (own := RX6) (T := TX6) (n := 13) (ci := 6) (v := .ref (ad 66)) hx hb hts nX6 hown hK hP (by omega) h60 rfl 6 (by decide) k15 rfl dX6_thinkOfTwo_103 ?_
                    refine lv_iload_n hx hb dX6_thinkOfTwo_106 rfl (lv_at hl 3 rfl) ?_
                    refine lv_bipush (v := 12) hx hb dX6_thinkOfTwo_107 (by decide) ?_
                    refine lv_imul hx hb dX6_thinkOfTwo_109 ?_
                    refine lv_iload_n hx hb dX6_thinkOfTwo_110 rfl (lv_at hl 4 rfl) ?_
                    refine lv_iadd hx hb dX6_thinkOfTwo_111 ?_
                    refine lv_lload hx hb dX6_thinkOfTwo_112 (lv_at hl 0 rfl) ?_
                    obtain ⟨i36, f35, ef35, hf⟩ := wl_e hf
                    refine r_last hx hb hK hI hAd hP hS (by omega) h66 i36 dX6_thinkOfTwo_114 ef35 (fun C H locs hP hS he hn => ?_)
                    have hag : ∀ i : Nat, i ≠ 60 ∧ i ≠ 66 → C i = C0 i := fun i h => (he i (by omega)).trans (hag i h)
                    have h5 := (he 5 (by decide)).trans h5
                    have h11 := (he 11 (by decide)).trans h11
                    have h15 := (he 15 (by decide)).trans h15
                    have h16 := (he 16 (by decide)).trans h16
                    have h17 := (he 17 (by decide)).trans h17
                    have h18 := (he 18 (by decide)).trans h18
                    have h19 := (he 19 (by decide)).trans h19
                    have h21 := (he 21 (by decide)).trans h21
                    have h22 := (he 22 (by decide)).trans h22
                    have h23 := (he 23 (by decide)).trans h23
                    have h60 := (he 60 (by decide)).trans h60
                    have h61 := (he 61 (by decide)).trans h61
                    have hF_ := hF_.ne (fun i h1 => he i (by omega))
                    have hS_ := hS_.ne (fun i h1 h2 => he i (by omega))
                    have h66 : C 66 = aL g 144 f35 := hn
                    refine lv_aload_n hx hb dX6_thinkOfTwo_115 rfl (lv_at hl 2 rfl) ?_
                    refine r_get (own := RX6) (T := TX6) (n := 13) (ci := 6) (v := .ref (ad 66)) hx hb hts nX6 hown hK hP (by omega) h60 rfl 6 (by decide) k15 rfl dX6_thinkOfTwo_116 ?_
                    refine lv_iload_n hx hb dX6_thinkOfTwo_119 rfl (lv_at hl 4 rfl) ?_
                    refine lv_bipush (v := 12) hx hb dX6_thinkOfTwo_120 (by decide) ?_
                    refine lv_imul hx hb dX6_thinkOfTwo_122 ?_
                    refine lv_iload_n hx hb dX6_thinkOfTwo_123 rfl (lv_at hl 3 rfl) ?_
                    refine lv_iadd hx hb dX6_thinkOfTwo_124 ?_
                    refine lv_lload hx hb dX6_thinkOfTwo_125 (lv_at hl 0 rfl) ?_
                    obtain ⟨i38, f37, ef37, hf⟩ := wl_e hf
                    refine r_last hx hb hK hI hAd hP hS (by omega) h66 i38 dX6_thinkOfTwo_127 ef37 (fun C H locs hP hS he hn => ?_)
                    have hag : ∀ i : Nat, i ≠ 60 ∧ i ≠ 66 → C i = C0 i := fun i h => (he i (by omega)).trans (hag i h)
                    have h5 := (he 5 (by decide)).trans h5
                    have h11 := (he 11 (by decide)).trans h11
                    have h15 := (he 15 (by decide)).trans h15
                    have h16 := (he 16 (by decide)).trans h16
                    have h17 := (he 17 (by decide)).trans h17
                    have h18 := (he 18 (by decide)).trans h18
                    have h19 := (he 19 (by decide)).trans h19
                    have h21 := (he 21 (by decide)).trans h21
                    have h22 := (he 22 (by decide)).trans h22
                    have h23 := (he 23 (by decide)).trans h23
                    have h60 := (he 60 (by decide)).trans h60
                    have h61 := (he 61 (by decide)).trans h61
                    have hF_ := hF_.ne (fun i h1 => he i (by omega))
                    have hS_ := hS_.ne (fun i h1 h2 => he i (by omega))
                    have h66 : C 66 = aL g 144 f37 := hn
                    refine lv_aload_n hx hb dX6_thinkOfTwo_128 rfl (lv_at hl 2 rfl) ?_
                    refine lv_dup hx hb dX6_thinkOfTwo_129 rfl ?_
                    refine r_get (own := RX6) (T := TX6) (n := 13) (ci := 6) (v := .long x11) hx hb hts nX6 hown hK hP (by omega) h60 rfl 9 (by decide) k2 rfl dX6_thinkOfTwo_130 ?_
                    refine lv_lload hx hb dX6_thinkOfTwo_133 (lv_at hl 0 rfl) ?_
                    refine lv_ladd hx hb dX6_thinkOfTwo_135 ?_
                    obtain ⟨x39, ex39, hf⟩ := lt_e hf
                    refine tp_l ex39 ?_
                    refine r_put (own := RX6) (T := TX6) (n := 13) (ci := 6) (v := .long x39) hx hb hts nX6 tyX6 tyX6_ok nmX6 hown hK hI hAd hP hS (by omega) h60 rfl 9 (by decide) k2 rfl rfl rfl (Nat.le_of_ble_eq_true rfl) dX6_thinkOfTwo_136 (fun C H locs hP hS he hn => ?_)
                    have hag : ∀ i : Nat, i ≠ 60 ∧ i ≠ 66 → C i = C0 i := fun i h => (he i (by omega)).trans (hag i h)
                    have h5 := (he 5 (by decide)).trans h5
                    have h11 := (he 11 (by decide)).trans h11
                    have h15 := (he 15 (by decide)).trans h15
                    have h16 := (he 16 (by decide)).trans h16
                    have h17 := (he 17 (by decide)).trans h17
                    have h18 := (he 18 (by decide)).trans h18
                    have h19 := (he 19 (by decide)).trans h19
                    have h21 := (he 21 (by decide)).trans h21
                    have h22 := (he 22 (by decide)).trans h22
                    have h23 := (he 23 (by decide)).trans h23
                    have h61 := (he 61 (by decide)).trans h61
                    have h66 := (he 66 (by decide)).trans h66
                    have hF_ := hF_.ne (fun i h1 => he i (by omega))
                    have hS_ := hS_.ne (fun i h1 h2 => he i (by omega))
                    have h60 : C 60 = .inr (6, [.ref (ad 5), .ref (ad 19), .ref (ad 21), .ref (ad 61), .ref (ad 62), .ref (ad 65), .ref (ad 66), .long th_none, .long th_all1, .long x39, .int th_k1, .int th_k2, .int th_size]) := hn
                    obtain rfl := Option.some.inj hf
                    exact jnq18 C H locs ls hP hS hag h5 h11 h15 h16 h17 h18 h19 h21 h22 h23 h60 h61 h66 hF_ hS_ (lv_sub hl [2, 3, 4] rfl)
          refine key23 _ (fun x13 x14 f15 C H locs ls hP hS hag h5 h11 h15 h16 h17 h18 h19 h21 h22 h23 h60 h61 h66 hF_ hS_ hl hf => ?_) FU 0 x4 f5 C H locs ls hP hS hag h5 h11 h15 h16 h17 h18 h19 h21 h22 h23 h60 h61 h66 hF_ hS_ (lv_sub hl [1, 2, 0] rfl) hf
          obtain ⟨x40, ex40, hf⟩ := lt_e hf
          refine lv_iinc (v := x40) (lv' := [(1, .int x40), (0, .ref (ad 60)), (2, .int x13)]) hx hb dX6_thinkOfTwo_145 hl (k := 1) rfl (by rw [ex40]; rfl) (by decide) rfl (fun ls hl => ?_)
          refine lv_goto (tgt := 15) hx hb dX6_thinkOfTwo_148 (by decide) ?_
          exact ih x40 x14 f15 C H locs ls hP hS hag h5 h11 h15 h16 h17 h18 h19 h21 h22 h23 h60 h61 h66 hF_ hS_ (lv_sub hl [1, 0] rfl) hf
    refine key15 _ (fun x6 x7 f8 C H locs ls hP hS hag h5 h11 h15 h16 h17 h18 h19 h21 h22 h23 h60 h61 h66 hF_ hS_ hl hf => ?_) FU 0 x2 th_two C H locs ls hP hS hag h5 h11 h15 h16 h17 h18 h19 h21 h22 h23 h60 h61 h66 hF_ hS_ (lv_sub hl [1, 0] rfl) hf
    refine lv_aload_n hx hb dX6_thinkOfTwo_151 rfl (lv_at hl 0 rfl) ?_
    refine lv_iconst (v := 1) hx hb dX6_thinkOfTwo_152 (by decide) ?_
    refine r_put (own := RX6) (T := TX6) (n := 13) (ci := 6) (v := .int 1) hx hb hts nX6 tyX6 tyX6_ok nmX6 hown hK hI hAd hP hS (by omega) h60 rfl 11 (by decide) k0 rfl (bz_n bz1) (bz_f bz1) (Nat.le_of_ble_eq_true rfl) dX6_thinkOfTwo_153 (fun C H locs hP hS he hn => ?_)
    have hag : ∀ i : Nat, i ≠ 60 ∧ i ≠ 66 → C i = C0 i := fun i h => (he i (by omega)).trans (hag i h)
    have h5 := (he 5 (by decide)).trans h5
    have h11 := (he 11 (by decide)).trans h11
    have h15 := (he 15 (by decide)).trans h15
    have h16 := (he 16 (by decide)).trans h16
    have h17 := (he 17 (by decide)).trans h17
    have h18 := (he 18 (by decide)).trans h18
    have h19 := (he 19 (by decide)).trans h19
    have h21 := (he 21 (by decide)).trans h21
    have h22 := (he 22 (by decide)).trans h22
    have h23 := (he 23 (by decide)).trans h23
    have h61 := (he 61 (by decide)).trans h61
    have h66 := (he 66 (by decide)).trans h66
    have hF_ := hF_.ne (fun i h1 => he i (by omega))
    have hS_ := hS_.ne (fun i h1 h2 => he i (by omega))
    have h60 : C 60 = .inr (6, [.ref (ad 5), .ref (ad 19), .ref (ad 21), .ref (ad 61), .ref (ad 62), .ref (ad 65), .ref (ad 66), .long th_none, .long th_all1, .long x7, .int th_k1, .int 1, .int th_size]) := hn
    obtain rfl := Option.some.inj hf
    rw [← hQ]
    exact e_vW hx hb hr hP hS ⟨hag, h60, h66⟩ hlocks dX6_thinkOfTwo_156
  · have hf := ie_e c1 hf
    obtain rfl := Option.some.inj hf
    rw [← hQ]
    exact e_vW hx hb hr hP hS ⟨hag, h60, h66⟩ hlocks dX6_thinkOfTwo_7

def LX6_tenthsOf_16 (p0 : Nat) (t_rain : Nat → Int32) (t_tell : Nat → Int32) (t_wy : Nat → Int32) (t_wn : Nat → Int32) (wa_g : Nat → Int32) (th_one : Nat → Int64) (sL : Nat → Nat → Int32) (sT : Nat → Nat → Int32) (sF : Nat → Int32) (sU : Nat → Int32) (fC : Nat → Int32) (fS : Nat → Int32) (fM : Nat → Int32) (fT : Nat → Int32) (fY : Nat → Int32) (ko : Int64 → Int32 → Option (Int64)) : Nat → Int64 → Int32 → Option (Int64)
  | 0, _, _ => none
  | n + 1, x3, x4 =>
    if 12 ≤ x4 then
      ko x3 x4
    else
      rl th_one 12 (x4) fun x8 =>
      (if (lg_cmp x8 (0 : Int64)) = 0 then
        some (x3)
      else
        ix 12 (x4) fun j15 =>
        (f_X8_shouldSayYes p0 (some (24 + 3 * j15)) none t_rain t_tell wa_g sL sT sF sU fC fS fM fT).bind fun q16 =>
        rl th_one 12 (x4) fun x17 =>
        (f_X6_tenthsToSay p0 q16 t_wy t_wn fC fY).bind fun q19 =>
        lt ((x3 + (x17 * (Int32.toInt64 q19))) : Int64) fun x20 =>
        some (x20) : Option (Int64)).bind fun q10 =>
      lt (x4 + 1 : Int32) fun x11 =>
      LX6_tenthsOf_16 p0 t_rain t_tell t_wy t_wn wa_g th_one sL sT sF sU fC fS fM fT fY ko n q10 x11
theorem LX6_tenthsOf_16_z (p0 : Nat) (t_rain : Nat → Int32) (t_tell : Nat → Int32) (t_wy : Nat → Int32) (t_wn : Nat → Int32) (wa_g : Nat → Int32) (th_one : Nat → Int64) (sL : Nat → Nat → Int32) (sT : Nat → Nat → Int32) (sF : Nat → Int32) (sU : Nat → Int32) (fC : Nat → Int32) (fS : Nat → Int32) (fM : Nat → Int32) (fT : Nat → Int32) (fY : Nat → Int32) (ko : Int64 → Int32 → Option (Int64)) (x3 : Int64) (x4 : Int32) : LX6_tenthsOf_16 p0 t_rain t_tell t_wy t_wn wa_g th_one sL sT sF sU fC fS fM fT fY ko 0 x3 x4 = none := rfl
theorem LX6_tenthsOf_16_s (p0 : Nat) (t_rain : Nat → Int32) (t_tell : Nat → Int32) (t_wy : Nat → Int32) (t_wn : Nat → Int32) (wa_g : Nat → Int32) (th_one : Nat → Int64) (sL : Nat → Nat → Int32) (sT : Nat → Nat → Int32) (sF : Nat → Int32) (sU : Nat → Int32) (fC : Nat → Int32) (fS : Nat → Int32) (fM : Nat → Int32) (fT : Nat → Int32) (fY : Nat → Int32) (ko : Int64 → Int32 → Option (Int64)) (n : Nat) (x3 : Int64) (x4 : Int32) : LX6_tenthsOf_16 p0 t_rain t_tell t_wy t_wn wa_g th_one sL sT sF sU fC fS fM fT fY ko (n + 1) x3 x4 =
    if 12 ≤ x4 then
      ko x3 x4
    else
      rl th_one 12 (x4) fun x8 =>
      (if (lg_cmp x8 (0 : Int64)) = 0 then
        some (x3)
      else
        ix 12 (x4) fun j15 =>
        (f_X8_shouldSayYes p0 (some (24 + 3 * j15)) none t_rain t_tell wa_g sL sT sF sU fC fS fM fT).bind fun q16 =>
        rl th_one 12 (x4) fun x17 =>
        (f_X6_tenthsToSay p0 q16 t_wy t_wn fC fY).bind fun q19 =>
        lt ((x3 + (x17 * (Int32.toInt64 q19))) : Int64) fun x20 =>
        some (x20) : Option (Int64)).bind fun q10 =>
      lt (x4 + 1 : Int32) fun x11 =>
      LX6_tenthsOf_16 p0 t_rain t_tell t_wy t_wn wa_g th_one sL sT sF sU fC fS fM fT fY ko n q10 x11 := rfl
def f_X6_tenthsOf (p0 : Nat) (t_rain : Nat → Int32) (t_tell : Nat → Int32) (t_wy : Nat → Int32) (t_wn : Nat → Int32) (wa_g : Nat → Int32) (th_none : Int64) (th_one : Nat → Int64) (sL : Nat → Nat → Int32) (sT : Nat → Nat → Int32) (sF : Nat → Int32) (sU : Nat → Int32) (fC : Nat → Int32) (fS : Nat → Int32) (fM : Nat → Int32) (fT : Nat → Int32) (fY : Nat → Int32) : Option (Int64) :=
  (f_X6_tenthsToSay p0 0 t_wy t_wn fC fY).bind fun q1 =>
  lt ((th_none * (Int32.toInt64 q1)) : Int64) fun x2 =>
  LX6_tenthsOf_16 p0 t_rain t_tell t_wy t_wn wa_g th_one sL sT sF sU fC fS fM fT fY (fun x5 x6 =>
    some (x5)) FU x2 0
abbrev rmX6_tenthsOf : Room := { frames := 4, cells := 0, slots := 0, locals := 100 }
set_option maxHeartbeats 4000000 in
set_option maxRecDepth 100000 in
theorem c_X6_tenthsOf {l : Launch} {D : va_G} {g : Nat → ClassId} {N : Nat} {ad : Nat → Nat} {C : Nat → va_E} {sz : Nat} {t_there : Int32} {t_lift : Int32} {t_none : Int32} {t_rain : Nat → Int32} {t_tell : Nat → Int32} {t_wy : Nat → Int32} {t_wn : Nat → Int32} {wa_g : Nat → Int32} {th_none : Int64} {th_all1 : Int64} {th_all2 : Int64} {th_k1 : Int32} {th_k2 : Int32} {th_size : Int32} {th_one : Nat → Int64} {fC : Nat → Int32} {fS : Nat → Int32} {fM : Nat → Int32} {fT : Nat → Int32} {fY : Nat → Int32} {sL : Nat → Nat → Int32} {sT : Nat → Nat → Int32} {sF : Nat → Int32} {sU : Nat → Int32} {p0 : Nat} {rr : Int64} (hN : 86 ≤ N) (hb_p0 : isFB p0) (h5 : C 5 = .inr (7, [.ref (ad 6), .ref (ad 7), .ref (ad 8), .ref (ad 9), .ref (ad 10), .ref (ad 11), .ref (ad 12), .ref (ad 13), .ref (ad 14), .ref (ad 15), .ref (ad 16), .ref (ad 17), .ref (ad 18), .int t_there, .int t_lift, .int t_none])) (h15 : C 15 = aI g 24 t_rain) (h16 : C 16 = aI g 4 t_tell) (h17 : C 17 = aI g 4 t_wy) (h18 : C 18 = aI g 4 t_wn) (h21 : C 21 = .inr (8, [.ref (ad 5), .ref (ad 19), .ref (ad 22), .ref (ad 23)])) (h22 : C 22 = aI g 12 wa_g) (h23 : C 23 = aS g 12 (fun i => if i < 12 then some (ad (24 + 3 * i)) else none)) (h60 : C 60 = .inr (6, [.ref (ad 5), .ref (ad 19), .ref (ad 21), .ref (ad 61), .ref (ad 62), .ref (ad 65), .ref (ad 66), .long th_none, .long th_all1, .long th_all2, .int th_k1, .int th_k2, .int th_size])) (h65 : C 65 = aL g 12 th_one) (hF_ : PoolF C fC fS fM fT fY) (hS_ : PoolS g ad C sL sT sF sU) (hf : f_X6_tenthsOf p0 t_rain t_tell t_wy t_wn wa_g th_none th_one sL sT sF sU fC fS fM fT fY = some rr) : Met l yX6_tenthsOf wsX6_tenthsOf rmX6_tenthsOf (PcW D g N ad C sz [.ref (ad 60), .ref (ad p0)]) (QlR sz rr) 0 0 (An sz) := by
  refine Met.ofW (cc := cX6_tenthsOf) (maxL := 6) (ret := (some .long)) (by decide) rfl ?_
  intro p e s m args below meth c s₁ B hml hv
  obtain ⟨hav, hsz, hK, hP⟩ := hv
  subst hsz
  have hx := B.exec
  have hb := B.bytes
  have hr := B.returns
  have hts := atoms_spec (ws := wsX6_tenthsOf) B.pre
  have hown : s.vm.findClass RX6 = some m.cls := findClass_of_methodNamed B.named
  have hlocks := B.notSynchronized
  generalize hQ : MQ below (QlR s.heap.size rr) args s 0 0 (An s.heap.size) = QQ
  have hS : va_S (An s.heap.size) s.heap s.heap [] := va_S.rf
  have hA : ∀ q, s.heap.size ≤ q → (An s.heap.size) q := fun q h => h
  have k0 := hts (.fieldLink RX6 71 "UpDrain$Thoughts" "ofNone" "J") (List.mem_of_getElem? (i := 1) rfl)
  have nX6 : ∀ w ∈ u_ws RX6 TX6 13, w ∈ wsX6_tenthsOf := fun _ h => List.mem_cons_of_mem _ (List.mem_append_left _ (List.mem_append_left _ (List.mem_append_left _ (List.mem_append_left _ (List.mem_append_right _ h)))))
  have k2 := hts (.fieldLink RX6 24 "UpDrain$Thoughts" "ofOne" "[J") (List.mem_of_getElem? (i := 2) rfl)
  have k3 := hts (.fieldLink RX6 39 "UpDrain$Thoughts" "water" "LUpDrain$Water;") (List.mem_of_getElem? (i := 3) rfl)
  have k4 := nf_56 (A := args) hK
  have nX8 : ∀ w ∈ u_ws RX8 TX8 4, w ∈ wsX6_tenthsOf := fun _ h => List.mem_cons_of_mem _ (List.mem_append_left _ (List.mem_append_left _ (List.mem_append_left _ (List.mem_append_right _ h))))
  have hE := lg_entry_eq m [.ref (ad 60), .ref (ad p0)] 6
  rw [← hav] at hE
  rw [hE]
  have hl := lv_entry [.ref (ad 60), .ref (ad p0)] (n := 6) (Nat.le_of_ble_eq_true rfl)
  generalize (lg_sl [.ref (ad 60), .ref (ad p0)] ++ List.replicate (6 - (lg_sl [.ref (ad 60), .ref (ad p0)]).length) Slot.unset).toArray = ls at hl ⊢
  have hl : lv_has ls 6 [(0, .ref (ad 60)), (1, .ref (ad p0))] := hl
  clear hE
  unfold f_X6_tenthsOf at hf
  suffices hgo : ∀ (H : Heap) (locs : List Loc), va_P D vwCl (wd N ad C) H → va_S (An s.heap.size) s.heap H locs → W p l e (headSpec wsX6_tenthsOf rmX6_tenthsOf).room s m args below meth c H locs 0 0 QQ (F0 m 0 ls []) from hgo s.heap [] hP hS
  clear hS hP
  intro H locs hP hS
  refine lv_aload_n hx hb dX6_tenthsOf_0 rfl (lv_at hl 0 rfl) ?_
  refine r_get (own := RX6) (T := TX6) (n := 13) (ci := 6) (v := .long th_none) hx hb hts nX6 hown hK hP (by omega) h60 rfl 7 (by decide) k0 rfl dX6_tenthsOf_1 ?_
  refine lv_aload_n hx hb dX6_tenthsOf_4 rfl (lv_at hl 0 rfl) ?_
  refine lv_aload_n hx hb dX6_tenthsOf_5 rfl (lv_at hl 1 rfl) ?_
  refine lv_iconst (v := 0) hx hb dX6_tenthsOf_6 (by decide) ?_
  obtain ⟨q1, hq1, hf⟩ := bd_e hf
  refine k_iR (va_runV (C := RX6) (As := [.ref (ad p0), .int 0]) (rest := [.long th_none]) ⟨hx, hb, hml, hown, hts⟩ (c_X6_tenthsToSay (l := l) (sz := H.size) (p0 := p0) (p1 := 0) hN hb_p0 bz0 h5 h17 h18 h60 hF_ hq1) (cwV 2 hts gX6_tenthsOf_X6_tenthsToSay rfl rfl rfl (by decide +kernel) ⟨Nat.le_of_ble_eq_true rfl, Nat.le_of_ble_eq_true rfl⟩) (preV_of hK hP (by omega) h60 rfl) rfl rfl hl.1 rfl (lv_room (Nat.le_of_ble_eq_true rfl)) dX6_tenthsOf_7 ⟨Nat.le_of_ble_eq_true rfl, Nat.le_of_ble_eq_true rfl⟩) hA hP hS (fun H locs hP hS hbz_q1 => ?_)
  refine lv_i2l hx hb dX6_tenthsOf_10 rfl ?_
  refine lv_lmul hx hb dX6_tenthsOf_11 ?_
  obtain ⟨x2, ex2, hf⟩ := lt_e hf
  refine tp_l ex2 ?_
  refine lv_lstore_n (lv' := [(2, .long x2), (0, .ref (ad 60)), (1, .ref (ad p0))]) hx hb dX6_tenthsOf_12 rfl hl (by decide) rfl (fun ls hl => ?_)
  refine lv_iconst (v := 0) hx hb dX6_tenthsOf_13 (by decide) ?_
  refine lv_istore (lv' := [(4, .int 0), (2, .long x2), (0, .ref (ad 60)), (1, .ref (ad p0))]) hx hb dX6_tenthsOf_14 hl (by decide) rfl (fun ls hl => ?_)
  have key16 : ∀ (ko : Int64 → Int32 → Option (Int64)), (∀ (x5 : Int64) (x6 : Int32) (C : Nat → va_E) (H : Heap) (locs : List Loc) (ls : Array Slot), va_P D vwCl (wd N ad C) H → va_S (An s.heap.size) s.heap H locs → C 5 = .inr (7, [.ref (ad 6), .ref (ad 7), .ref (ad 8), .ref (ad 9), .ref (ad 10), .ref (ad 11), .ref (ad 12), .ref (ad 13), .ref (ad 14), .ref (ad 15), .ref (ad 16), .ref (ad 17), .ref (ad 18), .int t_there, .int t_lift, .int t_none]) → C 15 = aI g 24 t_rain → C 16 = aI g 4 t_tell → C 17 = aI g 4 t_wy → C 18 = aI g 4 t_wn → C 21 = .inr (8, [.ref (ad 5), .ref (ad 19), .ref (ad 22), .ref (ad 23)]) → C 22 = aI g 12 wa_g → C 23 = aS g 12 (fun i => if i < 12 then some (ad (24 + 3 * i)) else none) → C 60 = .inr (6, [.ref (ad 5), .ref (ad 19), .ref (ad 21), .ref (ad 61), .ref (ad 62), .ref (ad 65), .ref (ad 66), .long th_none, .long th_all1, .long th_all2, .int th_k1, .int th_k2, .int th_size]) → C 65 = aL g 12 th_one → PoolF C fC fS fM fT fY → PoolS g ad C sL sT sF sU → lv_has ls 6 [(0, .ref (ad 60)), (1, .ref (ad p0)), (2, .long x5), (4, .int x6)] → ko x5 x6 = some rr → W p l e (headSpec wsX6_tenthsOf rmX6_tenthsOf).room s m args below meth c H locs 0 0 QQ (F0 m 81 ls [])) → ∀ (n : Nat) (x3 : Int64) (x4 : Int32) (C : Nat → va_E) (H : Heap) (locs : List Loc) (ls : Array Slot), va_P D vwCl (wd N ad C) H → va_S (An s.heap.size) s.heap H locs → C 5 = .inr (7, [.ref (ad 6), .ref (ad 7), .ref (ad 8), .ref (ad 9), .ref (ad 10), .ref (ad 11), .ref (ad 12), .ref (ad 13), .ref (ad 14), .ref (ad 15), .ref (ad 16), .ref (ad 17), .ref (ad 18), .int t_there, .int t_lift, .int t_none]) → C 15 = aI g 24 t_rain → C 16 = aI g 4 t_tell → C 17 = aI g 4 t_wy → C 18 = aI g 4 t_wn → C 21 = .inr (8, [.ref (ad 5), .ref (ad 19), .ref (ad 22), .ref (ad 23)]) → C 22 = aI g 12 wa_g → C 23 = aS g 12 (fun i => if i < 12 then some (ad (24 + 3 * i)) else none) → C 60 = .inr (6, [.ref (ad 5), .ref (ad 19), .ref (ad 21), .ref (ad 61), .ref (ad 62), .ref (ad 65), .ref (ad 66), .long th_none, .long th_all1, .long th_all2, .int th_k1, .int th_k2, .int th_size]) → C 65 = aL g 12 th_one → PoolF C fC fS fM fT fY → PoolS g ad C sL sT sF sU → lv_has ls 6 [(0, .ref (ad 60)), (1, .ref (ad p0)), (2, .long x3), (4, .int x4)] → LX6_tenthsOf_16 p0 t_rain t_tell t_wy t_wn wa_g th_one sL sT sF sU fC fS fM fT fY ko n x3 x4 = some rr → W p l e (headSpec wsX6_tenthsOf rmX6_tenthsOf).room s m args below meth c H locs 0 0 QQ (F0 m 16 ls []) := by
    intro ko hko n
    induction n with
    | zero =>
      intro x3 x4 C H locs ls hP hS h5 h15 h16 h17 h18 h21 h22 h23 h60 h65 hF_ hS_ hl hf
      rw [LX6_tenthsOf_16_z] at hf
      cases hf
    | succ n ih =>
      intro x3 x4 C H locs ls hP hS h5 h15 h16 h17 h18 h21 h22 h23 h60 h65 hF_ hS_ hl hf
      rw [LX6_tenthsOf_16_s] at hf
      refine lv_iload hx hb dX6_tenthsOf_16 (lv_at hl 3 rfl) ?_
      refine lv_bipush (v := 12) hx hb dX6_tenthsOf_18 (by decide) ?_
      refine lv_icmp_ge (tgt := 81) hx hb dX6_tenthsOf_20 (by decide) (fun c7 => ?_) (fun c7 => ?_)
      · have hf := it_e c7 hf
        exact hko x3 x4 C H locs ls hP hS h5 h15 h16 h17 h18 h21 h22 h23 h60 h65 hF_ hS_ (lv_sub hl [0, 1, 2, 3] rfl) hf
      · have hf := ie_e c7 hf
        refine lv_aload_n hx hb dX6_tenthsOf_23 rfl (lv_at hl 0 rfl) ?_
        refine r_get (own := RX6) (T := TX6) (n := 13) (ci := 6) (v := .ref (ad 65)) hx hb hts nX6 hown hK hP (by omega) h60 rfl 5 (by decide) k2 rfl dX6_tenthsOf_24 ?_
        refine lv_iload hx hb dX6_tenthsOf_27 (lv_at hl 3 rfl) ?_
        obtain ⟨i9, x8, ex8, hf⟩ := rl_e hf
        refine r_lald hx hb hK hP (by omega) h65 i9 dX6_tenthsOf_29 ex8 ?_
        refine lv_lconst (v := 0) hx hb dX6_tenthsOf_30 (by decide) ?_
        refine W.lcmp hx hb dX6_tenthsOf_31 ?_
        obtain ⟨q10, htq10, hf⟩ := bd_e hf
        have jnq10 : ∀ (C : Nat → va_E) (H : Heap) (locs : List Loc) (ls : Array Slot), va_P D vwCl (wd N ad C) H → va_S (An s.heap.size) s.heap H locs → C 5 = .inr (7, [.ref (ad 6), .ref (ad 7), .ref (ad 8), .ref (ad 9), .ref (ad 10), .ref (ad 11), .ref (ad 12), .ref (ad 13), .ref (ad 14), .ref (ad 15), .ref (ad 16), .ref (ad 17), .ref (ad 18), .int t_there, .int t_lift, .int t_none]) → C 15 = aI g 24 t_rain → C 16 = aI g 4 t_tell → C 17 = aI g 4 t_wy → C 18 = aI g 4 t_wn → C 21 = .inr (8, [.ref (ad 5), .ref (ad 19), .ref (ad 22), .ref (ad 23)]) → C 22 = aI g 12 wa_g → C 23 = aS g 12 (fun i => if i < 12 then some (ad (24 + 3 * i)) else none) → C 60 = .inr (6, [.ref (ad 5), .ref (ad 19), .ref (ad 21), .ref (ad 61), .ref (ad 62), .ref (ad 65), .ref (ad 66), .long th_none, .long th_all1, .long th_all2, .int th_k1, .int th_k2, .int th_size]) → C 65 = aL g 12 th_one → PoolF C fC fS fM fT fY → PoolS g ad C sL sT sF sU → lv_has ls 6 [(0, .ref (ad 60)), (1, .ref (ad p0)), (2, .long q10), (4, .int x4)] → W p l e (headSpec wsX6_tenthsOf rmX6_tenthsOf).room s m args below meth c H locs 0 0 QQ (F0 m 75 ls []) := by
          intro C H locs ls hP hS h5 h15 h16 h17 h18 h21 h22 h23 h60 h65 hF_ hS_ hl
          obtain ⟨x11, ex11, hf⟩ := lt_e hf
          refine lv_iinc (v := x11) (lv' := [(4, .int x11), (0, .ref (ad 60)), (1, .ref (ad p0)), (2, .long q10)]) hx hb dX6_tenthsOf_75 hl (k := 3) rfl (by rw [ex11]; rfl) (by decide) rfl (fun ls hl => ?_)
          refine lv_goto (tgt := 16) hx hb dX6_tenthsOf_78 (by decide) ?_
          exact ih q10 x11 C H locs ls hP hS h5 h15 h16 h17 h18 h21 h22 h23 h60 h65 hF_ hS_ (lv_sub hl [1, 2, 3, 0] rfl) hf
        clear hf
        have hf := htq10
        refine lv_if_eq (tgt := 75) hx hb dX6_tenthsOf_32 (by decide) (fun c12 => ?_) (fun c12 => ?_)
        · have hf := it_e c12 hf
          obtain rfl := Option.some.inj hf
          exact jnq10 C H locs ls hP hS h5 h15 h16 h17 h18 h21 h22 h23 h60 h65 hF_ hS_ (lv_sub hl [0, 1, 2, 3] rfl)
        · have hf := ie_e c12 hf
          refine lv_aload_n hx hb dX6_tenthsOf_35 rfl (lv_at hl 0 rfl) ?_
          refine r_get (own := RX6) (T := TX6) (n := 13) (ci := 6) (v := .ref (ad 21)) hx hb hts nX6 hown hK hP (by omega) h60 rfl 2 (by decide) k3 rfl dX6_tenthsOf_36 ?_
          refine lv_aload_n hx hb dX6_tenthsOf_39 rfl (lv_at hl 1 rfl) ?_
          refine lv_aload_n hx hb dX6_tenthsOf_40 rfl (lv_at hl 0 rfl) ?_
          refine r_get (own := RX6) (T := TX6) (n := 13) (ci := 6) (v := .ref (ad 21)) hx hb hts nX6 hown hK hP (by omega) h60 rfl 2 (by decide) k3 rfl dX6_tenthsOf_41 ?_
          refine r_getN (own := RX6) (T := TX8) (n := 4) (ci := 8) (v := .ref (ad 23)) hx hb hts nX8 hown hK hP (by omega) h21 rfl 3 (by decide) k4 rfl dX6_tenthsOf_44 ?_
          refine lv_iload hx hb dX6_tenthsOf_47 (lv_at hl 3 rfl) ?_
          obtain ⟨i13, hf⟩ := ix_e hf
          refine r_aldS2 hx hb hK hP (by omega) h23 i13 dX6_tenthsOf_49 (if_pos (vp_lt i13)) ?_
          obtain ⟨j15, ej15⟩ : ∃ z : Nat, z = Int32.toNatClampNeg x4 := ⟨_, rfl⟩
          rw [← ej15] at hf ⊢
          have hbj15 : isSB (24 + 3 * j15) := isSB_i (by rw [ej15]; exact vp_lt i13)
          refine W.eq (g2 := F0 m 50 ls [.ref (ad (24 + 3 * j15)), .ref (ad p0), .ref (ad 21)]) rfl ?_
          refine lv_null hx hb dX6_tenthsOf_50 ?_
          obtain ⟨q16, hq16, hf⟩ := bd_e hf
          refine k_iR (va_runV (C := RX8) (As := [.ref (ad p0), .ref (ad (24 + 3 * j15)), .null]) (rest := []) ⟨hx, hb, hml, hown, hts⟩ (c_X8_shouldSayYes (l := l) (sz := H.size) (p0 := p0) (p1 := (some (24 + 3 * j15))) (p2 := none) hN hb_p0 (oS_s hbj15) oS_n h5 h15 h16 h21 h22 hF_ hS_ hq16) (cwV 3 hts gX6_tenthsOf_X8_shouldSayYes rfl rfl rfl (by decide +kernel) ⟨Nat.le_of_ble_eq_true rfl, Nat.le_of_ble_eq_true rfl⟩) (preV_of hK hP (by omega) h21 rfl) rfl rfl hl.1 rfl (lv_room (Nat.le_of_ble_eq_true rfl)) dX6_tenthsOf_51 ⟨Nat.le_of_ble_eq_true rfl, Nat.le_of_ble_eq_true rfl⟩) hA hP hS (fun H locs hP hS hbz_q16 => ?_)
          refine lv_istore (lv' := [(5, .int q16), (0, .ref (ad 60)), (1, .ref (ad p0)), (2, .long x3), (4, .int x4)]) hx hb dX6_tenthsOf_54 hl (by decide) rfl (fun ls hl => ?_)
          refine lv_lload_n hx hb dX6_tenthsOf_56 rfl (lv_at hl 3 rfl) ?_
          refine lv_aload_n hx hb dX6_tenthsOf_57 rfl (lv_at hl 1 rfl) ?_
          refine r_get (own := RX6) (T := TX6) (n := 13) (ci := 6) (v := .ref (ad 65)) hx hb hts nX6 hown hK hP (by omega) h60 rfl 5 (by decide) k2 rfl dX6_tenthsOf_58 ?_
          refine lv_iload hx hb dX6_tenthsOf_61 (lv_at hl 4 rfl) ?_
          obtain ⟨i18, x17, ex17, hf⟩ := rl_e hf
          refine r_lald hx hb hK hP (by omega) h65 i18 dX6_tenthsOf_63 ex17 ?_
          refine lv_aload_n hx hb dX6_tenthsOf_64 rfl (lv_at hl 1 rfl) ?_
          refine lv_aload_n hx hb dX6_tenthsOf_65 rfl (lv_at hl 2 rfl) ?_
          refine lv_iload hx hb dX6_tenthsOf_66 (lv_at hl 0 rfl) ?_
          obtain ⟨q19, hq19, hf⟩ := bd_e hf
          refine k_iR (va_runV (C := RX6) (As := [.ref (ad p0), .int q16]) (rest := [.long x17, .long x3]) ⟨hx, hb, hml, hown, hts⟩ (c_X6_tenthsToSay (l := l) (sz := H.size) (p0 := p0) (p1 := q16) hN hb_p0 hbz_q16 h5 h17 h18 h60 hF_ hq19) (cwV 2 hts gX6_tenthsOf_X6_tenthsToSay rfl rfl rfl (by decide +kernel) ⟨Nat.le_of_ble_eq_true rfl, Nat.le_of_ble_eq_true rfl⟩) (preV_of hK hP (by omega) h60 rfl) rfl rfl hl.1 rfl (lv_room (Nat.le_of_ble_eq_true rfl)) dX6_tenthsOf_68 ⟨Nat.le_of_ble_eq_true rfl, Nat.le_of_ble_eq_true rfl⟩) hA hP hS (fun H locs hP hS hbz_q19 => ?_)
          refine lv_i2l hx hb dX6_tenthsOf_71 rfl ?_
          refine lv_lmul hx hb dX6_tenthsOf_72 ?_
          refine lv_ladd hx hb dX6_tenthsOf_73 ?_
          obtain ⟨x20, ex20, hf⟩ := lt_e hf
          refine tp_l ex20 ?_
          refine lv_lstore_n (lv' := [(2, .long x20), (5, .int q16), (0, .ref (ad 60)), (1, .ref (ad p0)), (4, .int x4)]) hx hb dX6_tenthsOf_74 rfl hl (by decide) rfl (fun ls hl => ?_)
          obtain rfl := Option.some.inj hf
          exact jnq10 C H locs ls hP hS h5 h15 h16 h17 h18 h21 h22 h23 h60 h65 hF_ hS_ (lv_sub hl [2, 3, 0, 4] rfl)
  refine key16 _ (fun x5 x6 C H locs ls hP hS h5 h15 h16 h17 h18 h21 h22 h23 h60 h65 hF_ hS_ hl hf => ?_) FU x2 0 C H locs ls hP hS h5 h15 h16 h17 h18 h21 h22 h23 h60 h65 hF_ hS_ (lv_sub hl [2, 3, 1, 0] rfl) hf
  refine lv_lload_n hx hb dX6_tenthsOf_81 rfl (lv_at hl 2 rfl) ?_
  obtain rfl := Option.some.inj hf
  rw [← hQ]
  exact e_lR hx hb hr rfl hS hlocks dX6_tenthsOf_82

