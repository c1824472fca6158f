def f_X10_likeliest (t_lik : Nat → Int32) (t_rain : Nat → Int32) (t_tell : Nat → Int32) (t_wy : Nat → Int32) (t_wn : Nat → Int32) (t_none : Int32) (w_src : Int32) (wa_g : Nat → Int32) (th_none : Int64) (th_all1 : Int64) (th_k1 : Int32) (th_size : Int32) (th_one : Nat → Int64) (sL : Nat → Nat → Int32) (sT : Nat → Nat → Int32) (sF : Nat → Int32) (sU : Nat → Int32) (fC : Nat → Int32) (fS : Nat → Int32) (fM : Nat → Int32) (fT : Nat → Int32) (fY : Nat → Int32) : Option (Int32 × Int64 × Int64 × Int32 × (Nat → Int64)) :=
  (f_X6_thinkOfOne t_lik t_rain t_tell t_wy t_wn t_none w_src wa_g th_none th_all1 th_k1 th_size th_one sL sT sF sU fC fS fM fT fY).bind fun q1 =>
  (f_X6_most q1.1 q1.2.2.2).bind fun q2 =>
  some (q2, q1.1, q1.2.1, q1.2.2.1, q1.2.2.2)
abbrev rmX10_likeliest : Room := { frames := 6, cells := 0, slots := 0, locals := 149 }
set_option maxHeartbeats 4000000 in
set_option maxRecDepth 100000 in
theorem c_X10_likeliest {l : Launch} {D : va_G} {g : Nat → ClassId} {ad : Nat → Nat} {C : Nat → va_E} {sz : Nat} {t_there : Int32} {t_lift : Int32} {t_none : Int32} {t_lik : Nat → Int32} {t_rain : Nat → Int32} {t_tell : Nat → Int32} {t_wy : Nat → Int32} {t_wn : Nat → Int32} {w_src : Int32} {wa_g : Nat → Int32} {th_none : Int64} {th_all1 : Int64} {th_all2 : Int64} {th_k1 : Int32} {th_k2 : Int32} {th_size : Int32} {th_one : Nat → Int64} {fC : Nat → Int32} {fS : Nat → Int32} {fM : Nat → Int32} {fT : Nat → Int32} {fY : Nat → Int32} {sL : Nat → Nat → Int32} {sT : Nat → Nat → Int32} {sF : Nat → Int32} {sU : Nat → Int32}  {rr : Int32 × Int64 × Int64 × Int32 × (Nat → Int64)} (hI : Inj 109 ad) (h0 : C 0 = .inr (10, [.ref (ad 1), .ref (ad 5), .ref (ad 19), .ref (ad 21), .ref (ad 60), .ref (ad 77), .ref (ad 81), .ref (ad 84), .ref (ad 85)])) (h5 : C 5 = .inr (7, [.ref (ad 6), .ref (ad 7), .ref (ad 8), .ref (ad 9), .ref (ad 10), .ref (ad 11), .ref (ad 12), .ref (ad 13), .ref (ad 14), .ref (ad 15), .ref (ad 16), .ref (ad 17), .ref (ad 18), .int t_there, .int t_lift, .int t_none])) (h11 : C 11 = aI g 12 t_lik) (h15 : C 15 = aI g 24 t_rain) (h16 : C 16 = aI g 4 t_tell) (h17 : C 17 = aI g 4 t_wy) (h18 : C 18 = aI g 4 t_wn) (h19 : C 19 = .inr (9, [.ref (ad 5), .ref (ad 20), .int w_src])) (h21 : C 21 = .inr (8, [.ref (ad 5), .ref (ad 19), .ref (ad 22), .ref (ad 23)])) (h22 : C 22 = aI g 12 wa_g) (h23 : C 23 = aS g 12 (fun i => some (ad (24 + 3 * i)))) (h60 : C 60 = .inr (6, [.ref (ad 5), .ref (ad 19), .ref (ad 21), .ref (ad 61), .ref (ad 62), .ref (ad 65), .ref (ad 66), .long th_none, .long th_all1, .long th_all2, .int th_k1, .int th_k2, .int th_size])) (h61 : C 61 = aF g 10 (fun i => some (ad (67 + i)))) (h65 : C 65 = aL g 12 th_one) (hF_ : PoolF C fC fS fM fT fY) (hS_ : PoolS g ad C sL sT sF sU) (hf : f_X10_likeliest t_lik t_rain t_tell t_wy t_wn t_none w_src wa_g th_none th_all1 th_k1 th_size th_one sL sT sF sU fC fS fM fT fY = some rr) : Met l yX10_likeliest wsX10_likeliest rmX10_likeliest (PcW D g 109 ad C sz [.ref (ad 0)]) (QiW D 109 ad sz tP rr.1 (fun C' => (∀ i : Nat, i ≠ 60 ∧ i ≠ 65 → C' i = C i) ∧ (C' 60 = .inr (6, [.ref (ad 5), .ref (ad 19), .ref (ad 21), .ref (ad 61), .ref (ad 62), .ref (ad 65), .ref (ad 66), .long rr.2.1, .long rr.2.2.1, .long th_all2, .int rr.2.2.2.1, .int th_k2, .int th_size])) ∧ (C' 65 = aL g 12 rr.2.2.2.2))) 0 0 (Aw 109 ad sz) := by
  refine Met.ofW (cc := cX10_likeliest) (maxL := 1) (ret := (some .int)) (by decide) rfl ?_
  intro p e s m args below meth c s₁ B hml hv
  obtain ⟨hav, hsz, hK, hP⟩ := hv
  subst hsz
  have hx := B.exec
  have hb := B.bytes
  have hr := B.returns
  have hts := atoms_spec (ws := wsX10_likeliest) B.pre
  have hown : s.vm.findClass RX10 = some m.cls := findClass_of_methodNamed B.named
  have hlocks := B.notSynchronized
  generalize hQ : MQ below (QiW D 109 ad s.heap.size tP rr.1 (fun C' => (∀ i : Nat, i ≠ 60 ∧ i ≠ 65 → C' i = C i) ∧ (C' 60 = .inr (6, [.ref (ad 5), .ref (ad 19), .ref (ad 21), .ref (ad 61), .ref (ad 62), .ref (ad 65), .ref (ad 66), .long rr.2.1, .long rr.2.2.1, .long th_all2, .int rr.2.2.2.1, .int th_k2, .int th_size])) ∧ (C' 65 = aL g 12 rr.2.2.2.2))) args s 0 0 (Aw 109 ad s.heap.size) = QQ
  have hS : va_S (Aw 109 ad s.heap.size) s.heap s.heap [] := va_S.rf
  have hA : ∀ q, s.heap.size ≤ q → (Aw 109 ad s.heap.size) q := fun q h => Or.inr h
  have hAd : ∀ j : Nat, j < 109 → (Aw 109 ad s.heap.size) (ad j) := fun j h => Or.inl ⟨j, h, rfl⟩
  obtain ⟨C0, hC0⟩ : ∃ C0 : Nat → va_E, C0 = C := ⟨_, rfl⟩
  have hag : ∀ i : Nat, i ≠ 60 ∧ i ≠ 65 → C i = C0 i := fun i _ => by rw [hC0]
  rw [← hC0] at hQ
  have k0 := hts (.fieldLink RX10 46 "UpDrain" "thoughts" "LUpDrain$Thoughts;") (List.mem_of_getElem? (i := 1) rfl)
  have nX10 : ∀ w ∈ u_ws RX10 TX10 9, w ∈ wsX10_likeliest := fun _ h => List.mem_cons_of_mem _ (List.mem_append_left _ (List.mem_append_left _ (List.mem_append_left _ (List.mem_append_left _ (List.mem_append_left _ (List.mem_append_left _ (List.mem_append_right _ h)))))))
  have hE := lg_entry_eq m [.ref (ad 0)] 1
  rw [← hav] at hE
  rw [hE]
  have hl := lv_entry [.ref (ad 0)] (n := 1) (Nat.le_of_ble_eq_true rfl)
  generalize (lg_sl [.ref (ad 0)] ++ List.replicate (1 - (lg_sl [.ref (ad 0)]).length) Slot.unset).toArray = ls at hl ⊢
  have hl : lv_has ls 1 [(0, .ref (ad 0))] := hl
  clear hE
  unfold f_X10_likeliest at hf
  suffices hgo : ∀ (H : Heap) (locs : List Loc), va_P D vwCl (wd 109 ad C) H → va_S (Aw 109 ad s.heap.size) s.heap H locs → W p l e (headSpec wsX10_likeliest rmX10_likeliest).room s m args below meth c H locs 0 0 QQ (F0 m 0 ls []) from hgo s.heap [] hP hS
  clear hS hP
  intro H locs hP hS
  refine lv_aload_n hx hb dX10_likeliest_0 rfl (lv_at hl 0 rfl) ?_
  refine r_get (own := RX10) (T := TX10) (n := 9) (ci := 10) (v := .ref (ad 60)) hx hb hts nX10 hown hK hP (by decide) h0 rfl 4 (by decide) k0 rfl dX10_likeliest_1 ?_
  obtain ⟨q1, hq1, hf⟩ := bd_e hf
  refine k_vW (va_runV (C := RX6) (As := []) (rest := []) ⟨hx, hb, hml, hown, hts⟩ (c_X6_thinkOfOne (l := l) (sz := H.size)  hI h5 h11 h15 h16 h17 h18 h19 h21 h22 h23 h60 h61 h65 hF_ hS_ hq1) (cwV 0 hts gX10_likeliest_X6_thinkOfOne rfl rfl rfl (by decide +kernel) ⟨Nat.le_of_ble_eq_true rfl, Nat.le_of_ble_eq_true rfl⟩) (preV_of hK hP (by decide) h60 rfl) rfl rfl hl.1 rfl (lv_room (Nat.le_of_ble_eq_true rfl)) dX10_likeliest_4 ⟨Nat.le_refl _, Nat.le_refl _⟩) hA hAd hS (fun C H locs hP hS hpo => ?_)
  obtain ⟨he, h60, h65⟩ := hpo
  have hag : ∀ i : Nat, i ≠ 60 ∧ i ≠ 65 → C i = C0 i := fun i h => (he i (by omega)).trans (hag i h)
  have h0 := (he 0 (by decide)).trans h0
  have h5 := (he 5 (by decide)).trans h5
  have h11 := (he 11 (by decide)).trans h11
  have h15 := (he 15 (by decide)).trans h15
  have h16 := (he 16 (by decide)).trans h16
  have h17 := (he 17 (by decide)).trans h17
  have h18 := (he 18 (by decide)).trans h18
  have h19 := (he 19 (by decide)).trans h19
  have h21 := (he 21 (by decide)).trans h21
  have h22 := (he 22 (by decide)).trans h22
  have h23 := (he 23 (by decide)).trans h23
  have h61 := (he 61 (by decide)).trans h61
  have hF_ := hF_.ne (fun i h1 => he i (by omega))
  have hS_ := hS_.ne (fun i h1 h2 => he i (by omega))
  refine lv_aload_n hx hb dX10_likeliest_7 rfl (lv_at hl 0 rfl) ?_
  refine r_get (own := RX10) (T := TX10) (n := 9) (ci := 10) (v := .ref (ad 60)) hx hb hts nX10 hown hK hP (by decide) h0 rfl 4 (by decide) k0 rfl dX10_likeliest_8 ?_
  obtain ⟨q2, hq2, hf⟩ := bd_e hf
  refine k_iR (va_runV (C := RX6) (As := []) (rest := []) ⟨hx, hb, hml, hown, hts⟩ (c_X6_most (l := l) (sz := H.size)  h60 h65 hq2) (cwV 0 hts gX10_likeliest_X6_most rfl rfl rfl (by decide +kernel) ⟨Nat.le_of_ble_eq_true rfl, Nat.le_of_ble_eq_true rfl⟩) (preV_of hK hP (by decide) h60 rfl) rfl rfl hl.1 rfl (lv_room (Nat.le_of_ble_eq_true rfl)) dX10_likeliest_11 ⟨Nat.le_refl _, Nat.le_refl _⟩) hA hP hS (fun H locs hP hS hbz_q2 => ?_)
  obtain rfl := Option.some.inj hf
  rw [← hQ]
  exact e_iW hx hb hr rfl (tP_i _) hP hS ⟨hag, h60, h65⟩ hlocks dX10_likeliest_14

def f_X10_lacks (p0 : Int32) (t_down : Nat → Int32) (t_min : Nat → Int32) (t_gone : Nat → Int32) (t_rain : Nat → Int32) (t_tell : Nat → Int32) (t_there : Int32) (wa_g : Nat → Int32) (th_size : Int32) (sL : Nat → Nat → Int32) (sT : Nat → Nat → Int32) (sF : Nat → Int32) (sU : Nat → Int32) (fC : Nat → Int32) (fS : Nat → Int32) (fM : Nat → Int32) (fT : Nat → Int32) (fY : Nat → Int32) : Option (Int32 × (Nat → Nat → Int32) × (Nat → Nat → Int32) × (Nat → Int32) × (Nat → Int32)) :=
  if p0 < 0 then
    some ((-3), sL, sT, sF, sU)
  else
    if p0 ≤ 9999 then
      (f_X6_nodesThatFit p0 t_down t_min t_gone t_rain t_tell t_there wa_g th_size sL sT sF sU fC fS fM fT fY).bind fun q3 =>
      some (q3.1, q3.2.1, q3.2.2.1, q3.2.2.2.1, q3.2.2.2.2)
    else
      some ((-3), sL, sT, sF, sU)
abbrev rmX10_lacks : Room := { frames := 6, cells := 0, slots := 0, locals := 144 }
set_option maxHeartbeats 4000000 in
set_option maxRecDepth 100000 in
theorem c_X10_lacks {l : Launch} {D : va_G} {g : Nat → ClassId} {ad : Nat → Nat} {C : Nat → va_E} {sz : Nat} {t_there : Int32} {t_lift : Int32} {t_none : Int32} {t_down : Nat → Int32} {t_min : Nat → Int32} {t_gone : Nat → Int32} {t_rain : Nat → Int32} {t_tell : Nat → Int32} {wa_g : Nat → Int32} {th_none : Int64} {th_all1 : Int64} {th_all2 : Int64} {th_k1 : Int32} {th_k2 : Int32} {th_size : Int32} {fC : Nat → Int32} {fS : Nat → Int32} {fM : Nat → Int32} {fT : Nat → Int32} {fY : Nat → Int32} {sL : Nat → Nat → Int32} {sT : Nat → Nat → Int32} {sF : Nat → Int32} {sU : Nat → Int32} {p0 : Int32} {rr : Int32 × (Nat → Nat → Int32) × (Nat → Nat → Int32) × (Nat → Int32) × (Nat → Int32)} (hI : Inj 109 ad) (h0 : C 0 = .inr (10, [.ref (ad 1), .ref (ad 5), .ref (ad 19), .ref (ad 21), .ref (ad 60), .ref (ad 77), .ref (ad 81), .ref (ad 84), .ref (ad 85)])) (h5 : C 5 = .inr (7, [.ref (ad 6), .ref (ad 7), .ref (ad 8), .ref (ad 9), .ref (ad 10), .ref (ad 11), .ref (ad 12), .ref (ad 13), .ref (ad 14), .ref (ad 15), .ref (ad 16), .ref (ad 17), .ref (ad 18), .int t_there, .int t_lift, .int t_none])) (h6 : C 6 = aI g 12 t_down) (h7 : C 7 = aI g 12 t_min) (h9 : C 9 = aI g 12 t_gone) (h15 : C 15 = aI g 24 t_rain) (h16 : C 16 = aI g 4 t_tell) (h21 : C 21 = .inr (8, [.ref (ad 5), .ref (ad 19), .ref (ad 22), .ref (ad 23)])) (h22 : C 22 = aI g 12 wa_g) (h60 : C 60 = .inr (6, [.ref (ad 5), .ref (ad 19), .ref (ad 21), .ref (ad 61), .ref (ad 62), .ref (ad 65), .ref (ad 66), .long th_none, .long th_all1, .long th_all2, .int th_k1, .int th_k2, .int th_size])) (h61 : C 61 = aF g 10 (fun i => some (ad (67 + i)))) (hF_ : PoolF C fC fS fM fT fY) (hS_ : PoolS g ad C sL sT sF sU) (hf : f_X10_lacks p0 t_down t_min t_gone t_rain t_tell t_there wa_g th_size sL sT sF sU fC fS fM fT fY = some rr) : Met l yX10_lacks wsX10_lacks rmX10_lacks (PcW D g 109 ad C sz [.ref (ad 0), .int p0]) (QiW D 109 ad sz tP rr.1 (fun C' => (∀ i : Nat, (i < 24 ∨ 64 < i ∨ i = 60 ∨ i = 61) → C' i = C i) ∧ (PoolS g ad C' rr.2.1 rr.2.2.1 rr.2.2.2.1 rr.2.2.2.2))) 0 0 (Aw 109 ad sz) := by
  refine Met.ofW (cc := cX10_lacks) (maxL := 2) (ret := (some .int)) (by decide) rfl ?_
  intro p e s m args below meth c s₁ B hml hv
  obtain ⟨hav, hsz, hK, hP⟩ := hv
  subst hsz
  have hx := B.exec
  have hb := B.bytes
  have hr := B.returns
  have hts := atoms_spec (ws := wsX10_lacks) B.pre
  have hown : s.vm.findClass RX10 = some m.cls := findClass_of_methodNamed B.named
  have hlocks := B.notSynchronized
  generalize hQ : MQ below (QiW D 109 ad s.heap.size tP rr.1 (fun C' => (∀ i : Nat, (i < 24 ∨ 64 < i ∨ i = 60 ∨ i = 61) → C' i = C i) ∧ (PoolS g ad C' rr.2.1 rr.2.2.1 rr.2.2.2.1 rr.2.2.2.2))) args s 0 0 (Aw 109 ad s.heap.size) = QQ
  have hS : va_S (Aw 109 ad s.heap.size) s.heap s.heap [] := va_S.rf
  have hA : ∀ q, s.heap.size ≤ q → (Aw 109 ad s.heap.size) q := fun q h => Or.inr h
  have hAd : ∀ j : Nat, j < 109 → (Aw 109 ad s.heap.size) (ad j) := fun j h => Or.inl ⟨j, h, rfl⟩
  obtain ⟨C0, hC0⟩ : ∃ C0 : Nat → va_E, C0 = C := ⟨_, rfl⟩
  have hag : ∀ i : Nat, (i < 24 ∨ 64 < i ∨ i = 60 ∨ i = 61) → C i = C0 i := fun i _ => by rw [hC0]
  rw [← hC0] at hQ
  have k0 := hts (.fieldLink RX10 46 "UpDrain" "thoughts" "LUpDrain$Thoughts;") (List.mem_of_getElem? (i := 1) rfl)
  have nX10 : ∀ w ∈ u_ws RX10 TX10 9, w ∈ wsX10_lacks := fun _ h => List.mem_cons_of_mem _ (List.mem_append_left _ (List.mem_append_left _ (List.mem_append_left _ (List.mem_append_left _ (List.mem_append_left _ (List.mem_append_right _ h))))))
  have hE := lg_entry_eq m [.ref (ad 0), .int p0] 2
  rw [← hav] at hE
  rw [hE]
  have hl := lv_entry [.ref (ad 0), .int p0] (n := 2) (Nat.le_of_ble_eq_true rfl)
  generalize (lg_sl [.ref (ad 0), .int p0] ++ List.replicate (2 - (lg_sl [.ref (ad 0), .int p0]).length) Slot.unset).toArray = ls at hl ⊢
  have hl : lv_has ls 2 [(0, .ref (ad 0)), (1, .int p0)] := hl
  clear hE
  unfold f_X10_lacks at hf
  suffices hgo : ∀ (H : Heap) (locs : List Loc), va_P D vwCl (wd 109 ad C) H → va_S (Aw 109 ad s.heap.size) s.heap H locs → W p l e (headSpec wsX10_lacks rmX10_lacks).room s m args below meth c H locs 0 0 QQ (F0 m 0 ls []) from hgo s.heap [] hP hS
  clear hS hP
  intro H locs hP hS
  refine lv_iload_n hx hb dX10_lacks_0 rfl (lv_at hl 1 rfl) ?_
  refine lv_if_lt (tgt := 11) hx hb dX10_lacks_1 (by decide) (fun c1 => ?_) (fun c1 => ?_)
  · have hf := it_e c1 hf
    refine lv_bipush (v := (-3)) hx hb dX10_lacks_11 (by decide) ?_
    obtain rfl := Option.some.inj hf
    rw [← hQ]
    exact e_iW hx hb hr rfl (tP_i _) hP hS ⟨hag, hS_⟩ hlocks dX10_lacks_13
  · have hf := ie_e c1 hf
    refine lv_iload_n hx hb dX10_lacks_4 rfl (lv_at hl 1 rfl) ?_
    refine lv_sipush (v := 9999) hx hb dX10_lacks_5 (by decide) ?_
    refine lv_icmp_le (tgt := 14) hx hb dX10_lacks_8 (by decide) (fun c2 => ?_) (fun c2 => ?_)
    · have hf := it_e c2 hf
      refine lv_aload_n hx hb dX10_lacks_14 rfl (lv_at hl 0 rfl) ?_
      refine r_get (own := RX10) (T := TX10) (n := 9) (ci := 10) (v := .ref (ad 60)) hx hb hts nX10 hown hK hP (by decide) h0 rfl 4 (by decide) k0 rfl dX10_lacks_15 ?_
      refine lv_iload_n hx hb dX10_lacks_18 rfl (lv_at hl 1 rfl) ?_
      obtain ⟨q3, hq3, hf⟩ := bd_e hf
      refine k_iW (va_runV (C := RX6) (As := [.int p0]) (rest := []) ⟨hx, hb, hml, hown, hts⟩ (c_X6_nodesThatFit (l := l) (sz := H.size) (p0 := p0) hI h5 h6 h7 h9 h15 h16 h21 h22 h60 h61 hF_ hS_ hq3) (cwV 1 hts gX10_lacks_X6_nodesThatFit rfl rfl rfl (by decide +kernel) ⟨Nat.le_of_ble_eq_true rfl, Nat.le_of_ble_eq_true rfl⟩) (preV_of hK hP (by decide) h60 rfl) rfl rfl hl.1 rfl (lv_room (Nat.le_of_ble_eq_true rfl)) dX10_lacks_19 ⟨Nat.le_refl _, Nat.le_refl _⟩) hA hAd hS (fun C H locs hP hS hpo hbz_q3 => ?_)
      obtain ⟨he, hS_⟩ := hpo
      have hag : ∀ i : Nat, (i < 24 ∨ 64 < i ∨ i = 60 ∨ i = 61) → C i = C0 i := fun i h => (he i (by omega)).trans (hag i h)
      have h0 := (he 0 (by decide)).trans h0
      have h5 := (he 5 (by decide)).trans h5
      have h6 := (he 6 (by decide)).trans h6
      have h7 := (he 7 (by decide)).trans h7
      have h9 := (he 9 (by decide)).trans h9
      have h15 := (he 15 (by decide)).trans h15
      have h16 := (he 16 (by decide)).trans h16
      have h21 := (he 21 (by decide)).trans h21
      have h22 := (he 22 (by decide)).trans h22
      have h60 := (he 60 (by decide)).trans h60
      have h61 := (he 61 (by decide)).trans h61
      have hF_ := hF_.ne (fun i h1 => he i (by omega))
      obtain rfl := Option.some.inj hf
      rw [← hQ]
      exact e_iW hx hb hr rfl (tP_i _) hP hS ⟨hag, hS_⟩ hlocks dX10_lacks_22
    · have hf := ie_e c2 hf
      refine lv_bipush (v := (-3)) hx hb dX10_lacks_11 (by decide) ?_
      obtain rfl := Option.some.inj hf
      rw [← hQ]
      exact e_iW hx hb hr rfl (tP_i _) hP hS ⟨hag, hS_⟩ hlocks dX10_lacks_13

def LX10_areLids_2 (p0 : Int32) (p1 : Int32) (t_there : Int32) (ko : Int32 → Option (Int32)) : Nat → Int32 → Option (Int32)
  | 0, _ => none
  | n + 1, x1 =>
    if p1 ≤ x1 then
      ko x1
    else
      (f_X3_lidOf p0 x1).bind fun q4 =>
      (f_X10_isThere q4 t_there).bind fun q5 =>
      if q5 = 0 then
        some (0)
      else
        lt (x1 + 1 : Int32) fun x7 =>
        LX10_areLids_2 p0 p1 t_there ko n x7
theorem LX10_areLids_2_z (p0 : Int32) (p1 : Int32) (t_there : Int32) (ko : Int32 → Option (Int32)) (x1 : Int32) : LX10_areLids_2 p0 p1 t_there ko 0 x1 = none := rfl
theorem LX10_areLids_2_s (p0 : Int32) (p1 : Int32) (t_there : Int32) (ko : Int32 → Option (Int32)) (n : Nat) (x1 : Int32) : LX10_areLids_2 p0 p1 t_there ko (n + 1) x1 =
    if p1 ≤ x1 then
      ko x1
    else
      (f_X3_lidOf p0 x1).bind fun q4 =>
      (f_X10_isThere q4 t_there).bind fun q5 =>
      if q5 = 0 then
        some (0)
      else
        lt (x1 + 1 : Int32) fun x7 =>
        LX10_areLids_2 p0 p1 t_there ko n x7 := rfl
def f_X10_areLids (p0 : Int32) (p1 : Int32) (t_there : Int32) : Option (Int32) :=
  LX10_areLids_2 p0 p1 t_there (fun x2 =>
    some (1)) FU 0
abbrev rmX10_areLids : Room := { frames := 2, cells := 0, slots := 0, locals := 42 }
set_option maxHeartbeats 4000000 in
set_option maxRecDepth 100000 in
theorem c_X10_areLids {l : Launch} {D : va_G} {g : Nat → ClassId} {ad : Nat → Nat} {C : Nat → va_E} {sz : Nat} {t_there : Int32} {t_lift : Int32} {t_none : Int32} {p0 : Int32} {p1 : Int32} {rr : Int32} (h0 : C 0 = .inr (10, [.ref (ad 1), .ref (ad 5), .ref (ad 19), .ref (ad 21), .ref (ad 60), .ref (ad 77), .ref (ad 81), .ref (ad 84), .ref (ad 85)])) (h5 : C 5 = .inr (7, [.ref (ad 6), .ref (ad 7), .ref (ad 8), .ref (ad 9), .ref (ad 10), .ref (ad 11), .ref (ad 12), .ref (ad 13), .ref (ad 14), .ref (ad 15), .ref (ad 16), .ref (ad 17), .ref (ad 18), .int t_there, .int t_lift, .int t_none])) (hf : f_X10_areLids p0 p1 t_there = some rr) : Met l yX10_areLids wsX10_areLids rmX10_areLids (PcW D g 109 ad C sz [.ref (ad 0), .int p0, .int p1]) (QiR sz bz rr) 0 0 (An sz) := by
  refine Met.ofW (cc := cX10_areLids) (maxL := 4) (ret := (some .boolean)) (by decide) rfl ?_
  intro p e s m args below meth c s₁ B hml hv
  obtain ⟨hav, hsz, hK, hP⟩ := hv
  subst hsz
  have hx := B.exec
  have hb := B.bytes
  have hr := B.returns
  have hts := atoms_spec (ws := wsX10_areLids) B.pre
  have hown : s.vm.findClass RX10 = some m.cls := findClass_of_methodNamed B.named
  have hlocks := B.notSynchronized
  generalize hQ : MQ below (QiR s.heap.size bz rr) args s 0 0 (An s.heap.size) = QQ
  have hS : va_S (An s.heap.size) s.heap s.heap [] := va_S.rf
  have hA : ∀ q, s.heap.size ≤ q → (An s.heap.size) q := fun q h => h
  have hE := lg_entry_eq m [.ref (ad 0), .int p0, .int p1] 4
  rw [← hav] at hE
  rw [hE]
  have hl := lv_entry [.ref (ad 0), .int p0, .int p1] (n := 4) (Nat.le_of_ble_eq_true rfl)
  generalize (lg_sl [.ref (ad 0), .int p0, .int p1] ++ List.replicate (4 - (lg_sl [.ref (ad 0), .int p0, .int p1]).length) Slot.unset).toArray = ls at hl ⊢
  have hl : lv_has ls 4 [(0, .ref (ad 0)), (1, .int p0), (2, .int p1)] := hl
  clear hE
  unfold f_X10_areLids at hf
  suffices hgo : ∀ (H : Heap) (locs : List Loc), va_P D vwCl (wd 109 ad C) H → va_S (An s.heap.size) s.heap H locs → W p l e (headSpec wsX10_areLids rmX10_areLids).room s m args below meth c H locs 0 0 QQ (F0 m 0 ls []) from hgo s.heap [] hP hS
  clear hS hP
  intro H locs hP hS
  refine lv_iconst (v := 0) hx hb dX10_areLids_0 (by decide) ?_
  refine lv_istore_n (lv' := [(3, .int 0), (0, .ref (ad 0)), (1, .int p0), (2, .int p1)]) hx hb dX10_areLids_1 rfl hl (by decide) rfl (fun ls hl => ?_)
  have key2 : ∀ (ko : Int32 → Option (Int32)), (∀ (x2 : Int32) (C : Nat → va_E) (H : Heap) (locs : List Loc) (ls : Array Slot), va_P D vwCl (wd 109 ad C) H → va_S (An s.heap.size) s.heap H locs → C 0 = .inr (10, [.ref (ad 1), .ref (ad 5), .ref (ad 19), .ref (ad 21), .ref (ad 60), .ref (ad 77), .ref (ad 81), .ref (ad 84), .ref (ad 85)]) → C 5 = .inr (7, [.ref (ad 6), .ref (ad 7), .ref (ad 8), .ref (ad 9), .ref (ad 10), .ref (ad 11), .ref (ad 12), .ref (ad 13), .ref (ad 14), .ref (ad 15), .ref (ad 16), .ref (ad 17), .ref (ad 18), .int t_there, .int t_lift, .int t_none]) → lv_has ls 4 [(0, .ref (ad 0)), (1, .int p0), (2, .int p1), (3, .int x2)] → ko x2 = some rr → W p l e (headSpec wsX10_areLids rmX10_areLids).room s m args below meth c H locs 0 0 QQ (F0 m 27 ls [])) → ∀ (n : Nat) (x1 : Int32) (C : Nat → va_E) (H : Heap) (locs : List Loc) (ls : Array Slot), va_P D vwCl (wd 109 ad C) H → va_S (An s.heap.size) s.heap H locs → C 0 = .inr (10, [.ref (ad 1), .ref (ad 5), .ref (ad 19), .ref (ad 21), .ref (ad 60), .ref (ad 77), .ref (ad 81), .ref (ad 84), .ref (ad 85)]) → C 5 = .inr (7, [.ref (ad 6), .ref (ad 7), .ref (ad 8), .ref (ad 9), .ref (ad 10), .ref (ad 11), .ref (ad 12), .ref (ad 13), .ref (ad 14), .ref (ad 15), .ref (ad 16), .ref (ad 17), .ref (ad 18), .int t_there, .int t_lift, .int t_none]) → lv_has ls 4 [(0, .ref (ad 0)), (1, .int p0), (2, .int p1), (3, .int x1)] → LX10_areLids_2 p0 p1 t_there ko n x1 = some rr → W p l e (headSpec wsX10_areLids rmX10_areLids).room s m args below meth c H locs 0 0 QQ (F0 m 2 ls []) := by
    intro ko hko n
    induction n with
    | zero =>
      intro x1 C H locs ls hP hS h0 h5 hl hf
      rw [LX10_areLids_2_z] at hf
      cases hf
    | succ n ih =>
      intro x1 C H locs ls hP hS h0 h5 hl hf
      rw [LX10_areLids_2_s] at hf
      refine lv_iload_n hx hb dX10_areLids_2 rfl (lv_at hl 3 rfl) ?_
      refine lv_iload_n hx hb dX10_areLids_3 rfl (lv_at hl 2 rfl) ?_
      refine lv_icmp_ge (tgt := 27) hx hb dX10_areLids_4 (by decide) (fun c3 => ?_) (fun c3 => ?_)
      · have hf := it_e c3 hf
        exact hko x1 C H locs ls hP hS h0 h5 (lv_sub hl [0, 1, 2, 3] rfl) hf
      · have hf := ie_e c3 hf
        refine lv_aload_n hx hb dX10_areLids_7 rfl (lv_at hl 0 rfl) ?_
        refine lv_iload_n hx hb dX10_areLids_8 rfl (lv_at hl 1 rfl) ?_
        refine lv_iload_n hx hb dX10_areLids_9 rfl (lv_at hl 3 rfl) ?_
        obtain ⟨q4, hq4, hf⟩ := bd_e hf
        refine k_iR (va_runS (As := [.int p0, .int x1]) (rest := [.ref (ad 0)]) ⟨hx, hb, hml, hown, hts⟩ (c_X3_lidOf (l := l) (sz := H.size) (p0 := p0) (p1 := x1) hq4) (va_cwS 2 hts gX10_areLids_X3_lidOf rfl rfl rfl (by decide +kernel) ⟨Nat.le_of_ble_eq_true rfl, Nat.le_of_ble_eq_true rfl⟩) preS0 rfl rfl hl.1 rfl (lv_room (Nat.le_of_ble_eq_true rfl)) dX10_areLids_10 ⟨Nat.le_refl _, Nat.le_refl _⟩) hA hP hS (fun H locs hP hS hbz_q4 => ?_)
        obtain ⟨q5, hq5, hf⟩ := bd_e hf
        refine k_iR (va_runV (C := RX10) (As := [.int q4]) (rest := []) ⟨hx, hb, hml, hown, hts⟩ (c_X10_isThere (l := l) (sz := H.size) (p0 := q4) h0 h5 hq5) (cwV 1 hts gX10_areLids_X10_isThere rfl rfl rfl (by decide +kernel) ⟨Nat.le_of_ble_eq_true rfl, Nat.le_of_ble_eq_true rfl⟩) (preV_of hK hP (by decide) h0 rfl) rfl rfl hl.1 rfl (lv_room (Nat.le_of_ble_eq_true rfl)) dX10_areLids_13 ⟨Nat.le_refl _, Nat.le_refl _⟩) hA hP hS (fun H locs hP hS hbz_q5 => ?_)
        refine lv_if_ne (tgt := 21) hx hb dX10_areLids_16 (by decide) (fun c6 => ?_) (fun c6 => ?_)
        · have hf := ie_e c6 hf
          obtain ⟨x7, ex7, hf⟩ := lt_e hf
          refine lv_iinc (v := x7) (lv' := [(3, .int x7), (0, .ref (ad 0)), (1, .int p0), (2, .int p1)]) hx hb dX10_areLids_21 hl (k := 3) rfl (by rw [ex7]; rfl) (by decide) rfl (fun ls hl => ?_)
          refine lv_goto (tgt := 2) hx hb dX10_areLids_24 (by decide) ?_
          exact ih x7 C H locs ls hP hS h0 h5 (lv_sub hl [1, 2, 3, 0] rfl) hf
        · have hf := it_e c6 hf
          refine lv_iconst (v := 0) hx hb dX10_areLids_19 (by decide) ?_
          obtain rfl := Option.some.inj hf
          rw [← hQ]
          exact e_zR hx hb hr rfl bz0 hS hlocks dX10_areLids_20
  refine key2 _ (fun x2 C H locs ls hP hS h0 h5 hl hf => ?_) FU 0 C H locs ls hP hS h0 h5 (lv_sub hl [1, 2, 3, 0] rfl) hf
  refine lv_iconst (v := 1) hx hb dX10_areLids_27 (by decide) ?_
  obtain rfl := Option.some.inj hf
  rw [← hQ]
  exact e_zR hx hb hr rfl bz1 hS hlocks dX10_areLids_28

def f_X10_isShyness (p0 : Int32) : Option (Int32) :=
  if p0 < (-1) then
    some (0)
  else
    if 999 < p0 then
      some (0)
    else
      some (1)
abbrev rmX10_isShyness : Room := { frames := 0, cells := 0, slots := 0, locals := 0 }
set_option maxHeartbeats 4000000 in
set_option maxRecDepth 100000 in
theorem c_X10_isShyness {l : Launch} {sz : Nat}  {p0 : Int32} {rr : Int32} (hf : f_X10_isShyness p0 = some rr) : Met l yX10_isShyness wsX10_isShyness rmX10_isShyness (PcS sz [.int p0]) (QiR sz bz rr) 0 0 (An sz) := by
  refine Met.ofW (cc := cX10_isShyness) (maxL := 1) (ret := (some .boolean)) (by decide) rfl ?_
  intro p e s m args below meth c s₁ B hml hv
  obtain ⟨hav, hsz⟩ := hv
  subst hsz
  have hx := B.exec
  have hb := B.bytes
  have hr := B.returns
  have hts := atoms_spec (ws := wsX10_isShyness) B.pre
  have hown : s.vm.findClass RX10 = some m.cls := findClass_of_methodNamed B.named
  have hlocks := B.notSynchronized
  generalize hQ : MQ below (QiR s.heap.size bz rr) args s 0 0 (An s.heap.size) = QQ
  have hS : va_S (An s.heap.size) s.heap s.heap [] := va_S.rf
  have hA : ∀ q, s.heap.size ≤ q → (An s.heap.size) q := fun q h => h
  have hE := lg_entry_eq m [.int p0] 1
  rw [← hav] at hE
  rw [hE]
  have hl := lv_entry [.int p0] (n := 1) (Nat.le_of_ble_eq_true rfl)
  generalize (lg_sl [.int p0] ++ List.replicate (1 - (lg_sl [.int p0]).length) Slot.unset).toArray = ls at hl ⊢
  have hl : lv_has ls 1 [(0, .int p0)] := hl
  clear hE
  unfold f_X10_isShyness at hf
  suffices hgo : ∀ (H : Heap) (locs : List Loc), va_S (An s.heap.size) s.heap H locs → W p l e (headSpec wsX10_isShyness rmX10_isShyness).room s m args below meth c H locs 0 0 QQ (F0 m 0 ls []) from hgo s.heap [] hS
  clear hS
  intro H locs hS
  refine lv_iload_n hx hb dX10_isShyness_0 rfl (lv_at hl 0 rfl) ?_
  refine lv_iconst (v := (-1)) hx hb dX10_isShyness_1 (by decide) ?_
  refine lv_icmp_lt (tgt := 16) hx hb dX10_isShyness_2 (by decide) (fun c1 => ?_) (fun c1 => ?_)
  · have hf := it_e c1 hf
    refine lv_iconst (v := 0) hx hb dX10_isShyness_16 (by decide) ?_
    obtain rfl := Option.some.inj hf
    rw [← hQ]
    exact e_zR hx hb hr rfl bz0 hS hlocks dX10_isShyness_17
  · have hf := ie_e c1 hf
    refine lv_iload_n hx hb dX10_isShyness_5 rfl (lv_at hl 0 rfl) ?_
    refine lv_sipush (v := 999) hx hb dX10_isShyness_6 (by decide) ?_
    refine lv_icmp_gt (tgt := 16) hx hb dX10_isShyness_9 (by decide) (fun c2 => ?_) (fun c2 => ?_)
    · have hf := it_e c2 hf
      refine lv_iconst (v := 0) hx hb dX10_isShyness_16 (by decide) ?_
      obtain rfl := Option.some.inj hf
      rw [← hQ]
      exact e_zR hx hb hr rfl bz0 hS hlocks dX10_isShyness_17
    · have hf := ie_e c2 hf
      refine lv_iconst (v := 1) hx hb dX10_isShyness_12 (by decide) ?_
      refine lv_goto (tgt := 17) hx hb dX10_isShyness_13 (by decide) ?_
      obtain rfl := Option.some.inj hf
      rw [← hQ]
      exact e_zR hx hb hr rfl bz1 hS hlocks dX10_isShyness_17

def f_X10_row (p0 : Int32) (p1 : Int32) (p2 : Int32) (p3 : Int32) (t_down : Nat → Int32) (t_pac : Nat → Int32) (t_there : Int32) (w_src : Int32) (w_over : Nat → Int32) (l_kinds : Nat → Int32) : Option (Int32 × (Nat → Int32)) :=
  if p1 < 1 then
    some ((-3), l_kinds)
  else
    if p1 ≤ 8 then
      (f_X10_areLids p0 p1 t_there).bind fun q3 =>
      if q3 = 0 then
        some ((-2), l_kinds)
      else
        (f_X10_isPart p3).bind fun q5 =>
        if q5 = 0 then
          some ((-3), l_kinds)
        else
          (f_X10_isShyness p2).bind fun q7 =>
          if q7 = 0 then
            some ((-3), l_kinds)
          else
            if p3 = 0 then
              (f_X3_kindsIn p0 p1 p2 t_down t_pac w_src w_over l_kinds).bind fun q11 =>
              some (q11.1, q11.2)
            else
              (f_X3_largestIn p0 p1 p2 t_down t_pac w_src w_over l_kinds).bind fun q10 =>
              some (q10.1, q10.2)
    else
      some ((-3), l_kinds)
abbrev rmX10_row : Room := { frames := 4, cells := 0, slots := 0, locals := 104 }
set_option maxHeartbeats 4000000 in
set_option maxRecDepth 100000 in
theorem c_X10_row {l : Launch} {D : va_G} {g : Nat → ClassId} {ad : Nat → Nat} {C : Nat → va_E} {sz : Nat} {t_there : Int32} {t_lift : Int32} {t_none : Int32} {t_down : Nat → Int32} {t_pac : Nat → Int32} {w_src : Int32} {w_over : Nat → Int32} {l_kinds : Nat → Int32} {p0 : Int32} {p1 : Int32} {p2 : Int32} {p3 : Int32} {rr : Int32 × (Nat → Int32)} (hI : Inj 109 ad) (h0 : C 0 = .inr (10, [.ref (ad 1), .ref (ad 5), .ref (ad 19), .ref (ad 21), .ref (ad 60), .ref (ad 77), .ref (ad 81), .ref (ad 84), .ref (ad 85)])) (h5 : C 5 = .inr (7, [.ref (ad 6), .ref (ad 7), .ref (ad 8), .ref (ad 9), .ref (ad 10), .ref (ad 11), .ref (ad 12), .ref (ad 13), .ref (ad 14), .ref (ad 15), .ref (ad 16), .ref (ad 17), .ref (ad 18), .int t_there, .int t_lift, .int t_none])) (h6 : C 6 = aI g 12 t_down) (h8 : C 8 = aI g 12 t_pac) (h19 : C 19 = .inr (9, [.ref (ad 5), .ref (ad 20), .int w_src])) (h20 : C 20 = aI g 12 w_over) (h81 : C 81 = .inr (3, [.ref (ad 5), .ref (ad 19), .ref (ad 82), .ref (ad 83)])) (h82 : C 82 = aI g 12 l_kinds) (hf : f_X10_row p0 p1 p2 p3 t_down t_pac t_there w_src w_over l_kinds = some rr) : Met l yX10_row wsX10_row rmX10_row (PcW D g 109 ad C sz [.ref (ad 0), .int p0, .int p1, .int p2, .int p3]) (QiW D 109 ad sz tP rr.1 (fun C' => (∀ i : Nat, i ≠ 82 → C' i = C i) ∧ (C' 82 = aI g 12 rr.2))) 0 0 (Aw 109 ad sz) := by
  refine Met.ofW (cc := cX10_row) (maxL := 5) (ret := (some .int)) (by decide) rfl ?_
  intro p e s m args below meth c s₁ B hml hv
  obtain ⟨hav, hsz, hK, hP⟩ := hv
  subst hsz
  have hx := B.exec
  have hb := B.bytes
  have hr := B.returns
  have hts := atoms_spec (ws := wsX10_row) B.pre
  have hown : s.vm.findClass RX10 = some m.cls := findClass_of_methodNamed B.named
  have hlocks := B.notSynchronized
  generalize hQ : MQ below (QiW D 109 ad s.heap.size tP rr.1 (fun C' => (∀ i : Nat, i ≠ 82 → C' i = C i) ∧ (C' 82 = aI g 12 rr.2))) args s 0 0 (Aw 109 ad s.heap.size) = QQ
  have hS : va_S (Aw 109 ad s.heap.size) s.heap s.heap [] := va_S.rf
  have hA : ∀ q, s.heap.size ≤ q → (Aw 109 ad s.heap.size) q := fun q h => Or.inr h
  have hAd : ∀ j : Nat, j < 109 → (Aw 109 ad s.heap.size) (ad j) := fun j h => Or.inl ⟨j, h, rfl⟩
  obtain ⟨C0, hC0⟩ : ∃ C0 : Nat → va_E, C0 = C := ⟨_, rfl⟩
  have hag : ∀ i : Nat, i ≠ 82 → C i = C0 i := fun i _ => by rw [hC0]
  rw [← hC0] at hQ
  have k0 := hts (.fieldLink RX10 60 "UpDrain" "lids" "LUpDrain$Lids;") (List.mem_of_getElem? (i := 1) rfl)
  have nX10 : ∀ w ∈ u_ws RX10 TX10 9, w ∈ wsX10_row := fun _ h => List.mem_cons_of_mem _ (List.mem_append_left _ (List.mem_append_left _ (List.mem_append_left _ (List.mem_append_right _ h))))
  have hE := lg_entry_eq m [.ref (ad 0), .int p0, .int p1, .int p2, .int p3] 5
  rw [← hav] at hE
  rw [hE]
  have hl := lv_entry [.ref (ad 0), .int p0, .int p1, .int p2, .int p3] (n := 5) (Nat.le_of_ble_eq_true rfl)
  generalize (lg_sl [.ref (ad 0), .int p0, .int p1, .int p2, .int p3] ++ List.replicate (5 - (lg_sl [.ref (ad 0), .int p0, .int p1, .int p2, .int p3]).length) Slot.unset).toArray = ls at hl ⊢
  have hl : lv_has ls 5 [(0, .ref (ad 0)), (1, .int p0), (2, .int p1), (3, .int p2), (4, .int p3)] := hl
  clear hE
  unfold f_X10_row at hf
  suffices hgo : ∀ (H : Heap) (locs : List Loc), va_P D vwCl (wd 109 ad C) H → va_S (Aw 109 ad s.heap.size) s.heap H locs → W p l e (headSpec wsX10_row rmX10_row).room s m args below meth c H locs 0 0 QQ (F0 m 0 ls []) from hgo s.heap [] hP hS
  clear hS hP
  intro H locs hP hS
  refine lv_iload_n hx hb dX10_row_0 rfl (lv_at hl 2 rfl) ?_
  refine lv_iconst (v := 1) hx hb dX10_row_1 (by decide) ?_
  refine lv_icmp_lt (tgt := 11) hx hb dX10_row_2 (by decide) (fun c1 => ?_) (fun c1 => ?_)
  · have hf := it_e c1 hf
    refine lv_bipush (v := (-3)) hx hb dX10_row_11 (by decide) ?_
    obtain rfl := Option.some.inj hf
    rw [← hQ]
    exact e_iW hx hb hr rfl (tP_i _) hP hS ⟨hag, h82⟩ hlocks dX10_row_13
  · have hf := ie_e c1 hf
    refine lv_iload_n hx hb dX10_row_5 rfl (lv_at hl 2 rfl) ?_
    refine lv_bipush (v := 8) hx hb dX10_row_6 (by decide) ?_
    refine lv_icmp_le (tgt := 14) hx hb dX10_row_8 (by decide) (fun c2 => ?_) (fun c2 => ?_)
    · have hf := it_e c2 hf
      refine lv_aload_n hx hb dX10_row_14 rfl (lv_at hl 0 rfl) ?_
      refine lv_iload_n hx hb dX10_row_15 rfl (lv_at hl 1 rfl) ?_
      refine lv_iload_n hx hb dX10_row_16 rfl (lv_at hl 2 rfl) ?_
      obtain ⟨q3, hq3, hf⟩ := bd_e hf
      refine k_iR (va_runV (C := RX10) (As := [.int p0, .int p1]) (rest := []) ⟨hx, hb, hml, hown, hts⟩ (c_X10_areLids (l := l) (sz := H.size) (p0 := p0) (p1 := p1) h0 h5 hq3) (cwV 2 hts gX10_row_X10_areLids rfl rfl rfl (by decide +kernel) ⟨Nat.le_of_ble_eq_true rfl, Nat.le_of_ble_eq_true rfl⟩) (preV_of hK hP (by decide) h0 rfl) rfl rfl hl.1 rfl (lv_room (Nat.le_of_ble_eq_true rfl)) dX10_row_17 ⟨Nat.le_refl _, Nat.le_refl _⟩) hA hP hS (fun H locs hP hS hbz_q3 => ?_)
      refine lv_if_ne (tgt := 26) hx hb dX10_row_20 (by decide) (fun c4 => ?_) (fun c4 => ?_)
      · have hf := ie_e c4 hf
        refine lv_iload hx hb dX10_row_26 (lv_at hl 4 rfl) ?_
        obtain ⟨q5, hq5, hf⟩ := bd_e hf
        refine k_iR (va_runS (As := [.int p3]) (rest := []) ⟨hx, hb, hml, hown, hts⟩ (c_X10_isPart (l := l) (sz := H.size) (p0 := p3) hq5) (va_cwS 1 hts gX10_row_X10_isPart rfl rfl rfl (by decide +kernel) ⟨Nat.le_of_ble_eq_true rfl, Nat.le_of_ble_eq_true rfl⟩) preS0 rfl rfl hl.1 rfl (lv_room (Nat.le_of_ble_eq_true rfl)) dX10_row_28 ⟨Nat.le_refl _, Nat.le_refl _⟩) hA hP hS (fun H locs hP hS hbz_q5 => ?_)
        refine lv_if_eq (tgt := 41) hx hb dX10_row_31 (by decide) (fun c6 => ?_) (fun c6 => ?_)
        · have hf := it_e c6 hf
          refine lv_bipush (v := (-3)) hx hb dX10_row_41 (by decide) ?_
          obtain rfl := Option.some.inj hf
          rw [← hQ]
          exact e_iW hx hb hr rfl (tP_i _) hP hS ⟨hag, h82⟩ hlocks dX10_row_43
        · have hf := ie_e c6 hf
          refine lv_iload_n hx hb dX10_row_34 rfl (lv_at hl 3 rfl) ?_
          obtain ⟨q7, hq7, hf⟩ := bd_e hf
          refine k_iR (va_runS (As := [.int p2]) (rest := []) ⟨hx, hb, hml, hown, hts⟩ (c_X10_isShyness (l := l) (sz := H.size) (p0 := p2) hq7) (va_cwS 1 hts gX10_row_X10_isShyness rfl rfl rfl (by decide +kernel) ⟨Nat.le_of_ble_eq_true rfl, Nat.le_of_ble_eq_true rfl⟩) preS0 rfl rfl hl.1 rfl (lv_room (Nat.le_of_ble_eq_true rfl)) dX10_row_35 ⟨Nat.le_refl _, Nat.le_refl _⟩) hA hP hS (fun H locs hP hS hbz_q7 => ?_)
          refine lv_if_ne (tgt := 44) hx hb dX10_row_38 (by decide) (fun c8 => ?_) (fun c8 => ?_)
          · have hf := ie_e c8 hf
            refine lv_iload hx hb dX10_row_44 (lv_at hl 4 rfl) ?_
            refine lv_if_ne (tgt := 62) hx hb dX10_row_46 (by decide) (fun c9 => ?_) (fun c9 => ?_)
            · have hf := ie_e c9 hf
              refine lv_aload_n hx hb dX10_row_62 rfl (lv_at hl 0 rfl) ?_
              refine r_get (own := RX10) (T := TX10) (n := 9) (ci := 10) (v := .ref (ad 81)) hx hb hts nX10 hown hK hP (by decide) h0 rfl 6 (by decide) k0 rfl dX10_row_63 ?_
              refine lv_iload_n hx hb dX10_row_66 rfl (lv_at hl 1 rfl) ?_
              refine lv_iload_n hx hb dX10_row_67 rfl (lv_at hl 2 rfl) ?_
              refine lv_iload_n hx hb dX10_row_68 rfl (lv_at hl 3 rfl) ?_
              obtain ⟨q10, hq10, hf⟩ := bd_e hf
              refine k_iW (va_runV (C := RX3) (As := [.int p0, .int p1, .int p2]) (rest := []) ⟨hx, hb, hml, hown, hts⟩ (c_X3_largestIn (l := l) (sz := H.size) (p0 := p0) (p1 := p1) (p2 := p2) hI h5 h6 h8 h19 h20 h81 h82 hq10) (cwV 3 hts gX10_row_X3_largestIn rfl rfl rfl (by decide +kernel) ⟨Nat.le_of_ble_eq_true rfl, Nat.le_of_ble_eq_true rfl⟩) (preV_of hK hP (by decide) h81 rfl) rfl rfl hl.1 rfl (lv_room (Nat.le_of_ble_eq_true rfl)) dX10_row_69 ⟨Nat.le_refl _, Nat.le_refl _⟩) hA hAd hS (fun C H locs hP hS hpo hbz_q10 => ?_)
              obtain ⟨he, h82⟩ := hpo
              have hag : ∀ i : Nat, i ≠ 82 → C i = C0 i := fun i h => (he i (by omega)).trans (hag i h)
              have h0 := (he 0 (by decide)).trans h0
              have h5 := (he 5 (by decide)).trans h5
              have h6 := (he 6 (by decide)).trans h6
              have h8 := (he 8 (by decide)).trans h8
              have h19 := (he 19 (by decide)).trans h19
              have h20 := (he 20 (by decide)).trans h20
              have h81 := (he 81 (by decide)).trans h81
              obtain rfl := Option.some.inj hf
              rw [← hQ]
              exact e_iW hx hb hr rfl (tP_i _) hP hS ⟨hag, h82⟩ hlocks dX10_row_72
            · have hf := it_e c9 hf
              refine lv_aload_n hx hb dX10_row_49 rfl (lv_at hl 0 rfl) ?_
              refine r_get (own := RX10) (T := TX10) (n := 9) (ci := 10) (v := .ref (ad 81)) hx hb hts nX10 hown hK hP (by decide) h0 rfl 6 (by decide) k0 rfl dX10_row_50 ?_
              refine lv_iload_n hx hb dX10_row_53 rfl (lv_at hl 1 rfl) ?_
              refine lv_iload_n hx hb dX10_row_54 rfl (lv_at hl 2 rfl) ?_
              refine lv_iload_n hx hb dX10_row_55 rfl (lv_at hl 3 rfl) ?_
              obtain ⟨q11, hq11, hf⟩ := bd_e hf
              refine k_iW (va_runV (C := RX3) (As := [.int p0, .int p1, .int p2]) (rest := []) ⟨hx, hb, hml, hown, hts⟩ (c_X3_kindsIn (l := l) (sz := H.size) (p0 := p0) (p1 := p1) (p2 := p2) hI h5 h6 h8 h19 h20 h81 h82 hq11) (cwV 3 hts gX10_row_X3_kindsIn rfl rfl rfl (by decide +kernel) ⟨Nat.le_of_ble_eq_true rfl, Nat.le_of_ble_eq_true rfl⟩) (preV_of hK hP (by decide) h81 rfl) rfl rfl hl.1 rfl (lv_room (Nat.le_of_ble_eq_true rfl)) dX10_row_56 ⟨Nat.le_refl _, Nat.le_refl _⟩) hA hAd hS (fun C H locs hP hS hpo hbz_q11 => ?_)
              obtain ⟨he, h82⟩ := hpo
              have hag : ∀ i : Nat, i ≠ 82 → C i = C0 i := fun i h => (he i (by omega)).trans (hag i h)
              have h0 := (he 0 (by decide)).trans h0
              have h5 := (he 5 (by decide)).trans h5
              have h6 := (he 6 (by decide)).trans h6
              have h8 := (he 8 (by decide)).trans h8
              have h19 := (he 19 (by decide)).trans h19
              have h20 := (he 20 (by decide)).trans h20
              have h81 := (he 81 (by decide)).trans h81
              refine lv_goto (tgt := 72) hx hb dX10_row_59 (by decide) ?_
              obtain rfl := Option.some.inj hf
              rw [← hQ]
              exact e_iW hx hb hr rfl (tP_i _) hP hS ⟨hag, h82⟩ hlocks dX10_row_72
          · have hf := it_e c8 hf
            refine lv_bipush (v := (-3)) hx hb dX10_row_41 (by decide) ?_
            obtain rfl := Option.some.inj hf
            rw [← hQ]
            exact e_iW hx hb hr rfl (tP_i _) hP hS ⟨hag, h82⟩ hlocks dX10_row_43
      · have hf := it_e c4 hf
        refine lv_bipush (v := (-2)) hx hb dX10_row_23 (by decide) ?_
        obtain rfl := Option.some.inj hf
        rw [← hQ]
        exact e_iW hx hb hr rfl (tP_i _) hP hS ⟨hag, h82⟩ hlocks dX10_row_25
    · have hf := ie_e c2 hf
      refine lv_bipush (v := (-3)) hx hb dX10_row_11 (by decide) ?_
      obtain rfl := Option.some.inj hf
      rw [← hQ]
      exact e_iW hx hb hr rfl (tP_i _) hP hS ⟨hag, h82⟩ hlocks dX10_row_13

def f_X10_answers (p0 : Int32) (p1 : Int32) (p2 : Int32) (p3 : Int32) (t_down : Nat → Int32) (t_pac : Nat → Int32) (t_there : Int32) (w_src : Int32) (w_over : Nat → Int32) : Option (Int32) :=
  if p2 < 1 then
    some ((-3))
  else
    if p2 ≤ 8 then
      (f_X10_isSource p0 t_there w_src).bind fun q3 =>
      if q3 = 0 then
        some ((-2))
      else
        (f_X10_areLids p1 p2 t_there).bind fun q5 =>
        if q5 = 0 then
          some ((-2))
        else
          (f_X10_isShyness p3).bind fun q7 =>
          if q7 = 0 then
            some ((-3))
          else
            (f_X3_answersOf p0 p1 p2 p3 t_down t_pac w_over).bind fun q9 =>
            some (q9)
    else
      some ((-3))
abbrev rmX10_answers : Room := { frames := 3, cells := 0, slots := 0, locals := 65 }
set_option maxHeartbeats 4000000 in
set_option maxRecDepth 100000 in
theorem c_X10_answers {l : Launch} {D : va_G} {g : Nat → ClassId} {ad : Nat → Nat} {C : Nat → va_E} {sz : Nat} {t_there : Int32} {t_lift : Int32} {t_none : Int32} {t_down : Nat → Int32} {t_pac : Nat → Int32} {w_src : Int32} {w_over : Nat → Int32} {p0 : Int32} {p1 : Int32} {p2 : Int32} {p3 : Int32} {rr : Int32} (h0 : C 0 = .inr (10, [.ref (ad 1), .ref (ad 5), .ref (ad 19), .ref (ad 21), .ref (ad 60), .ref (ad 77), .ref (ad 81), .ref (ad 84), .ref (ad 85)])) (h5 : C 5 = .inr (7, [.ref (ad 6), .ref (ad 7), .ref (ad 8), .ref (ad 9), .ref (ad 10), .ref (ad 11), .ref (ad 12), .ref (ad 13), .ref (ad 14), .ref (ad 15), .ref (ad 16), .ref (ad 17), .ref (ad 18), .int t_there, .int t_lift, .int t_none])) (h6 : C 6 = aI g 12 t_down) (h8 : C 8 = aI g 12 t_pac) (h19 : C 19 = .inr (9, [.ref (ad 5), .ref (ad 20), .int w_src])) (h20 : C 20 = aI g 12 w_over) (h81 : C 81 = .inr (3, [.ref (ad 5), .ref (ad 19), .ref (ad 82), .ref (ad 83)])) (hf : f_X10_answers p0 p1 p2 p3 t_down t_pac t_there w_src w_over = some rr) : Met l yX10_answers wsX10_answers rmX10_answers (PcW D g 109 ad C sz [.ref (ad 0), .int p0, .int p1, .int p2, .int p3]) (QiR sz tP rr) 0 0 (An sz) := by
  refine Met.ofW (cc := cX10_answers) (maxL := 5) (ret := (some .int)) (by decide) rfl ?_
  intro p e s m args below meth c s₁ B hml hv
  obtain ⟨hav, hsz, hK, hP⟩ := hv
  subst hsz
  have hx := B.exec
  have hb := B.bytes
  have hr := B.returns
  have hts := atoms_spec (ws := wsX10_answers) B.pre
  have hown : s.vm.findClass RX10 = some m.cls := findClass_of_methodNamed B.named
  have hlocks := B.notSynchronized
  generalize hQ : MQ below (QiR s.heap.size tP rr) args s 0 0 (An s.heap.size) = QQ
  have hS : va_S (An s.heap.size) s.heap s.heap [] := va_S.rf
  have hA : ∀ q, s.heap.size ≤ q → (An s.heap.size) q := fun q h => h
  have k0 := hts (.fieldLink RX10 60 "UpDrain" "lids" "LUpDrain$Lids;") (List.mem_of_getElem? (i := 1) rfl)
  have nX10 : ∀ w ∈ u_ws RX10 TX10 9, w ∈ wsX10_answers := fun _ h => List.mem_cons_of_mem _ (List.mem_append_left _ (List.mem_append_left _ (List.mem_append_left _ (List.mem_append_right _ h))))
  have hE := lg_entry_eq m [.ref (ad 0), .int p0, .int p1, .int p2, .int p3] 5
  rw [← hav] at hE
  rw [hE]
  have hl := lv_entry [.ref (ad 0), .int p0, .int p1, .int p2, .int p3] (n := 5) (Nat.le_of_ble_eq_true rfl)
  generalize (lg_sl [.ref (ad 0), .int p0, .int p1, .int p2, .int p3] ++ List.replicate (5 - (lg_sl [.ref (ad 0), .int p0, .int p1, .int p2, .int p3]).length) Slot.unset).toArray = ls at hl ⊢
  have hl : lv_has ls 5 [(0, .ref (ad 0)), (1, .int p0), (2, .int p1), (3, .int p2), (4, .int p3)] := hl
  clear hE
  unfold f_X10_answers at hf
  suffices hgo : ∀ (H : Heap) (locs : List Loc), va_P D vwCl (wd 109 ad C) H → va_S (An s.heap.size) s.heap H locs → W p l e (headSpec wsX10_answers rmX10_answers).room s m args below meth c H locs 0 0 QQ (F0 m 0 ls []) from hgo s.heap [] hP hS
  clear hS hP
  intro H locs hP hS
  refine lv_iload_n hx hb dX10_answers_0 rfl (lv_at hl 3 rfl) ?_
  refine lv_iconst (v := 1) hx hb dX10_answers_1 (by decide) ?_
  refine lv_icmp_lt (tgt := 11) hx hb dX10_answers_2 (by decide) (fun c1 => ?_) (fun c1 => ?_)
  · have hf := it_e c1 hf
    refine lv_bipush (v := (-3)) hx hb dX10_answers_11 (by decide) ?_
    obtain rfl := Option.some.inj hf
    rw [← hQ]
    exact e_iR hx hb hr rfl (tP_i _) hS hlocks dX10_answers_13
  · have hf := ie_e c1 hf
    refine lv_iload_n hx hb dX10_answers_5 rfl (lv_at hl 3 rfl) ?_
    refine lv_bipush (v := 8) hx hb dX10_answers_6 (by decide) ?_
    refine lv_icmp_le (tgt := 14) hx hb dX10_answers_8 (by decide) (fun c2 => ?_) (fun c2 => ?_)
    · have hf := it_e c2 hf
      refine lv_aload_n hx hb dX10_answers_14 rfl (lv_at hl 0 rfl) ?_
      refine lv_iload_n hx hb dX10_answers_15 rfl (lv_at hl 1 rfl) ?_
      obtain ⟨q3, hq3, hf⟩ := bd_e hf
      refine k_iR (va_runV (C := RX10) (As := [.int p0]) (rest := []) ⟨hx, hb, hml, hown, hts⟩ (c_X10_isSource (l := l) (sz := H.size) (p0 := p0) h0 h5 h19 hq3) (cwV 1 hts gX10_answers_X10_isSource rfl rfl rfl (by decide +kernel) ⟨Nat.le_of_ble_eq_true rfl, Nat.le_of_ble_eq_true rfl⟩) (preV_of hK hP (by decide) h0 rfl) rfl rfl hl.1 rfl (lv_room (Nat.le_of_ble_eq_true rfl)) dX10_answers_16 ⟨Nat.le_refl _, Nat.le_refl _⟩) hA hP hS (fun H locs hP hS hbz_q3 => ?_)
      refine lv_if_eq (tgt := 31) hx hb dX10_answers_19 (by decide) (fun c4 => ?_) (fun c4 => ?_)
      · have hf := it_e c4 hf
        refine lv_bipush (v := (-2)) hx hb dX10_answers_31 (by decide) ?_
        obtain rfl := Option.some.inj hf
        rw [← hQ]
        exact e_iR hx hb hr rfl (tP_i _) hS hlocks dX10_answers_33
      · have hf := ie_e c4 hf
        refine lv_aload_n hx hb dX10_answers_22 rfl (lv_at hl 0 rfl) ?_
        refine lv_iload_n hx hb dX10_answers_23 rfl (lv_at hl 2 rfl) ?_
        refine lv_iload_n hx hb dX10_answers_24 rfl (lv_at hl 3 rfl) ?_
        obtain ⟨q5, hq5, hf⟩ := bd_e hf
        refine k_iR (va_runV (C := RX10) (As := [.int p1, .int p2]) (rest := []) ⟨hx, hb, hml, hown, hts⟩ (c_X10_areLids (l := l) (sz := H.size) (p0 := p1) (p1 := p2) h0 h5 hq5) (cwV 2 hts gX10_answers_X10_areLids rfl rfl rfl (by decide +kernel) ⟨Nat.le_of_ble_eq_true rfl, Nat.le_of_ble_eq_true rfl⟩) (preV_of hK hP (by decide) h0 rfl) rfl rfl hl.1 rfl (lv_room (Nat.le_of_ble_eq_true rfl)) dX10_answers_25 ⟨Nat.le_refl _, Nat.le_refl _⟩) hA hP hS (fun H locs hP hS hbz_q5 => ?_)
        refine lv_if_ne (tgt := 34) hx hb dX10_answers_28 (by decide) (fun c6 => ?_) (fun c6 => ?_)
        · have hf := ie_e c6 hf
          refine lv_iload hx hb dX10_answers_34 (lv_at hl 4 rfl) ?_
          obtain ⟨q7, hq7, hf⟩ := bd_e hf
          refine k_iR (va_runS (As := [.int p3]) (rest := []) ⟨hx, hb, hml, hown, hts⟩ (c_X10_isShyness (l := l) (sz := H.size) (p0 := p3) hq7) (va_cwS 1 hts gX10_answers_X10_isShyness rfl rfl rfl (by decide +kernel) ⟨Nat.le_of_ble_eq_true rfl, Nat.le_of_ble_eq_true rfl⟩) preS0 rfl rfl hl.1 rfl (lv_room (Nat.le_of_ble_eq_true rfl)) dX10_answers_36 ⟨Nat.le_refl _, Nat.le_refl _⟩) hA hP hS (fun H locs hP hS hbz_q7 => ?_)
          refine lv_if_eq (tgt := 57) hx hb dX10_answers_39 (by decide) (fun c8 => ?_) (fun c8 => ?_)
          · have hf := it_e c8 hf
            refine lv_bipush (v := (-3)) hx hb dX10_answers_57 (by decide) ?_
            obtain rfl := Option.some.inj hf
            rw [← hQ]
            exact e_iR hx hb hr rfl (tP_i _) hS hlocks dX10_answers_59
          · have hf := ie_e c8 hf
            refine lv_aload_n hx hb dX10_answers_42 rfl (lv_at hl 0 rfl) ?_
            refine r_get (own := RX10) (T := TX10) (n := 9) (ci := 10) (v := .ref (ad 81)) hx hb hts nX10 hown hK hP (by decide) h0 rfl 6 (by decide) k0 rfl dX10_answers_43 ?_
            refine lv_iload_n hx hb dX10_answers_46 rfl (lv_at hl 1 rfl) ?_
            refine lv_iload_n hx hb dX10_answers_47 rfl (lv_at hl 2 rfl) ?_
            refine lv_iload_n hx hb dX10_answers_48 rfl (lv_at hl 3 rfl) ?_
            refine lv_iload hx hb dX10_answers_49 (lv_at hl 4 rfl) ?_
            obtain ⟨q9, hq9, hf⟩ := bd_e hf
            refine k_iR (va_runV (C := RX3) (As := [.int p0, .int p1, .int p2, .int p3]) (rest := []) ⟨hx, hb, hml, hown, hts⟩ (c_X3_answersOf (l := l) (sz := H.size) (p0 := p0) (p1 := p1) (p2 := p2) (p3 := p3) h5 h6 h8 h19 h20 h81 hq9) (cwV 4 hts gX10_answers_X3_answersOf rfl rfl rfl (by decide +kernel) ⟨Nat.le_of_ble_eq_true rfl, Nat.le_of_ble_eq_true rfl⟩) (preV_of hK hP (by decide) h81 rfl) rfl rfl hl.1 rfl (lv_room (Nat.le_of_ble_eq_true rfl)) dX10_answers_51 ⟨Nat.le_refl _, Nat.le_refl _⟩) hA hP hS (fun H locs hP hS hbz_q9 => ?_)
            refine lv_goto (tgt := 59) hx hb dX10_answers_54 (by decide) ?_
            obtain rfl := Option.some.inj hf
            rw [← hQ]
            exact e_iR hx hb hr rfl (tP_i _) hS hlocks dX10_answers_59
        · have hf := it_e c6 hf
          refine lv_bipush (v := (-2)) hx hb dX10_answers_31 (by decide) ?_
          obtain rfl := Option.some.inj hf
          rw [← hQ]
          exact e_iR hx hb hr rfl (tP_i _) hS hlocks dX10_answers_33
    · have hf := ie_e c2 hf
      refine lv_bipush (v := (-3)) hx hb dX10_answers_11 (by decide) ?_
      obtain rfl := Option.some.inj hf
      rw [← hQ]
      exact e_iR hx hb hr rfl (tP_i _) hS hlocks dX10_answers_13

def f_X10_hang (p0 : Int32) (t_down : Nat → Int32) (t_pac : Nat → Int32) (t_there : Int32) (w_src : Int32) (w_over : Nat → Int32) (l_unl : Nat → Int32) : Option (Int32 × (Nat → Int32)) :=
  if p0 < 0 then
    some ((-3), l_unl)
  else
    if p0 ≤ 999 then
      (f_X3_fewestToHang p0 t_down t_pac t_there w_src w_over l_unl).bind fun q3 =>
      some (q3.1, q3.2)
    else
      some ((-3), l_unl)
abbrev rmX10_hang : Room := { frames := 4, cells := 0, slots := 0, locals := 95 }
set_option maxHeartbeats 4000000 in
set_option maxRecDepth 100000 in
theorem c_X10_hang {l : Launch} {D : va_G} {g : Nat → ClassId} {ad : Nat → Nat} {C : Nat → va_E} {sz : Nat} {t_there : Int32} {t_lift : Int32} {t_none : Int32} {t_down : Nat → Int32} {t_pac : Nat → Int32} {w_src : Int32} {w_over : Nat → Int32} {l_unl : Nat → Int32} {p0 : Int32} {rr : Int32 × (Nat → Int32)} (hI : Inj 109 ad) (h0 : C 0 = .inr (10, [.ref (ad 1), .ref (ad 5), .ref (ad 19), .ref (ad 21), .ref (ad 60), .ref (ad 77), .ref (ad 81), .ref (ad 84), .ref (ad 85)])) (h5 : C 5 = .inr (7, [.ref (ad 6), .ref (ad 7), .ref (ad 8), .ref (ad 9), .ref (ad 10), .ref (ad 11), .ref (ad 12), .ref (ad 13), .ref (ad 14), .ref (ad 15), .ref (ad 16), .ref (ad 17), .ref (ad 18), .int t_there, .int t_lift, .int t_none])) (h6 : C 6 = aI g 12 t_down) (h8 : C 8 = aI g 12 t_pac) (h19 : C 19 = .inr (9, [.ref (ad 5), .ref (ad 20), .int w_src])) (h20 : C 20 = aI g 12 w_over) (h81 : C 81 = .inr (3, [.ref (ad 5), .ref (ad 19), .ref (ad 82), .ref (ad 83)])) (h83 : C 83 = aI g 66 l_unl) (hf : f_X10_hang p0 t_down t_pac t_there w_src w_over l_unl = some rr) : Met l yX10_hang wsX10_hang rmX10_hang (PcW D g 109 ad C sz [.ref (ad 0), .int p0]) (QiW D 109 ad sz tP rr.1 (fun C' => (∀ i : Nat, i ≠ 83 → C' i = C i) ∧ (C' 83 = aI g 66 rr.2))) 0 0 (Aw 109 ad sz) := by
  refine Met.ofW (cc := cX10_hang) (maxL := 2) (ret := (some .int)) (by decide) rfl ?_
  intro p e s m args below meth c s₁ B hml hv
  obtain ⟨hav, hsz, hK, hP⟩ := hv
  subst hsz
  have hx := B.exec
  have hb := B.bytes
  have hr := B.returns
  have hts := atoms_spec (ws := wsX10_hang) B.pre
  have hown : s.vm.findClass RX10 = some m.cls := findClass_of_methodNamed B.named
  have hlocks := B.notSynchronized
  generalize hQ : MQ below (QiW D 109 ad s.heap.size tP rr.1 (fun C' => (∀ i : Nat, i ≠ 83 → C' i = C i) ∧ (C' 83 = aI g 66 rr.2))) args s 0 0 (Aw 109 ad s.heap.size) = QQ
  have hS : va_S (Aw 109 ad s.heap.size) s.heap s.heap [] := va_S.rf
  have hA : ∀ q, s.heap.size ≤ q → (Aw 109 ad s.heap.size) q := fun q h => Or.inr h
  have hAd : ∀ j : Nat, j < 109 → (Aw 109 ad s.heap.size) (ad j) := fun j h => Or.inl ⟨j, h, rfl⟩
  obtain ⟨C0, hC0⟩ : ∃ C0 : Nat → va_E, C0 = C := ⟨_, rfl⟩
  have hag : ∀ i : Nat, i ≠ 83 → C i = C0 i := fun i _ => by rw [hC0]
  rw [← hC0] at hQ
  have k0 := hts (.fieldLink RX10 60 "UpDrain" "lids" "LUpDrain$Lids;") (List.mem_of_getElem? (i := 1) rfl)
  have nX10 : ∀ w ∈ u_ws RX10 TX10 9, w ∈ wsX10_hang := fun _ h => List.mem_cons_of_mem _ (List.mem_append_left _ (List.mem_append_left _ (List.mem_append_left _ (List.mem_append_right _ h))))
  have hE := lg_entry_eq m [.ref (ad 0), .int p0] 2
  rw [← hav] at hE
  rw [hE]
  have hl := lv_entry [.ref (ad 0), .int p0] (n := 2) (Nat.le_of_ble_eq_true rfl)
  generalize (lg_sl [.ref (ad 0), .int p0] ++ List.replicate (2 - (lg_sl [.ref (ad 0), .int p0]).length) Slot.unset).toArray = ls at hl ⊢
  have hl : lv_has ls 2 [(0, .ref (ad 0)), (1, .int p0)] := hl
  clear hE
  unfold f_X10_hang at hf
  suffices hgo : ∀ (H : Heap) (locs : List Loc), va_P D vwCl (wd 109 ad C) H → va_S (Aw 109 ad s.heap.size) s.heap H locs → W p l e (headSpec wsX10_hang rmX10_hang).room s m args below meth c H locs 0 0 QQ (F0 m 0 ls []) from hgo s.heap [] hP hS
  clear hS hP
  intro H locs hP hS
  refine lv_iload_n hx hb dX10_hang_0 rfl (lv_at hl 1 rfl) ?_
  refine lv_if_lt (tgt := 11) hx hb dX10_hang_1 (by decide) (fun c1 => ?_) (fun c1 => ?_)
  · have hf := it_e c1 hf
    refine lv_bipush (v := (-3)) hx hb dX10_hang_11 (by decide) ?_
    refine lv_goto (tgt := 24) hx hb dX10_hang_13 (by decide) ?_
    obtain rfl := Option.some.inj hf
    rw [← hQ]
    exact e_iW hx hb hr rfl (tP_i _) hP hS ⟨hag, h83⟩ hlocks dX10_hang_24
  · have hf := ie_e c1 hf
    refine lv_iload_n hx hb dX10_hang_4 rfl (lv_at hl 1 rfl) ?_
    refine lv_sipush (v := 999) hx hb dX10_hang_5 (by decide) ?_
    refine lv_icmp_le (tgt := 16) hx hb dX10_hang_8 (by decide) (fun c2 => ?_) (fun c2 => ?_)
    · have hf := it_e c2 hf
      refine lv_aload_n hx hb dX10_hang_16 rfl (lv_at hl 0 rfl) ?_
      refine r_get (own := RX10) (T := TX10) (n := 9) (ci := 10) (v := .ref (ad 81)) hx hb hts nX10 hown hK hP (by decide) h0 rfl 6 (by decide) k0 rfl dX10_hang_17 ?_
      refine lv_iload_n hx hb dX10_hang_20 rfl (lv_at hl 1 rfl) ?_
      obtain ⟨q3, hq3, hf⟩ := bd_e hf
      refine k_iW (va_runV (C := RX3) (As := [.int p0]) (rest := []) ⟨hx, hb, hml, hown, hts⟩ (c_X3_fewestToHang (l := l) (sz := H.size) (p0 := p0) hI h5 h6 h8 h19 h20 h81 h83 hq3) (cwV 1 hts gX10_hang_X3_fewestToHang rfl rfl rfl (by decide +kernel) ⟨Nat.le_of_ble_eq_true rfl, Nat.le_of_ble_eq_true rfl⟩) (preV_of hK hP (by decide) h81 rfl) rfl rfl hl.1 rfl (lv_room (Nat.le_of_ble_eq_true rfl)) dX10_hang_21 ⟨Nat.le_refl _, Nat.le_refl _⟩) hA hAd hS (fun C H locs hP hS hpo hbz_q3 => ?_)
      obtain ⟨he, h83⟩ := hpo
      have hag : ∀ i : Nat, i ≠ 83 → C i = C0 i := fun i h => (he i (by omega)).trans (hag i h)
      have h0 := (he 0 (by decide)).trans h0
      have h5 := (he 5 (by decide)).trans h5
      have h6 := (he 6 (by decide)).trans h6
      have h8 := (he 8 (by decide)).trans h8
      have h19 := (he 19 (by decide)).trans h19
      have h20 := (he 20 (by decide)).trans h20
      have h81 := (he 81 (by decide)).trans h81
      obtain rfl := Option.some.inj hf
      rw [← hQ]
      exact e_iW hx hb hr rfl (tP_i _) hP hS ⟨hag, h83⟩ hlocks dX10_hang_24
    · have hf := ie_e c2 hf
      refine lv_bipush (v := (-3)) hx hb dX10_hang_11 (by decide) ?_
      refine lv_goto (tgt := 24) hx hb dX10_hang_13 (by decide) ?_
      obtain rfl := Option.some.inj hf
      rw [← hQ]
      exact e_iW hx hb hr rfl (tP_i _) hP hS ⟨hag, h83⟩ hlocks dX10_hang_24

def f_X10_count (p0 : Int32) (tx_len : Int32) (t_pac : Nat → Int32) (t_there : Int32) (t_lift : Int32) (t_none : Int32) (w_src : Int32) (th_size : Int32) : Option (Int32) :=
  if p0 = 0 then
    (f_J6_bitCount_0f7a4 t_there).bind fun q2 =>
    some (q2)
  else if p0 = 1 then
    some (tx_len)
  else if p0 = 2 then
    (f_J6_bitCount_0f7a4 w_src).bind fun q5 =>
    some (q5)
  else if p0 = 3 then
    some (th_size)
  else if p0 = 4 then
    some (t_lift)
  else if p0 = 5 then
    some (t_none)
  else if p0 = 6 then
    (f_X9_allPaces t_pac t_there).bind fun q10 =>
    some (q10)
  else 
    some ((-3))
abbrev rmX10_count : Room := { frames := 2, cells := 0, slots := 0, locals := 43 }
set_option maxHeartbeats 4000000 in
set_option maxRecDepth 100000 in
theorem c_X10_count {l : Launch} {D : va_G} {g : Nat → ClassId} {ad : Nat → Nat} {C : Nat → va_E} {sz : Nat} {tx_len : Int32} {tx_lines : Int32} {tx_ts : Int32} {tx_te : Int32} {t_there : Int32} {t_lift : Int32} {t_none : Int32} {t_pac : Nat → Int32} {w_src : Int32} {th_none : Int64} {th_all1 : Int64} {th_all2 : Int64} {th_k1 : Int32} {th_k2 : Int32} {th_size : Int32} {p0 : Int32} {rr : Int32} (h0 : C 0 = .inr (10, [.ref (ad 1), .ref (ad 5), .ref (ad 19), .ref (ad 21), .ref (ad 60), .ref (ad 77), .ref (ad 81), .ref (ad 84), .ref (ad 85)])) (h1 : C 1 = .inr (5, [.ref (ad 2), .ref (ad 3), .ref (ad 4), .int tx_len, .int tx_lines, .int tx_ts, .int tx_te])) (h5 : C 5 = .inr (7, [.ref (ad 6), .ref (ad 7), .ref (ad 8), .ref (ad 9), .ref (ad 10), .ref (ad 11), .ref (ad 12), .ref (ad 13), .ref (ad 14), .ref (ad 15), .ref (ad 16), .ref (ad 17), .ref (ad 18), .int t_there, .int t_lift, .int t_none])) (h8 : C 8 = aI g 12 t_pac) (h19 : C 19 = .inr (9, [.ref (ad 5), .ref (ad 20), .int w_src])) (h60 : C 60 = .inr (6, [.ref (ad 5), .ref (ad 19), .ref (ad 21), .ref (ad 61), .ref (ad 62), .ref (ad 65), .ref (ad 66), .long th_none, .long th_all1, .long th_all2, .int th_k1, .int th_k2, .int th_size])) (hf : f_X10_count p0 tx_len t_pac t_there t_lift t_none w_src th_size = some rr) : Met l yX10_count wsX10_count rmX10_count (PcW D g 109 ad C sz [.ref (ad 0), .int p0]) (QiR sz tP rr) 0 0 (An sz) := by
  refine Met.ofW (cc := cX10_count) (maxL := 2) (ret := (some .int)) (by decide) rfl ?_
  intro p e s m args below meth c s₁ B hml hv
  obtain ⟨hav, hsz, hK, hP⟩ := hv
  subst hsz
  have hx := B.exec
  have hb := B.bytes
  have hr := B.returns
  have hts := atoms_spec (ws := wsX10_count) B.pre
  have hown : s.vm.findClass RX10 = some m.cls := findClass_of_methodNamed B.named
  have hlocks := B.notSynchronized
  generalize hQ : MQ below (QiR s.heap.size tP rr) args s 0 0 (An s.heap.size) = QQ
  have hS : va_S (An s.heap.size) s.heap s.heap [] := va_S.rf
  have hA : ∀ q, s.heap.size ≤ q → (An s.heap.size) q := fun q h => h
  have k0 := hts (.fieldLink RX10 19 "UpDrain" "plan" "LUpDrain$Town;") (List.mem_of_getElem? (i := 1) rfl)
  have nX10 : ∀ w ∈ u_ws RX10 TX10 9, w ∈ wsX10_count := fun _ h => List.mem_cons_of_mem _ (List.mem_append_left _ (List.mem_append_left _ (List.mem_append_left _ (List.mem_append_left _ (List.mem_append_right _ h)))))
  have k2 := nf_40 (A := args) hK
  have nX7 : ∀ w ∈ u_ws RX7 TX7 16, w ∈ wsX10_count := fun _ h => List.mem_cons_of_mem _ (List.mem_append_left _ (List.mem_append_left _ (List.mem_append_left _ (List.mem_append_right _ h))))
  have k4 := hts (.fieldLink RX10 10 "UpDrain" "text" "LUpDrain$Text;") (List.mem_of_getElem? (i := 2) rfl)
  have k5 := nf_2 (A := args) hK
  have nX5 : ∀ w ∈ u_ws RX5 TX5 7, w ∈ wsX10_count := fun _ h => List.mem_cons_of_mem _ (List.mem_append_left _ (List.mem_append_left _ (List.mem_append_right _ h)))
  have k7 := hts (.fieldLink RX10 28 "UpDrain" "ways" "LUpDrain$Ways;") (List.mem_of_getElem? (i := 3) rfl)
  have k8 := nf_55 (A := args) hK
  have nX9 : ∀ w ∈ u_ws RX9 TX9 3, w ∈ wsX10_count := fun _ h => List.mem_cons_of_mem _ (List.mem_append_left _ (List.mem_append_right _ h))
  have k10 := hts (.fieldLink RX10 46 "UpDrain" "thoughts" "LUpDrain$Thoughts;") (List.mem_of_getElem? (i := 4) rfl)
  have k11 := nf_69 (A := args) hK
  have nX6 : ∀ w ∈ u_ws RX6 TX6 13, w ∈ wsX10_count := fun _ h => List.mem_cons_of_mem _ (List.mem_append_right _ h)
  have k13 := nf_43 (A := args) hK
  have k14 := nf_45 (A := args) hK
  have hE := lg_entry_eq m [.ref (ad 0), .int p0] 2
  rw [← hav] at hE
  rw [hE]
  have hl := lv_entry [.ref (ad 0), .int p0] (n := 2) (Nat.le_of_ble_eq_true rfl)
  generalize (lg_sl [.ref (ad 0), .int p0] ++ List.replicate (2 - (lg_sl [.ref (ad 0), .int p0]).length) Slot.unset).toArray = ls at hl ⊢
  have hl : lv_has ls 2 [(0, .ref (ad 0)), (1, .int p0)] := hl
  clear hE
  unfold f_X10_count at hf
  suffices hgo : ∀ (H : Heap) (locs : List Loc), va_P D vwCl (wd 109 ad C) H → va_S (An s.heap.size) s.heap H locs → W p l e (headSpec wsX10_count rmX10_count).room s m args below meth c H locs 0 0 QQ (F0 m 0 ls []) from hgo s.heap [] hP hS
  clear hS hP
  intro H locs hP hS
  refine lv_iload_n hx hb dX10_count_0 rfl (lv_at hl 1 rfl) ?_
  by_cases c1 : p0 = 0
  · have hf := it_e c1 hf
    refine lv_tableIn (tgt := 44) hx hb dX10_count_1 (by rw [c1]; decide) (by rw [c1]; decide) (by rw [c1]; rfl) (by decide) ?_
    refine lv_aload_n hx hb dX10_count_44 rfl (lv_at hl 0 rfl) ?_
    refine r_get (own := RX10) (T := TX10) (n := 9) (ci := 10) (v := .ref (ad 5)) hx hb hts nX10 hown hK hP (by decide) h0 rfl 1 (by decide) k0 rfl dX10_count_45 ?_
    refine r_getN (own := RX10) (T := TX7) (n := 16) (ci := 7) (v := .int t_there) hx hb hts nX7 hown hK hP (by decide) h5 rfl 13 (by decide) k2 rfl dX10_count_48 ?_
    obtain ⟨q2, hq2, hf⟩ := bd_e hf
    refine k_iR (va_runS (As := [.int t_there]) (rest := []) ⟨hx, hb, hml, hown, hts⟩ (c_J6_bitCount_0f7a4 (l := l) (sz := H.size) (p0 := t_there) hq2) (va_cwS 1 hts gX10_count_J6_bitCount_0f7a4 rfl rfl rfl (by decide +kernel) ⟨Nat.le_of_ble_eq_true rfl, Nat.le_of_ble_eq_true rfl⟩) preS0 rfl rfl hl.1 rfl (lv_room (Nat.le_of_ble_eq_true rfl)) dX10_count_51 ⟨Nat.le_refl _, Nat.le_refl _⟩) hA hP hS (fun H locs hP hS hbz_q2 => ?_)
    obtain rfl := Option.some.inj hf
    rw [← hQ]
    exact e_iR hx hb hr rfl (tP_i _) hS hlocks dX10_count_54
  have hf := ie_e c1 hf
  by_cases c3 : p0 = 1
  · have hf := it_e c3 hf
    refine lv_tableIn (tgt := 55) hx hb dX10_count_1 (by rw [c3]; decide) (by rw [c3]; decide) (by rw [c3]; rfl) (by decide) ?_
    refine lv_aload_n hx hb dX10_count_55 rfl (lv_at hl 0 rfl) ?_
    refine r_get (own := RX10) (T := TX10) (n := 9) (ci := 10) (v := .ref (ad 1)) hx hb hts nX10 hown hK hP (by decide) h0 rfl 0 (by decide) k4 rfl dX10_count_56 ?_
    refine r_getN (own := RX10) (T := TX5) (n := 7) (ci := 5) (v := .int tx_len) hx hb hts nX5 hown hK hP (by decide) h1 rfl 3 (by decide) k5 rfl dX10_count_59 ?_
    obtain rfl := Option.some.inj hf
    rw [← hQ]
    exact e_iR hx hb hr rfl (tP_i _) hS hlocks dX10_count_62
  have hf := ie_e c3 hf
  by_cases c4 : p0 = 2
  · have hf := it_e c4 hf
    refine lv_tableIn (tgt := 63) hx hb dX10_count_1 (by rw [c4]; decide) (by rw [c4]; decide) (by rw [c4]; rfl) (by decide) ?_
    refine lv_aload_n hx hb dX10_count_63 rfl (lv_at hl 0 rfl) ?_
    refine r_get (own := RX10) (T := TX10) (n := 9) (ci := 10) (v := .ref (ad 19)) hx hb hts nX10 hown hK hP (by decide) h0 rfl 2 (by decide) k7 rfl dX10_count_64 ?_
    refine r_getN (own := RX10) (T := TX9) (n := 3) (ci := 9) (v := .int w_src) hx hb hts nX9 hown hK hP (by decide) h19 rfl 2 (by decide) k8 rfl dX10_count_67 ?_
    obtain ⟨q5, hq5, hf⟩ := bd_e hf
    refine k_iR (va_runS (As := [.int w_src]) (rest := []) ⟨hx, hb, hml, hown, hts⟩ (c_J6_bitCount_0f7a4 (l := l) (sz := H.size) (p0 := w_src) hq5) (va_cwS 1 hts gX10_count_J6_bitCount_0f7a4 rfl rfl rfl (by decide +kernel) ⟨Nat.le_of_ble_eq_true rfl, Nat.le_of_ble_eq_true rfl⟩) preS0 rfl rfl hl.1 rfl (lv_room (Nat.le_of_ble_eq_true rfl)) dX10_count_70 ⟨Nat.le_refl _, Nat.le_refl _⟩) hA hP hS (fun H locs hP hS hbz_q5 => ?_)
    obtain rfl := Option.some.inj hf
    rw [← hQ]
    exact e_iR hx hb hr rfl (tP_i _) hS hlocks dX10_count_73
  have hf := ie_e c4 hf
  by_cases c6 : p0 = 3
  · have hf := it_e c6 hf
    refine lv_tableIn (tgt := 74) hx hb dX10_count_1 (by rw [c6]; decide) (by rw [c6]; decide) (by rw [c6]; rfl) (by decide) ?_
    refine lv_aload_n hx hb dX10_count_74 rfl (lv_at hl 0 rfl) ?_
    refine r_get (own := RX10) (T := TX10) (n := 9) (ci := 10) (v := .ref (ad 60)) hx hb hts nX10 hown hK hP (by decide) h0 rfl 4 (by decide) k10 rfl dX10_count_75 ?_
    refine r_getN (own := RX10) (T := TX6) (n := 13) (ci := 6) (v := .int th_size) hx hb hts nX6 hown hK hP (by decide) h60 rfl 12 (by decide) k11 rfl dX10_count_78 ?_
    obtain rfl := Option.some.inj hf
    rw [← hQ]
    exact e_iR hx hb hr rfl (tP_i _) hS hlocks dX10_count_81
  have hf := ie_e c6 hf
  by_cases c7 : p0 = 4
  · have hf := it_e c7 hf
    refine lv_tableIn (tgt := 82) hx hb dX10_count_1 (by rw [c7]; decide) (by rw [c7]; decide) (by rw [c7]; rfl) (by decide) ?_
    refine lv_aload_n hx hb dX10_count_82 rfl (lv_at hl 0 rfl) ?_
    refine r_get (own := RX10) (T := TX10) (n := 9) (ci := 10) (v := .ref (ad 5)) hx hb hts nX10 hown hK hP (by decide) h0 rfl 1 (by decide) k0 rfl dX10_count_83 ?_
    refine r_getN (own := RX10) (T := TX7) (n := 16) (ci := 7) (v := .int t_lift) hx hb hts nX7 hown hK hP (by decide) h5 rfl 14 (by decide) k13 rfl dX10_count_86 ?_
    obtain rfl := Option.some.inj hf
    rw [← hQ]
    exact e_iR hx hb hr rfl (tP_i _) hS hlocks dX10_count_89
  have hf := ie_e c7 hf
  by_cases c8 : p0 = 5
  · have hf := it_e c8 hf
    refine lv_tableIn (tgt := 90) hx hb dX10_count_1 (by rw [c8]; decide) (by rw [c8]; decide) (by rw [c8]; rfl) (by decide) ?_
    refine lv_aload_n hx hb dX10_count_90 rfl (lv_at hl 0 rfl) ?_
    refine r_get (own := RX10) (T := TX10) (n := 9) (ci := 10) (v := .ref (ad 5)) hx hb hts nX10 hown hK hP (by decide) h0 rfl 1 (by decide) k0 rfl dX10_count_91 ?_
    refine r_getN (own := RX10) (T := TX7) (n := 16) (ci := 7) (v := .int t_none) hx hb hts nX7 hown hK hP (by decide) h5 rfl 15 (by decide) k14 rfl dX10_count_94 ?_
    obtain rfl := Option.some.inj hf
    rw [← hQ]
    exact e_iR hx hb hr rfl (tP_i _) hS hlocks dX10_count_97
  have hf := ie_e c8 hf
  by_cases c9 : p0 = 6
  · have hf := it_e c9 hf
    refine lv_tableIn (tgt := 98) hx hb dX10_count_1 (by rw [c9]; decide) (by rw [c9]; decide) (by rw [c9]; rfl) (by decide) ?_
    refine lv_aload_n hx hb dX10_count_98 rfl (lv_at hl 0 rfl) ?_
    refine r_get (own := RX10) (T := TX10) (n := 9) (ci := 10) (v := .ref (ad 19)) hx hb hts nX10 hown hK hP (by decide) h0 rfl 2 (by decide) k7 rfl dX10_count_99 ?_
    obtain ⟨q10, hq10, hf⟩ := bd_e hf
    refine k_iR (va_runV (C := RX9) (As := []) (rest := []) ⟨hx, hb, hml, hown, hts⟩ (c_X9_allPaces (l := l) (sz := H.size)  h5 h8 h19 hq10) (cwV 0 hts gX10_count_X9_allPaces rfl rfl rfl (by decide +kernel) ⟨Nat.le_of_ble_eq_true rfl, Nat.le_of_ble_eq_true rfl⟩) (preV_of hK hP (by decide) h19 rfl) rfl rfl hl.1 rfl (lv_room (Nat.le_of_ble_eq_true rfl)) dX10_count_102 ⟨Nat.le_refl _, Nat.le_refl _⟩) hA hP hS (fun H locs hP hS hbz_q10 => ?_)
    obtain rfl := Option.some.inj hf
    rw [← hQ]
    exact e_iR hx hb hr rfl (tP_i _) hS hlocks dX10_count_105
  have hf := ie_e c9 hf
  have hsw : Int32.toInt p0 < 0 ∨ 6 < Int32.toInt p0 := by
    have qc1 := ne_toInt c1
    rw [show Int32.toInt 0 = 0 from rfl] at qc1
    have qc3 := ne_toInt c3
    rw [show Int32.toInt 1 = 1 from rfl] at qc3
    have qc4 := ne_toInt c4
    rw [show Int32.toInt 2 = 2 from rfl] at qc4
    have qc6 := ne_toInt c6
    rw [show Int32.toInt 3 = 3 from rfl] at qc6
    have qc7 := ne_toInt c7
    rw [show Int32.toInt 4 = 4 from rfl] at qc7
    have qc8 := ne_toInt c8
    rw [show Int32.toInt 5 = 5 from rfl] at qc8
    have qc9 := ne_toInt c9
    rw [show Int32.toInt 6 = 6 from rfl] at qc9
    omega
  refine lv_tableOut (tgt := 106) hx hb dX10_count_1 hsw (by decide) ?_
  refine lv_bipush (v := (-3)) hx hb dX10_count_106 (by decide) ?_
  obtain rfl := Option.some.inj hf
  rw [← hQ]
  exact e_iR hx hb hr rfl (tP_i _) hS hlocks dX10_count_108

