def LX6_most_10 (th_one : Nat → Int64) (ko : Int32 → Int64 → Int32 → Option (Int32)) : Nat → Int32 → Int64 → Int32 → Option (Int32)
  | 0, _, _, _ => none
  | n + 1, x2, x3, x4 =>
    if 12 ≤ x4 then
      ko x2 x3 x4
    else
      rl th_one 12 (x4) fun x9 =>
      (if (lg_cmp x9 x3) ≤ 0 then
        some (x2, x3)
      else
        rl th_one 12 (x4) fun x14 =>
        some (x4, x14) : Option (Int32 × Int64)).bind fun q11 =>
      lt (x4 + 1 : Int32) fun x12 =>
      LX6_most_10 th_one ko n q11.1 q11.2 x12
theorem LX6_most_10_z (th_one : Nat → Int64) (ko : Int32 → Int64 → Int32 → Option (Int32)) (x2 : Int32) (x3 : Int64) (x4 : Int32) : LX6_most_10 th_one ko 0 x2 x3 x4 = none := rfl
theorem LX6_most_10_s (th_one : Nat → Int64) (ko : Int32 → Int64 → Int32 → Option (Int32)) (n : Nat) (x2 : Int32) (x3 : Int64) (x4 : Int32) : LX6_most_10 th_one ko (n + 1) x2 x3 x4 =
    if 12 ≤ x4 then
      ko x2 x3 x4
    else
      rl th_one 12 (x4) fun x9 =>
      (if (lg_cmp x9 x3) ≤ 0 then
        some (x2, x3)
      else
        rl th_one 12 (x4) fun x14 =>
        some (x4, x14) : Option (Int32 × Int64)).bind fun q11 =>
      lt (x4 + 1 : Int32) fun x12 =>
      LX6_most_10 th_one ko n q11.1 q11.2 x12 := rfl
def f_X6_most (th_none : Int64) (th_one : Nat → Int64) : Option (Int32) :=
  lt ((-1) : Int32) fun x1 =>
  LX6_most_10 th_one (fun x5 x6 x7 =>
    some (x5)) FU x1 th_none 0
abbrev rmX6_most : Room := { frames := 0, cells := 0, slots := 0, locals := 0 }
set_option maxHeartbeats 4000000 in
set_option maxRecDepth 100000 in
theorem c_X6_most {l : Launch} {D : va_G} {g : Nat → ClassId} {N : Nat} {ad : Nat → Nat} {C : Nat → va_E} {sz : Nat} {th_none : Int64} {th_all1 : Int64} {th_all2 : Int64} {th_k1 : Int32} {th_k2 : Int32} {th_size : Int32} {th_one : Nat → Int64}  {rr : Int32} (hN : 86 ≤ N) (h60 : C 60 = .inr (6, [.ref (ad 5), .ref (ad 19), .ref (ad 21), .ref (ad 61), .ref (ad 62), .ref (ad 65), .ref (ad 66), .long th_none, .long th_all1, .long th_all2, .int th_k1, .int th_k2, .int th_size])) (h65 : C 65 = aL g 12 th_one) (hf : f_X6_most th_none th_one = some rr) : Met l yX6_most wsX6_most rmX6_most (PcW D g N ad C sz [.ref (ad 60)]) (QiR sz tP rr) 0 0 (An sz) := by
  refine Met.ofW (cc := cX6_most) (maxL := 5) (ret := (some .int)) (by decide) rfl ?_
  intro p e s m args below meth c s₁ B hml hv
  obtain ⟨hav, hsz, hK, hP⟩ := hv
  subst hsz
  have hx := B.exec
  have hb := B.bytes
  have hr := B.returns
  have hts := atoms_spec (ws := wsX6_most) B.pre
  have hown : s.vm.findClass RX6 = some m.cls := findClass_of_methodNamed B.named
  have hlocks := B.notSynchronized
  generalize hQ : MQ below (QiR s.heap.size tP rr) args s 0 0 (An s.heap.size) = QQ
  have hS : va_S (An s.heap.size) s.heap s.heap [] := va_S.rf
  have hA : ∀ q, s.heap.size ≤ q → (An s.heap.size) q := fun q h => h
  have k0 := hts (.fieldLink RX6 71 "UpDrain$Thoughts" "ofNone" "J") (List.mem_of_getElem? (i := 1) rfl)
  have nX6 : ∀ w ∈ u_ws RX6 TX6 13, w ∈ wsX6_most := fun _ h => List.mem_cons_of_mem _ (List.mem_append_right _ h)
  have k2 := hts (.fieldLink RX6 24 "UpDrain$Thoughts" "ofOne" "[J") (List.mem_of_getElem? (i := 2) rfl)
  have hE := lg_entry_eq m [.ref (ad 60)] 5
  rw [← hav] at hE
  rw [hE]
  have hl := lv_entry [.ref (ad 60)] (n := 5) (Nat.le_of_ble_eq_true rfl)
  generalize (lg_sl [.ref (ad 60)] ++ List.replicate (5 - (lg_sl [.ref (ad 60)]).length) Slot.unset).toArray = ls at hl ⊢
  have hl : lv_has ls 5 [(0, .ref (ad 60))] := hl
  clear hE
  unfold f_X6_most at hf
  suffices hgo : ∀ (H : Heap) (locs : List Loc), va_P D vwCl (wd N ad C) H → va_S (An s.heap.size) s.heap H locs → W p l e (headSpec wsX6_most rmX6_most).room s m args below meth c H locs 0 0 QQ (F0 m 0 ls []) from hgo s.heap [] hP hS
  clear hS hP
  intro H locs hP hS
  refine lv_iconst (v := (-1)) hx hb dX6_most_0 (by decide) ?_
  obtain ⟨x1, ex1, hf⟩ := lt_e hf
  refine tp_i ex1 ?_
  refine lv_istore_n (lv' := [(1, .int x1), (0, .ref (ad 60))]) hx hb dX6_most_1 rfl hl (by decide) rfl (fun ls hl => ?_)
  refine lv_aload_n hx hb dX6_most_2 rfl (lv_at hl 1 rfl) ?_
  refine r_get (own := RX6) (T := TX6) (n := 13) (ci := 6) (v := .long th_none) hx hb hts nX6 hown hK hP (by omega) h60 rfl 7 (by decide) k0 rfl dX6_most_3 ?_
  refine lv_lstore_n (lv' := [(2, .long th_none), (1, .int x1), (0, .ref (ad 60))]) hx hb dX6_most_6 rfl hl (by decide) rfl (fun ls hl => ?_)
  refine lv_iconst (v := 0) hx hb dX6_most_7 (by decide) ?_
  refine lv_istore (lv' := [(4, .int 0), (2, .long th_none), (1, .int x1), (0, .ref (ad 60))]) hx hb dX6_most_8 hl (by decide) rfl (fun ls hl => ?_)
  have key10 : ∀ (ko : Int32 → Int64 → Int32 → Option (Int32)), (∀ (x5 : Int32) (x6 : Int64) (x7 : Int32) (C : Nat → va_E) (H : Heap) (locs : List Loc) (ls : Array Slot), va_P D vwCl (wd N ad C) H → va_S (An s.heap.size) s.heap H locs → C 60 = .inr (6, [.ref (ad 5), .ref (ad 19), .ref (ad 21), .ref (ad 61), .ref (ad 62), .ref (ad 65), .ref (ad 66), .long th_none, .long th_all1, .long th_all2, .int th_k1, .int th_k2, .int th_size]) → C 65 = aL g 12 th_one → lv_has ls 5 [(0, .ref (ad 60)), (1, .int x5), (2, .long x6), (4, .int x7)] → ko x5 x6 x7 = some rr → W p l e (headSpec wsX6_most rmX6_most).room s m args below meth c H locs 0 0 QQ (F0 m 46 ls [])) → ∀ (n : Nat) (x2 : Int32) (x3 : Int64) (x4 : Int32) (C : Nat → va_E) (H : Heap) (locs : List Loc) (ls : Array Slot), va_P D vwCl (wd N ad C) H → va_S (An s.heap.size) s.heap H locs → C 60 = .inr (6, [.ref (ad 5), .ref (ad 19), .ref (ad 21), .ref (ad 61), .ref (ad 62), .ref (ad 65), .ref (ad 66), .long th_none, .long th_all1, .long th_all2, .int th_k1, .int th_k2, .int th_size]) → C 65 = aL g 12 th_one → lv_has ls 5 [(0, .ref (ad 60)), (1, .int x2), (2, .long x3), (4, .int x4)] → LX6_most_10 th_one ko n x2 x3 x4 = some rr → W p l e (headSpec wsX6_most rmX6_most).room s m args below meth c H locs 0 0 QQ (F0 m 10 ls []) := by
    intro ko hko n
    induction n with
    | zero =>
      intro x2 x3 x4 C H locs ls hP hS h60 h65 hl hf
      rw [LX6_most_10_z] at hf
      cases hf
    | succ n ih =>
      intro x2 x3 x4 C H locs ls hP hS h60 h65 hl hf
      rw [LX6_most_10_s] at hf
      refine lv_iload hx hb dX6_most_10 (lv_at hl 3 rfl) ?_
      refine lv_bipush (v := 12) hx hb dX6_most_12 (by decide) ?_
      refine lv_icmp_ge (tgt := 46) hx hb dX6_most_14 (by decide) (fun c8 => ?_) (fun c8 => ?_)
      · have hf := it_e c8 hf
        exact hko x2 x3 x4 C H locs ls hP hS h60 h65 (lv_sub hl [0, 1, 2, 3] rfl) hf
      · have hf := ie_e c8 hf
        refine lv_aload_n hx hb dX6_most_17 rfl (lv_at hl 0 rfl) ?_
        refine r_get (own := RX6) (T := TX6) (n := 13) (ci := 6) (v := .ref (ad 65)) hx hb hts nX6 hown hK hP (by omega) h60 rfl 5 (by decide) k2 rfl dX6_most_18 ?_
        refine lv_iload hx hb dX6_most_21 (lv_at hl 3 rfl) ?_
        obtain ⟨i10, x9, ex9, hf⟩ := rl_e hf
        refine r_lald hx hb hK hP (by omega) h65 i10 dX6_most_23 ex9 ?_
        refine lv_lload_n hx hb dX6_most_24 rfl (lv_at hl 2 rfl) ?_
        refine W.lcmp hx hb dX6_most_25 ?_
        obtain ⟨q11, htq11, hf⟩ := bd_e hf
        have jnq11 : ∀ (C : Nat → va_E) (H : Heap) (locs : List Loc) (ls : Array Slot), va_P D vwCl (wd N ad C) H → va_S (An s.heap.size) s.heap H locs → C 60 = .inr (6, [.ref (ad 5), .ref (ad 19), .ref (ad 21), .ref (ad 61), .ref (ad 62), .ref (ad 65), .ref (ad 66), .long th_none, .long th_all1, .long th_all2, .int th_k1, .int th_k2, .int th_size]) → C 65 = aL g 12 th_one → lv_has ls 5 [(0, .ref (ad 60)), (1, .int q11.1), (2, .long q11.2), (4, .int x4)] → W p l e (headSpec wsX6_most rmX6_most).room s m args below meth c H locs 0 0 QQ (F0 m 40 ls []) := by
          intro C H locs ls hP hS h60 h65 hl
          obtain ⟨x12, ex12, hf⟩ := lt_e hf
          refine lv_iinc (v := x12) (lv' := [(4, .int x12), (0, .ref (ad 60)), (1, .int q11.1), (2, .long q11.2)]) hx hb dX6_most_40 hl (k := 3) rfl (by rw [ex12]; rfl) (by decide) rfl (fun ls hl => ?_)
          refine lv_goto (tgt := 10) hx hb dX6_most_43 (by decide) ?_
          exact ih q11.1 q11.2 x12 C H locs ls hP hS h60 h65 (lv_sub hl [1, 2, 3, 0] rfl) hf
        clear hf
        have hf := htq11
        refine lv_if_le (tgt := 40) hx hb dX6_most_26 (by decide) (fun c13 => ?_) (fun c13 => ?_)
        · have hf := it_e c13 hf
          obtain rfl := Option.some.inj hf
          exact jnq11 C H locs ls hP hS h60 h65 (lv_sub hl [0, 1, 2, 3] rfl)
        · have hf := ie_e c13 hf
          refine lv_iload hx hb dX6_most_29 (lv_at hl 3 rfl) ?_
          refine lv_istore_n (lv' := [(1, .int x4), (0, .ref (ad 60)), (2, .long x3), (4, .int x4)]) hx hb dX6_most_31 rfl hl (by decide) rfl (fun ls hl => ?_)
          refine lv_aload_n hx hb dX6_most_32 rfl (lv_at hl 1 rfl) ?_
          refine r_get (own := RX6) (T := TX6) (n := 13) (ci := 6) (v := .ref (ad 65)) hx hb hts nX6 hown hK hP (by omega) h60 rfl 5 (by decide) k2 rfl dX6_most_33 ?_
          refine lv_iload hx hb dX6_most_36 (lv_at hl 3 rfl) ?_
          obtain ⟨i15, x14, ex14, hf⟩ := rl_e hf
          refine r_lald hx hb hK hP (by omega) h65 i15 dX6_most_38 ex14 ?_
          refine lv_lstore_n (lv' := [(2, .long x14), (1, .int x4), (0, .ref (ad 60)), (4, .int x4)]) hx hb dX6_most_39 rfl hl (by decide) rfl (fun ls hl => ?_)
          obtain rfl := Option.some.inj hf
          exact jnq11 C H locs ls hP hS h60 h65 (lv_sub hl [2, 1, 0, 3] rfl)
  refine key10 _ (fun x5 x6 x7 C H locs ls hP hS h60 h65 hl hf => ?_) FU x1 th_none 0 C H locs ls hP hS h60 h65 (lv_sub hl [3, 2, 1, 0] rfl) hf
  refine lv_iload_n hx hb dX6_most_46 rfl (lv_at hl 1 rfl) ?_
  obtain rfl := Option.some.inj hf
  rw [← hQ]
  exact e_iR hx hb hr rfl (tP_i _) hS hlocks dX6_most_47

def LX6_trialFits_2 (t_rain : Nat → Int32) (t_tell : Nat → Int32) (wa_g : Nat → Int32) (th_size : Int32) (sL : Nat → Nat → Int32) (sT : Nat → Nat → Int32) (sF : Nat → Int32) (sU : Nat → Int32) (fC : Nat → Int32) (fS : Nat → Int32) (fM : Nat → Int32) (fT : Nat → Int32) (fY : Nat → Int32) (ko : Int32 → Option (Int32)) : Nat → Int32 → Option (Int32)
  | 0, _ => none
  | n + 1, x1 =>
    if th_size ≤ x1 then
      ko x1
    else
      ix 10 (x1) fun j6 =>
      (f_X8_shouldSayYes (67 + j6) (some 62) none t_rain t_tell wa_g sL sT sF sU fC fS fM fT).bind fun q7 =>
      ix 10 (x1) fun j10 =>
      if q7 = (fY (67 + j10)) then
        lt (x1 + 1 : Int32) fun x12 =>
        LX6_trialFits_2 t_rain t_tell wa_g th_size sL sT sF sU fC fS fM fT fY ko n x12
      else
        some (0)
theorem LX6_trialFits_2_z (t_rain : Nat → Int32) (t_tell : Nat → Int32) (wa_g : Nat → Int32) (th_size : Int32) (sL : Nat → Nat → Int32) (sT : Nat → Nat → Int32) (sF : Nat → Int32) (sU : Nat → Int32) (fC : Nat → Int32) (fS : Nat → Int32) (fM : Nat → Int32) (fT : Nat → Int32) (fY : Nat → Int32) (ko : Int32 → Option (Int32)) (x1 : Int32) : LX6_trialFits_2 t_rain t_tell wa_g th_size sL sT sF sU fC fS fM fT fY ko 0 x1 = none := rfl
theorem LX6_trialFits_2_s (t_rain : Nat → Int32) (t_tell : Nat → Int32) (wa_g : Nat → Int32) (th_size : Int32) (sL : Nat → Nat → Int32) (sT : Nat → Nat → Int32) (sF : Nat → Int32) (sU : Nat → Int32) (fC : Nat → Int32) (fS : Nat → Int32) (fM : Nat → Int32) (fT : Nat → Int32) (fY : Nat → Int32) (ko : Int32 → Option (Int32)) (n : Nat) (x1 : Int32) : LX6_trialFits_2 t_rain t_tell wa_g th_size sL sT sF sU fC fS fM fT fY ko (n + 1) x1 =
    if th_size ≤ x1 then
      ko x1
    else
      ix 10 (x1) fun j6 =>
      (f_X8_shouldSayYes (67 + j6) (some 62) none t_rain t_tell wa_g sL sT sF sU fC fS fM fT).bind fun q7 =>
      ix 10 (x1) fun j10 =>
      if q7 = (fY (67 + j10)) then
        lt (x1 + 1 : Int32) fun x12 =>
        LX6_trialFits_2 t_rain t_tell wa_g th_size sL sT sF sU fC fS fM fT fY ko n x12
      else
        some (0) := rfl
def f_X6_trialFits (t_rain : Nat → Int32) (t_tell : Nat → Int32) (wa_g : Nat → Int32) (th_size : Int32) (sL : Nat → Nat → Int32) (sT : Nat → Nat → Int32) (sF : Nat → Int32) (sU : Nat → Int32) (fC : Nat → Int32) (fS : Nat → Int32) (fM : Nat → Int32) (fT : Nat → Int32) (fY : Nat → Int32) : Option (Int32) :=
  LX6_trialFits_2 t_rain t_tell wa_g th_size sL sT sF sU fC fS fM fT fY (fun x2 =>
    some (1)) FU 0
abbrev rmX6_trialFits : Room := { frames := 4, cells := 0, slots := 0, locals := 100 }
set_option maxHeartbeats 4000000 in
set_option maxRecDepth 100000 in
theorem c_X6_trialFits {l : Launch} {D : va_G} {g : Nat → ClassId} {N : Nat} {ad : Nat → Nat} {C : Nat → va_E} {sz : Nat} {t_there : Int32} {t_lift : Int32} {t_none : Int32} {t_rain : Nat → Int32} {t_tell : Nat → Int32} {wa_g : Nat → Int32} {th_none : Int64} {th_all1 : Int64} {th_all2 : Int64} {th_k1 : Int32} {th_k2 : Int32} {th_size : Int32} {fC : Nat → Int32} {fS : Nat → Int32} {fM : Nat → Int32} {fT : Nat → Int32} {fY : Nat → Int32} {sL : Nat → Nat → Int32} {sT : Nat → Nat → Int32} {sF : Nat → Int32} {sU : Nat → Int32}  {rr : Int32} (hN : 86 ≤ N) (h5 : C 5 = .inr (7, [.ref (ad 6), .ref (ad 7), .ref (ad 8), .ref (ad 9), .ref (ad 10), .ref (ad 11), .ref (ad 12), .ref (ad 13), .ref (ad 14), .ref (ad 15), .ref (ad 16), .ref (ad 17), .ref (ad 18), .int t_there, .int t_lift, .int t_none])) (h15 : C 15 = aI g 24 t_rain) (h16 : C 16 = aI g 4 t_tell) (h21 : C 21 = .inr (8, [.ref (ad 5), .ref (ad 19), .ref (ad 22), .ref (ad 23)])) (h22 : C 22 = aI g 12 wa_g) (h60 : C 60 = .inr (6, [.ref (ad 5), .ref (ad 19), .ref (ad 21), .ref (ad 61), .ref (ad 62), .ref (ad 65), .ref (ad 66), .long th_none, .long th_all1, .long th_all2, .int th_k1, .int th_k2, .int th_size])) (h61 : C 61 = aF g 10 (fun i => if i < 10 then some (ad (67 + i)) else none)) (hF_ : PoolF C fC fS fM fT fY) (hS_ : PoolS g ad C sL sT sF sU) (hf : f_X6_trialFits t_rain t_tell wa_g th_size sL sT sF sU fC fS fM fT fY = some rr) : Met l yX6_trialFits wsX6_trialFits rmX6_trialFits (PcW D g N ad C sz [.ref (ad 60)]) (QiR sz bz rr) 0 0 (An sz) := by
  refine Met.ofW (cc := cX6_trialFits) (maxL := 2) (ret := (some .boolean)) (by decide) rfl ?_
  intro p e s m args below meth c s₁ B hml hv
  obtain ⟨hav, hsz, hK, hP⟩ := hv
  subst hsz
  have hx := B.exec
  have hb := B.bytes
  have hr := B.returns
  have hts := atoms_spec (ws := wsX6_trialFits) B.pre
  have hown : s.vm.findClass RX6 = some m.cls := findClass_of_methodNamed B.named
  have hlocks := B.notSynchronized
  generalize hQ : MQ below (QiR s.heap.size bz rr) args s 0 0 (An s.heap.size) = QQ
  have hS : va_S (An s.heap.size) s.heap s.heap [] := va_S.rf
  have hA : ∀ q, s.heap.size ≤ q → (An s.heap.size) q := fun q h => h
  have k0 := hts (.fieldLink RX6 51 "UpDrain$Thoughts" "size" "I") (List.mem_of_getElem? (i := 1) rfl)
  have nX6 : ∀ w ∈ u_ws RX6 TX6 13, w ∈ wsX6_trialFits := fun _ h => List.mem_cons_of_mem _ (List.mem_append_left _ (List.mem_append_left _ (List.mem_append_left _ (List.mem_append_left _ (List.mem_append_right _ h)))))
  have k2 := hts (.fieldLink RX6 39 "UpDrain$Thoughts" "water" "LUpDrain$Water;") (List.mem_of_getElem? (i := 2) rfl)
  have k3 := hts (.fieldLink RX6 11 "UpDrain$Thoughts" "fillings" "[LUpDrain$Filling;") (List.mem_of_getElem? (i := 3) rfl)
  have k4 := hts (.fieldLink RX6 20 "UpDrain$Thoughts" "trial" "LUpDrain$Stream;") (List.mem_of_getElem? (i := 4) rfl)
  have k5 := nf_63 (A := args) hK
  have nX1 : ∀ w ∈ u_ws RX1 TX1 5, w ∈ wsX6_trialFits := fun _ h => List.mem_cons_of_mem _ (List.mem_append_left _ (List.mem_append_left _ (List.mem_append_left _ (List.mem_append_right _ h))))
  have hE := lg_entry_eq m [.ref (ad 60)] 2
  rw [← hav] at hE
  rw [hE]
  have hl := lv_entry [.ref (ad 60)] (n := 2) (Nat.le_of_ble_eq_true rfl)
  generalize (lg_sl [.ref (ad 60)] ++ List.replicate (2 - (lg_sl [.ref (ad 60)]).length) Slot.unset).toArray = ls at hl ⊢
  have hl : lv_has ls 2 [(0, .ref (ad 60))] := hl
  clear hE
  unfold f_X6_trialFits at hf
  suffices hgo : ∀ (H : Heap) (locs : List Loc), va_P D vwCl (wd N ad C) H → va_S (An s.heap.size) s.heap H locs → W p l e (headSpec wsX6_trialFits rmX6_trialFits).room s m args below meth c H locs 0 0 QQ (F0 m 0 ls []) from hgo s.heap [] hP hS
  clear hS hP
  intro H locs hP hS
  refine lv_iconst (v := 0) hx hb dX6_trialFits_0 (by decide) ?_
  refine lv_istore_n (lv' := [(1, .int 0), (0, .ref (ad 60))]) hx hb dX6_trialFits_1 rfl hl (by decide) rfl (fun ls hl => ?_)
  have key2 : ∀ (ko : Int32 → Option (Int32)), (∀ (x2 : Int32) (C : Nat → va_E) (H : Heap) (locs : List Loc) (ls : Array Slot), va_P D vwCl (wd N ad C) H → va_S (An s.heap.size) s.heap H locs → C 5 = .inr (7, [.ref (ad 6), .ref (ad 7), .ref (ad 8), .ref (ad 9), .ref (ad 10), .ref (ad 11), .ref (ad 12), .ref (ad 13), .ref (ad 14), .ref (ad 15), .ref (ad 16), .ref (ad 17), .ref (ad 18), .int t_there, .int t_lift, .int t_none]) → C 15 = aI g 24 t_rain → C 16 = aI g 4 t_tell → C 21 = .inr (8, [.ref (ad 5), .ref (ad 19), .ref (ad 22), .ref (ad 23)]) → C 22 = aI g 12 wa_g → C 60 = .inr (6, [.ref (ad 5), .ref (ad 19), .ref (ad 21), .ref (ad 61), .ref (ad 62), .ref (ad 65), .ref (ad 66), .long th_none, .long th_all1, .long th_all2, .int th_k1, .int th_k2, .int th_size]) → C 61 = aF g 10 (fun i => if i < 10 then some (ad (67 + i)) else none) → PoolF C fC fS fM fT fY → PoolS g ad C sL sT sF sU → lv_has ls 2 [(0, .ref (ad 60)), (1, .int x2)] → ko x2 = some rr → W p l e (headSpec wsX6_trialFits rmX6_trialFits).room s m args below meth c H locs 0 0 QQ (F0 m 48 ls [])) → ∀ (n : Nat) (x1 : Int32) (C : Nat → va_E) (H : Heap) (locs : List Loc) (ls : Array Slot), va_P D vwCl (wd N ad C) H → va_S (An s.heap.size) s.heap H locs → C 5 = .inr (7, [.ref (ad 6), .ref (ad 7), .ref (ad 8), .ref (ad 9), .ref (ad 10), .ref (ad 11), .ref (ad 12), .ref (ad 13), .ref (ad 14), .ref (ad 15), .ref (ad 16), .ref (ad 17), .ref (ad 18), .int t_there, .int t_lift, .int t_none]) → C 15 = aI g 24 t_rain → C 16 = aI g 4 t_tell → C 21 = .inr (8, [.ref (ad 5), .ref (ad 19), .ref (ad 22), .ref (ad 23)]) → C 22 = aI g 12 wa_g → C 60 = .inr (6, [.ref (ad 5), .ref (ad 19), .ref (ad 21), .ref (ad 61), .ref (ad 62), .ref (ad 65), .ref (ad 66), .long th_none, .long th_all1, .long th_all2, .int th_k1, .int th_k2, .int th_size]) → C 61 = aF g 10 (fun i => if i < 10 then some (ad (67 + i)) else none) → PoolF C fC fS fM fT fY → PoolS g ad C sL sT sF sU → lv_has ls 2 [(0, .ref (ad 60)), (1, .int x1)] → LX6_trialFits_2 t_rain t_tell wa_g th_size sL sT sF sU fC fS fM fT fY ko n x1 = some rr → W p l e (headSpec wsX6_trialFits rmX6_trialFits).room s m args below meth c H locs 0 0 QQ (F0 m 2 ls []) := by
    intro ko hko n
    induction n with
    | zero =>
      intro x1 C H locs ls hP hS h5 h15 h16 h21 h22 h60 h61 hF_ hS_ hl hf
      rw [LX6_trialFits_2_z] at hf
      cases hf
    | succ n ih =>
      intro x1 C H locs ls hP hS h5 h15 h16 h21 h22 h60 h61 hF_ hS_ hl hf
      rw [LX6_trialFits_2_s] at hf
      refine lv_iload_n hx hb dX6_trialFits_2 rfl (lv_at hl 1 rfl) ?_
      refine lv_aload_n hx hb dX6_trialFits_3 rfl (lv_at hl 0 rfl) ?_
      refine r_get (own := RX6) (T := TX6) (n := 13) (ci := 6) (v := .int th_size) hx hb hts nX6 hown hK hP (by omega) h60 rfl 12 (by decide) k0 rfl dX6_trialFits_4 ?_
      refine lv_icmp_ge (tgt := 48) hx hb dX6_trialFits_7 (by decide) (fun c3 => ?_) (fun c3 => ?_)
      · have hf := it_e c3 hf
        exact hko x1 C H locs ls hP hS h5 h15 h16 h21 h22 h60 h61 hF_ hS_ (lv_sub hl [0, 1] rfl) hf
      · have hf := ie_e c3 hf
        refine lv_aload_n hx hb dX6_trialFits_10 rfl (lv_at hl 0 rfl) ?_
        refine r_get (own := RX6) (T := TX6) (n := 13) (ci := 6) (v := .ref (ad 21)) hx hb hts nX6 hown hK hP (by omega) h60 rfl 2 (by decide) k2 rfl dX6_trialFits_11 ?_
        refine lv_aload_n hx hb dX6_trialFits_14 rfl (lv_at hl 0 rfl) ?_
        refine r_get (own := RX6) (T := TX6) (n := 13) (ci := 6) (v := .ref (ad 61)) hx hb hts nX6 hown hK hP (by omega) h60 rfl 3 (by decide) k3 rfl dX6_trialFits_15 ?_
        refine lv_iload_n hx hb dX6_trialFits_18 rfl (lv_at hl 1 rfl) ?_
        obtain ⟨i4, hf⟩ := ix_e hf
        refine r_aldF2 hx hb hK hP (by omega) h61 i4 dX6_trialFits_19 (if_pos (vp_lt i4)) ?_
        obtain ⟨j6, ej6⟩ : ∃ z : Nat, z = Int32.toNatClampNeg x1 := ⟨_, rfl⟩
        rw [← ej6] at hf ⊢
        have hbj6 : isFB (67 + j6) := isFB_i (by rw [ej6]; exact vp_lt i4)
        refine W.eq (g2 := F0 m 20 ls [.ref (ad (67 + j6)), .ref (ad 21)]) rfl ?_
        refine lv_aload_n hx hb dX6_trialFits_20 rfl (lv_at hl 0 rfl) ?_
        refine r_get (own := RX6) (T := TX6) (n := 13) (ci := 6) (v := .ref (ad 62)) hx hb hts nX6 hown hK hP (by omega) h60 rfl 4 (by decide) k4 rfl dX6_trialFits_21 ?_
        refine lv_null hx hb dX6_trialFits_24 ?_
        obtain ⟨q7, hq7, hf⟩ := bd_e hf
        refine k_iR (va_runV (C := RX8) (As := [.ref (ad (67 + j6)), .ref (ad 62), .null]) (rest := []) ⟨hx, hb, hml, hown, hts⟩ (c_X8_shouldSayYes (l := l) (sz := H.size) (p0 := (67 + j6)) (p1 := (some 62)) (p2 := none) hN hbj6 (oS_s isSB_t) oS_n h5 h15 h16 h21 h22 hF_ hS_ hq7) (cwV 3 hts gX6_trialFits_X8_shouldSayYes rfl rfl rfl (by decide +kernel) ⟨Nat.le_of_ble_eq_true rfl, Nat.le_of_ble_eq_true rfl⟩) (preV_of hK hP (by omega) h21 rfl) rfl rfl hl.1 rfl (lv_room (Nat.le_of_ble_eq_true rfl)) dX6_trialFits_25 ⟨Nat.le_of_ble_eq_true rfl, Nat.le_of_ble_eq_true rfl⟩) hA hP hS (fun H locs hP hS hbz_q7 => ?_)
        refine lv_aload_n hx hb dX6_trialFits_28 rfl (lv_at hl 0 rfl) ?_
        refine r_get (own := RX6) (T := TX6) (n := 13) (ci := 6) (v := .ref (ad 61)) hx hb hts nX6 hown hK hP (by omega) h60 rfl 3 (by decide) k3 rfl dX6_trialFits_29 ?_
        refine lv_iload_n hx hb dX6_trialFits_32 rfl (lv_at hl 1 rfl) ?_
        obtain ⟨i8, hf⟩ := ix_e hf
        refine r_aldF2 hx hb hK hP (by omega) h61 i8 dX6_trialFits_33 (if_pos (vp_lt i8)) ?_
        obtain ⟨j10, ej10⟩ : ∃ z : Nat, z = Int32.toNatClampNeg x1 := ⟨_, rfl⟩
        rw [← ej10] at hf ⊢
        have hbj10 : isFB (67 + j10) := isFB_i (by rw [ej10]; exact vp_lt i8)
        refine W.eq (g2 := F0 m 34 ls [.ref (ad (67 + j10)), .int q7]) rfl ?_
        refine r_getN (own := RX6) (T := TX1) (n := 5) (ci := 1) (v := .int (fY (67 + j10))) hx hb hts nX1 hown hK hP (isFB_0 hN hbj10) (hF_ (67 + j10) hbj10) rfl 4 (by decide) k5 rfl dX6_trialFits_34 ?_
        refine lv_icmp_eq (tgt := 42) hx hb dX6_trialFits_37 (by decide) (fun c11 => ?_) (fun c11 => ?_)
        · have hf := it_e c11 hf
          obtain ⟨x12, ex12, hf⟩ := lt_e hf
          refine lv_iinc (v := x12) (lv' := [(1, .int x12), (0, .ref (ad 60))]) hx hb dX6_trialFits_42 hl (k := 1) rfl (by rw [ex12]; rfl) (by decide) rfl (fun ls hl => ?_)
          refine lv_goto (tgt := 2) hx hb dX6_trialFits_45 (by decide) ?_
          exact ih x12 C H locs ls hP hS h5 h15 h16 h21 h22 h60 h61 hF_ hS_ (lv_sub hl [1, 0] rfl) hf
        · have hf := ie_e c11 hf
          refine lv_iconst (v := 0) hx hb dX6_trialFits_40 (by decide) ?_
          obtain rfl := Option.some.inj hf
          rw [← hQ]
          exact e_zR hx hb hr rfl bz0 hS hlocks dX6_trialFits_41
  refine key2 _ (fun x2 C H locs ls hP hS h5 h15 h16 h21 h22 h60 h61 hF_ hS_ hl hf => ?_) FU 0 C H locs ls hP hS h5 h15 h16 h21 h22 h60 h61 hF_ hS_ (lv_sub hl [1, 0] rfl) hf
  refine lv_iconst (v := 1) hx hb dX6_trialFits_48 (by decide) ?_
  obtain rfl := Option.some.inj hf
  rw [← hQ]
  exact e_zR hx hb hr rfl bz1 hS hlocks dX6_trialFits_49

def LX6_nodesThatFit_4 (p0 : Int32) (t_down : Nat → Int32) (t_min : Nat → Int32) (t_gone : Nat → Int32) (t_rain : Nat → Int32) (t_tell : Nat → Int32) (t_there : Int32) (wa_g : Nat → Int32) (th_size : Int32) (fC : Nat → Int32) (fS : Nat → Int32) (fM : Nat → Int32) (fT : Nat → Int32) (fY : Nat → Int32) (ko : Int32 → Int32 → (Nat → Int32) → (Nat → Nat → Int32) → (Nat → Nat → Int32) → (Nat → Int32) → Option (Int32 × (Nat → Nat → Int32) × (Nat → Nat → Int32) × (Nat → Int32) × (Nat → Int32))) : Nat → Int32 → Int32 → (Nat → Int32) → (Nat → Nat → Int32) → (Nat → Nat → Int32) → (Nat → Int32) → Option (Int32 × (Nat → Nat → Int32) × (Nat → Nat → Int32) × (Nat → Int32) × (Nat → Int32))
  | 0, _, _, _, _, _, _ => none
  | n + 1, x1, x2, f3, f4, f5, f6 =>
    if 12 ≤ x2 then
      ko x1 x2 f3 f4 f5 f6
    else
      (f_X10_has t_there x2).bind fun q14 =>
      (if q14 = 0 then
        some (x1, f3, f4, f5, f6)
      else
        (f_X4_follow 62 x2 p0 0 23 t_down t_min t_gone f4 f5 f3 f6).bind fun q18 =>
        (f_X6_trialFits t_rain t_tell wa_g th_size q18.1 q18.2.1 q18.2.2.1 q18.2.2.2 fC fS fM fT fY).bind fun q19 =>
        (if q19 = 0 then
          some (0)
        else
          some ((1 <<< (x2 &&& 31))) : Option (Int32)).bind fun q20 =>
        lt ((x1 ||| q20) : Int32) fun x21 =>
        some (x21, q18.2.2.1, q18.1, q18.2.1, q18.2.2.2) : Option (Int32 × (Nat → Int32) × (Nat → Nat → Int32) × (Nat → Nat → Int32) × (Nat → Int32))).bind fun q15 =>
      lt (x2 + 1 : Int32) fun x16 =>
      LX6_nodesThatFit_4 p0 t_down t_min t_gone t_rain t_tell t_there wa_g th_size fC fS fM fT fY ko n q15.1 x16 q15.2.1 q15.2.2.1 q15.2.2.2.1 q15.2.2.2.2
theorem LX6_nodesThatFit_4_z (p0 : Int32) (t_down : Nat → Int32) (t_min : Nat → Int32) (t_gone : Nat → Int32) (t_rain : Nat → Int32) (t_tell : Nat → Int32) (t_there : Int32) (wa_g : Nat → Int32) (th_size : Int32) (fC : Nat → Int32) (fS : Nat → Int32) (fM : Nat → Int32) (fT : Nat → Int32) (fY : Nat → Int32) (ko : Int32 → Int32 → (Nat → Int32) → (Nat → Nat → Int32) → (Nat → Nat → Int32) → (Nat → Int32) → Option (Int32 × (Nat → Nat → Int32) × (Nat → Nat → Int32) × (Nat → Int32) × (Nat → Int32))) (x1 : Int32) (x2 : Int32) (f3 : Nat → Int32) (f4 : Nat → Nat → Int32) (f5 : Nat → Nat → Int32) (f6 : Nat → Int32) : LX6_nodesThatFit_4 p0 t_down t_min t_gone t_rain t_tell t_there wa_g th_size fC fS fM fT fY ko 0 x1 x2 f3 f4 f5 f6 = none := rfl
theorem LX6_nodesThatFit_4_s (p0 : Int32) (t_down : Nat → Int32) (t_min : Nat → Int32) (t_gone : Nat → Int32) (t_rain : Nat → Int32) (t_tell : Nat → Int32) (t_there : Int32) (wa_g : Nat → Int32) (th_size : Int32) (fC : Nat → Int32) (fS : Nat → Int32) (fM : Nat → Int32) (fT : Nat → Int32) (fY : Nat → Int32) (ko : Int32 → Int32 → (Nat → Int32) → (Nat → Nat → Int32) → (Nat → Nat → Int32) → (Nat → Int32) → Option (Int32 × (Nat → Nat → Int32) × (Nat → Nat → Int32) × (Nat → Int32) × (Nat → Int32))) (n : Nat) (x1 : Int32) (x2 : Int32) (f3 : Nat → Int32) (f4 : Nat → Nat → Int32) (f5 : Nat → Nat → Int32) (f6 : Nat → Int32) : LX6_nodesThatFit_4 p0 t_down t_min t_gone t_rain t_tell t_there wa_g th_size fC fS fM fT fY ko (n + 1) x1 x2 f3 f4 f5 f6 =
    if 12 ≤ x2 then
      ko x1 x2 f3 f4 f5 f6
    else
      (f_X10_has t_there x2).bind fun q14 =>
      (if q14 = 0 then
        some (x1, f3, f4, f5, f6)
      else
        (f_X4_follow 62 x2 p0 0 23 t_down t_min t_gone f4 f5 f3 f6).bind fun q18 =>
        (f_X6_trialFits t_rain t_tell wa_g th_size q18.1 q18.2.1 q18.2.2.1 q18.2.2.2 fC fS fM fT fY).bind fun q19 =>
        (if q19 = 0 then
          some (0)
        else
          some ((1 <<< (x2 &&& 31))) : Option (Int32)).bind fun q20 =>
        lt ((x1 ||| q20) : Int32) fun x21 =>
        some (x21, q18.2.2.1, q18.1, q18.2.1, q18.2.2.2) : Option (Int32 × (Nat → Int32) × (Nat → Nat → Int32) × (Nat → Nat → Int32) × (Nat → Int32))).bind fun q15 =>
      lt (x2 + 1 : Int32) fun x16 =>
      LX6_nodesThatFit_4 p0 t_down t_min t_gone t_rain t_tell t_there wa_g th_size fC fS fM fT fY ko n q15.1 x16 q15.2.1 q15.2.2.1 q15.2.2.2.1 q15.2.2.2.2 := rfl
def f_X6_nodesThatFit (p0 : Int32) (t_down : Nat → Int32) (t_min : Nat → Int32) (t_gone : Nat → Int32) (t_rain : Nat → Int32) (t_tell : Nat → Int32) (t_there : Int32) (wa_g : Nat → Int32) (th_size : Int32) (sL : Nat → Nat → Int32) (sT : Nat → Nat → Int32) (sF : Nat → Int32) (sU : Nat → Int32) (fC : Nat → Int32) (fS : Nat → Int32) (fM : Nat → Int32) (fT : Nat → Int32) (fY : Nat → Int32) : Option (Int32 × (Nat → Nat → Int32) × (Nat → Nat → Int32) × (Nat → Int32) × (Nat → Int32)) :=
  LX6_nodesThatFit_4 p0 t_down t_min t_gone t_rain t_tell t_there wa_g th_size fC fS fM fT fY (fun x7 x8 f9 f10 f11 f12 =>
    some (x7, f10, f11, f9, f12)) FU 0 0 sF sL sT sU
abbrev rmX6_nodesThatFit : Room := { frames := 5, cells := 0, slots := 0, locals := 121 }
set_option maxHeartbeats 4000000 in
set_option maxRecDepth 100000 in
theorem c_X6_nodesThatFit {l : Launch} {D : va_G} {g : Nat → ClassId} {N : Nat} {ad : Nat → Nat} {C : Nat → va_E} {sz : Nat} {t_there : Int32} {t_lift : Int32} {t_none : Int32} {t_down : Nat → Int32} {t_min : Nat → Int32} {t_gone : Nat → Int32} {t_rain : Nat → Int32} {t_tell : Nat → Int32} {wa_g : Nat → Int32} {th_none : Int64} {th_all1 : Int64} {th_all2 : Int64} {th_k1 : Int32} {th_k2 : Int32} {th_size : Int32} {fC : Nat → Int32} {fS : Nat → Int32} {fM : Nat → Int32} {fT : Nat → Int32} {fY : Nat → Int32} {sL : Nat → Nat → Int32} {sT : Nat → Nat → Int32} {sF : Nat → Int32} {sU : Nat → Int32} {p0 : Int32} {rr : Int32 × (Nat → Nat → Int32) × (Nat → Nat → Int32) × (Nat → Int32) × (Nat → Int32)} (hN : 86 ≤ N) (hI : Inj N ad) (h5 : C 5 = .inr (7, [.ref (ad 6), .ref (ad 7), .ref (ad 8), .ref (ad 9), .ref (ad 10), .ref (ad 11), .ref (ad 12), .ref (ad 13), .ref (ad 14), .ref (ad 15), .ref (ad 16), .ref (ad 17), .ref (ad 18), .int t_there, .int t_lift, .int t_none])) (h6 : C 6 = aI g 12 t_down) (h7 : C 7 = aI g 12 t_min) (h9 : C 9 = aI g 12 t_gone) (h15 : C 15 = aI g 24 t_rain) (h16 : C 16 = aI g 4 t_tell) (h21 : C 21 = .inr (8, [.ref (ad 5), .ref (ad 19), .ref (ad 22), .ref (ad 23)])) (h22 : C 22 = aI g 12 wa_g) (h60 : C 60 = .inr (6, [.ref (ad 5), .ref (ad 19), .ref (ad 21), .ref (ad 61), .ref (ad 62), .ref (ad 65), .ref (ad 66), .long th_none, .long th_all1, .long th_all2, .int th_k1, .int th_k2, .int th_size])) (h61 : C 61 = aF g 10 (fun i => if i < 10 then some (ad (67 + i)) else none)) (hF_ : PoolF C fC fS fM fT fY) (hS_ : PoolS g ad C sL sT sF sU) (hf : f_X6_nodesThatFit p0 t_down t_min t_gone t_rain t_tell t_there wa_g th_size sL sT sF sU fC fS fM fT fY = some rr) : Met l yX6_nodesThatFit wsX6_nodesThatFit rmX6_nodesThatFit (PcW D g N ad C sz [.ref (ad 60), .int p0]) (QiW D N ad sz tP rr.1 (fun C' => (∀ i : Nat, (i < 24 ∨ 64 < i ∨ i = 60 ∨ i = 61) → C' i = C i) ∧ (PoolS g ad C' rr.2.1 rr.2.2.1 rr.2.2.2.1 rr.2.2.2.2))) 0 0 (Aw N ad sz) := by
  refine Met.ofW (cc := cX6_nodesThatFit) (maxL := 4) (ret := (some .int)) (by decide) rfl ?_
  intro p e s m args below meth c s₁ B hml hv
  obtain ⟨hav, hsz, hK, hP⟩ := hv
  subst hsz
  have hx := B.exec
  have hb := B.bytes
  have hr := B.returns
  have hts := atoms_spec (ws := wsX6_nodesThatFit) B.pre
  have hown : s.vm.findClass RX6 = some m.cls := findClass_of_methodNamed B.named
  have hlocks := B.notSynchronized
  generalize hQ : MQ below (QiW D N ad s.heap.size tP rr.1 (fun C' => (∀ i : Nat, (i < 24 ∨ 64 < i ∨ i = 60 ∨ i = 61) → C' i = C i) ∧ (PoolS g ad C' rr.2.1 rr.2.2.1 rr.2.2.2.1 rr.2.2.2.2))) args s 0 0 (Aw N ad s.heap.size) = QQ
  have hS : va_S (Aw N ad s.heap.size) s.heap s.heap [] := va_S.rf
  have hA : ∀ q, s.heap.size ≤ q → (Aw N ad s.heap.size) q := fun q h => Or.inr h
  have hAd : ∀ j : Nat, j < N → (Aw N ad s.heap.size) (ad j) := fun j h => Or.inl ⟨j, h, rfl⟩
  obtain ⟨C0, hC0⟩ : ∃ C0 : Nat → va_E, C0 = C := ⟨_, rfl⟩
  have hag : ∀ i : Nat, (i < 24 ∨ 64 < i ∨ i = 60 ∨ i = 61) → C i = C0 i := fun i _ => by rw [hC0]
  rw [← hC0] at hQ
  have k0 := hts (.fieldLink RX6 31 "UpDrain$Thoughts" "plan" "LUpDrain$Town;") (List.mem_of_getElem? (i := 1) rfl)
  have nX6 : ∀ w ∈ u_ws RX6 TX6 13, w ∈ wsX6_nodesThatFit := fun _ h => List.mem_cons_of_mem _ (List.mem_append_left _ (List.mem_append_left _ (List.mem_append_left _ (List.mem_append_left _ (List.mem_append_right _ h)))))
  have k2 := nf_39 (A := args) hK
  have nX7 : ∀ w ∈ u_ws RX7 TX7 16, w ∈ wsX6_nodesThatFit := fun _ h => List.mem_cons_of_mem _ (List.mem_append_left _ (List.mem_append_left _ (List.mem_append_left _ (List.mem_append_right _ h))))
  have k4 := nm_8 hK
  have k5 := hts (.initialized RX10) (List.mem_of_getElem? (i := 4) rfl)
  have k6 := hts (.static yX10_has) (List.mem_of_getElem? (i := 3) rfl)
  have k7 := hts (.fieldLink RX6 20 "UpDrain$Thoughts" "trial" "LUpDrain$Stream;") (List.mem_of_getElem? (i := 2) rfl)
  have hE := lg_entry_eq m [.ref (ad 60), .int p0] 4
  rw [← hav] at hE
  rw [hE]
  have hl := lv_entry [.ref (ad 60), .int p0] (n := 4) (Nat.le_of_ble_eq_true rfl)
  generalize (lg_sl [.ref (ad 60), .int p0] ++ List.replicate (4 - (lg_sl [.ref (ad 60), .int p0]).length) Slot.unset).toArray = ls at hl ⊢
  have hl : lv_has ls 4 [(0, .ref (ad 60)), (1, .int p0)] := hl
  clear hE
  unfold f_X6_nodesThatFit at hf
  suffices hgo : ∀ (H : Heap) (locs : List Loc), va_P D vwCl (wd N ad C) H → va_S (Aw N ad s.heap.size) s.heap H locs → W p l e (headSpec wsX6_nodesThatFit rmX6_nodesThatFit).room s m args below meth c H locs 0 0 QQ (F0 m 0 ls []) from hgo s.heap [] hP hS
  clear hS hP
  intro H locs hP hS
  refine lv_iconst (v := 0) hx hb dX6_nodesThatFit_0 (by decide) ?_
  refine lv_istore_n (lv' := [(2, .int 0), (0, .ref (ad 60)), (1, .int p0)]) hx hb dX6_nodesThatFit_1 rfl hl (by decide) rfl (fun ls hl => ?_)
  refine lv_iconst (v := 0) hx hb dX6_nodesThatFit_2 (by decide) ?_
  refine lv_istore_n (lv' := [(3, .int 0), (2, .int 0), (0, .ref (ad 60)), (1, .int p0)]) hx hb dX6_nodesThatFit_3 rfl hl (by decide) rfl (fun ls hl => ?_)
  have key4 : ∀ (ko : Int32 → Int32 → (Nat → Int32) → (Nat → Nat → Int32) → (Nat → Nat → Int32) → (Nat → Int32) → Option (Int32 × (Nat → Nat → Int32) × (Nat → Nat → Int32) × (Nat → Int32) × (Nat → Int32))), (∀ (x7 : Int32) (x8 : Int32) (f9 : Nat → Int32) (f10 : Nat → Nat → Int32) (f11 : Nat → Nat → Int32) (f12 : Nat → Int32) (C : Nat → va_E) (H : Heap) (locs : List Loc) (ls : Array Slot), va_P D vwCl (wd N ad C) H → va_S (Aw N ad s.heap.size) s.heap H locs → (∀ i : Nat, (i < 24 ∨ 64 < i ∨ i = 60 ∨ i = 61) → C i = C0 i) → C 5 = .inr (7, [.ref (ad 6), .ref (ad 7), .ref (ad 8), .ref (ad 9), .ref (ad 10), .ref (ad 11), .ref (ad 12), .ref (ad 13), .ref (ad 14), .ref (ad 15), .ref (ad 16), .ref (ad 17), .ref (ad 18), .int t_there, .int t_lift, .int t_none]) → C 6 = aI g 12 t_down → C 7 = aI g 12 t_min → C 9 = aI g 12 t_gone → C 15 = aI g 24 t_rain → C 16 = aI g 4 t_tell → C 21 = .inr (8, [.ref (ad 5), .ref (ad 19), .ref (ad 22), .ref (ad 23)]) → C 22 = aI g 12 wa_g → C 60 = .inr (6, [.ref (ad 5), .ref (ad 19), .ref (ad 21), .ref (ad 61), .ref (ad 62), .ref (ad 65), .ref (ad 66), .long th_none, .long th_all1, .long th_all2, .int th_k1, .int th_k2, .int th_size]) → C 61 = aF g 10 (fun i => if i < 10 then some (ad (67 + i)) else none) → PoolF C fC fS fM fT fY → PoolS g ad C f10 f11 f9 f12 → lv_has ls 4 [(0, .ref (ad 60)), (1, .int p0), (2, .int x7), (3, .int x8)] → ko x7 x8 f9 f10 f11 f12 = some rr → W p l e (headSpec wsX6_nodesThatFit rmX6_nodesThatFit).room s m args below meth c H locs 0 0 QQ (F0 m 63 ls [])) → ∀ (n : Nat) (x1 : Int32) (x2 : Int32) (f3 : Nat → Int32) (f4 : Nat → Nat → Int32) (f5 : Nat → Nat → Int32) (f6 : Nat → Int32) (C : Nat → va_E) (H : Heap) (locs : List Loc) (ls : Array Slot), va_P D vwCl (wd N ad C) H → va_S (Aw N ad s.heap.size) s.heap H locs → (∀ i : Nat, (i < 24 ∨ 64 < i ∨ i = 60 ∨ i = 61) → C i = C0 i) → C 5 = .inr (7, [.ref (ad 6), .ref (ad 7), .ref (ad 8), .ref (ad 9), .ref (ad 10), .ref (ad 11), .ref (ad 12), .ref (ad 13), .ref (ad 14), .ref (ad 15), .ref (ad 16), .ref (ad 17), .ref (ad 18), .int t_there, .int t_lift, .int t_none]) → C 6 = aI g 12 t_down → C 7 = aI g 12 t_min → C 9 = aI g 12 t_gone → C 15 = aI g 24 t_rain → C 16 = aI g 4 t_tell → C 21 = .inr (8, [.ref (ad 5), .ref (ad 19), .ref (ad 22), .ref (ad 23)]) → C 22 = aI g 12 wa_g → C 60 = .inr (6, [.ref (ad 5), .ref (ad 19), .ref (ad 21), .ref (ad 61), .ref (ad 62), .ref (ad 65), .ref (ad 66), .long th_none, .long th_all1, .long th_all2, .int th_k1, .int th_k2, .int th_size]) → C 61 = aF g 10 (fun i => if i < 10 then some (ad (67 + i)) else none) → PoolF C fC fS fM fT fY → PoolS g ad C f4 f5 f3 f6 → lv_has ls 4 [(0, .ref (ad 60)), (1, .int p0), (2, .int x1), (3, .int x2)] → LX6_nodesThatFit_4 p0 t_down t_min t_gone t_rain t_tell t_there wa_g th_size fC fS fM fT fY ko n x1 x2 f3 f4 f5 f6 = some rr → W p l e (headSpec wsX6_nodesThatFit rmX6_nodesThatFit).room s m args below meth c H locs 0 0 QQ (F0 m 4 ls []) := by
    intro ko hko n
    induction n with
    | zero =>
      intro x1 x2 f3 f4 f5 f6 C H locs ls hP hS hag h5 h6 h7 h9 h15 h16 h21 h22 h60 h61 hF_ hS_ hl hf
      rw [LX6_nodesThatFit_4_z] at hf
      cases hf
    | succ n ih =>
      intro x1 x2 f3 f4 f5 f6 C H locs ls hP hS hag h5 h6 h7 h9 h15 h16 h21 h22 h60 h61 hF_ hS_ hl hf
      rw [LX6_nodesThatFit_4_s] at hf
      refine lv_iload_n hx hb dX6_nodesThatFit_4 rfl (lv_at hl 3 rfl) ?_
      refine lv_bipush (v := 12) hx hb dX6_nodesThatFit_5 (by decide) ?_
      refine lv_icmp_ge (tgt := 63) hx hb dX6_nodesThatFit_7 (by decide) (fun c13 => ?_) (fun c13 => ?_)
      · have hf := it_e c13 hf
        exact hko x1 x2 f3 f4 f5 f6 C H locs ls hP hS hag h5 h6 h7 h9 h15 h16 h21 h22 h60 h61 hF_ hS_ (lv_sub hl [0, 1, 2, 3] rfl) hf
      · have hf := ie_e c13 hf
        refine lv_aload_n hx hb dX6_nodesThatFit_10 rfl (lv_at hl 0 rfl) ?_
        refine r_get (own := RX6) (T := TX6) (n := 13) (ci := 6) (v := .ref (ad 5)) hx hb hts nX6 hown hK hP (by omega) h60 rfl 0 (by decide) k0 rfl dX6_nodesThatFit_11 ?_
        refine r_getN (own := RX6) (T := TX7) (n := 16) (ci := 7) (v := .int t_there) hx hb hts nX7 hown hK hP (by omega) h5 rfl 13 (by decide) k2 rfl dX6_nodesThatFit_14 ?_
        refine lv_iload_n hx hb dX6_nodesThatFit_17 rfl (lv_at hl 3 rfl) ?_
        obtain ⟨q14, hq14, hf⟩ := bd_e hf
        refine k_iR (va_runSN (As := [.int t_there, .int x2]) (rest := []) ⟨hx, hb, hml, hown, hts⟩ (c_X10_has (l := l) (sz := H.size) (p0 := t_there) (p1 := x2) hq14) ⟨va_cnB 2 hts gX6_nodesThatFit_X10_has_n83 rfl rfl rfl k4 k5 (by decide +kernel) ⟨Nat.le_of_ble_eq_true rfl, Nat.le_of_ble_eq_true rfl⟩, k6, trivial⟩ preS0 rfl rfl hl.1 rfl (lv_room (Nat.le_of_ble_eq_true rfl)) dX6_nodesThatFit_18 ⟨Nat.le_of_ble_eq_true rfl, Nat.le_of_ble_eq_true rfl⟩) hA hP hS (fun H locs hP hS hbz_q14 => ?_)
        obtain ⟨q15, htq15, hf⟩ := bd_e hf
        have jnq15 : ∀ (C : Nat → va_E) (H : Heap) (locs : List Loc) (ls : Array Slot), va_P D vwCl (wd N ad C) H → va_S (Aw N ad s.heap.size) s.heap H locs → (∀ i : Nat, (i < 24 ∨ 64 < i ∨ i = 60 ∨ i = 61) → C i = C0 i) → C 5 = .inr (7, [.ref (ad 6), .ref (ad 7), .ref (ad 8), .ref (ad 9), .ref (ad 10), .ref (ad 11), .ref (ad 12), .ref (ad 13), .ref (ad 14), .ref (ad 15), .ref (ad 16), .ref (ad 17), .ref (ad 18), .int t_there, .int t_lift, .int t_none]) → C 6 = aI g 12 t_down → C 7 = aI g 12 t_min → C 9 = aI g 12 t_gone → C 15 = aI g 24 t_rain → C 16 = aI g 4 t_tell → C 21 = .inr (8, [.ref (ad 5), .ref (ad 19), .ref (ad 22), .ref (ad 23)]) → C 22 = aI g 12 wa_g → C 60 = .inr (6, [.ref (ad 5), .ref (ad 19), .ref (ad 21), .ref (ad 61), .ref (ad 62), .ref (ad 65), .ref (ad 66), .long th_none, .long th_all1, .long th_all2, .int th_k1, .int th_k2, .int th_size]) → C 61 = aF g 10 (fun i => if i < 10 then some (ad (67 + i)) else none) → PoolF C fC fS fM fT fY → PoolS g ad C q15.2.2.1 q15.2.2.2.1 q15.2.1 q15.2.2.2.2 → lv_has ls 4 [(0, .ref (ad 60)), (1, .int p0), (2, .int q15.1), (3, .int x2)] → W p l e (headSpec wsX6_nodesThatFit rmX6_nodesThatFit).room s m args below meth c H locs 0 0 QQ (F0 m 57 ls []) := by
          intro C H locs ls hP hS hag h5 h6 h7 h9 h15 h16 h21 h22 h60 h61 hF_ hS_ hl
          obtain ⟨x16, ex16, hf⟩ := lt_e hf
          refine lv_iinc (v := x16) (lv' := [(3, .int x16), (0, .ref (ad 60)), (1, .int p0), (2, .int q15.1)]) hx hb dX6_nodesThatFit_57 hl (k := 3) rfl (by rw [ex16]; rfl) (by decide) rfl (fun ls hl => ?_)
          refine lv_goto (tgt := 4) hx hb dX6_nodesThatFit_60 (by decide) ?_
          exact ih q15.1 x16 q15.2.1 q15.2.2.1 q15.2.2.2.1 q15.2.2.2.2 C H locs ls hP hS hag h5 h6 h7 h9 h15 h16 h21 h22 h60 h61 hF_ hS_ (lv_sub hl [1, 2, 3, 0] rfl) hf
        clear hf
        have hf := htq15
        refine lv_if_eq (tgt := 57) hx hb dX6_nodesThatFit_21 (by decide) (fun c17 => ?_) (fun c17 => ?_)
        · have hf := it_e c17 hf
          obtain rfl := Option.some.inj hf
          exact jnq15 C H locs ls hP hS hag h5 h6 h7 h9 h15 h16 h21 h22 h60 h61 hF_ hS_ (lv_sub hl [0, 1, 2, 3] rfl)
        · have hf := ie_e c17 hf
          refine lv_aload_n hx hb dX6_nodesThatFit_24 rfl (lv_at hl 0 rfl) ?_
          refine r_get (own := RX6) (T := TX6) (n := 13) (ci := 6) (v := .ref (ad 62)) hx hb hts nX6 hown hK hP (by omega) h60 rfl 4 (by decide) k7 rfl dX6_nodesThatFit_25 ?_
          refine lv_aload_n hx hb dX6_nodesThatFit_28 rfl (lv_at hl 0 rfl) ?_
          refine r_get (own := RX6) (T := TX6) (n := 13) (ci := 6) (v := .ref (ad 5)) hx hb hts nX6 hown hK hP (by omega) h60 rfl 0 (by decide) k0 rfl dX6_nodesThatFit_29 ?_
          refine lv_iload_n hx hb dX6_nodesThatFit_32 rfl (lv_at hl 3 rfl) ?_
          refine lv_iload_n hx hb dX6_nodesThatFit_33 rfl (lv_at hl 1 rfl) ?_
          refine lv_iconst (v := 0) hx hb dX6_nodesThatFit_34 (by decide) ?_
          refine lv_bipush (v := 23) hx hb dX6_nodesThatFit_35 (by decide) ?_
          obtain ⟨q18, hq18, hf⟩ := bd_e hf
          refine k_vW (va_runV (C := RX4) (As := [.ref (ad 5), .int x2, .int p0, .int 0, .int 23]) (rest := []) ⟨hx, hb, hml, hown, hts⟩ (c_X4_follow (l := l) (sz := H.size) (p1 := x2) (p2 := p0) (p3 := 0) (p4 := 23) (b := 62) hN hI isSB_t h5 h6 h7 h9 hS_ hq18) (cwV 5 hts gX6_nodesThatFit_X4_follow rfl rfl rfl (by decide +kernel) ⟨Nat.le_of_ble_eq_true rfl, Nat.le_of_ble_eq_true rfl⟩) (preV_of hK hP (isSB_0 hN isSB_t) (hS_ 62 isSB_t).1 rfl) rfl rfl hl.1 rfl (lv_room (Nat.le_of_ble_eq_true rfl)) dX6_nodesThatFit_37 ⟨Nat.le_of_ble_eq_true rfl, Nat.le_of_ble_eq_true rfl⟩) hA hAd hS (fun C H locs hP hS hpo => ?_)
          obtain ⟨he, hS_⟩ := hpo
          have hag : ∀ i : Nat, (i < 24 ∨ 64 < i ∨ i = 60 ∨ i = 61) → C i = C0 i := fun i h => (he i (by omega)).trans (hag i h)
          have h5 := (he 5 (by decide)).trans h5
          have h6 := (he 6 (by decide)).trans h6
          have h7 := (he 7 (by decide)).trans h7
          have h9 := (he 9 (by decide)).trans h9
          have h15 := (he 15 (by decide)).trans h15
          have h16 := (he 16 (by decide)).trans h16
          have h21 := (he 21 (by decide)).trans h21
          have h22 := (he 22 (by decide)).trans h22
          have h60 := (he 60 (by decide)).trans h60
          have h61 := (he 61 (by decide)).trans h61
          have hF_ := hF_.ne (fun i h1 => he i (by omega))
          refine lv_iload_n hx hb dX6_nodesThatFit_40 rfl (lv_at hl 2 rfl) ?_
          refine lv_aload_n hx hb dX6_nodesThatFit_41 rfl (lv_at hl 0 rfl) ?_
          obtain ⟨q19, hq19, hf⟩ := bd_e hf
          refine k_iR (va_runV (C := RX6) (As := []) (rest := [.int x1]) ⟨hx, hb, hml, hown, hts⟩ (c_X6_trialFits (l := l) (sz := H.size)  hN h5 h15 h16 h21 h22 h60 h61 hF_ hS_ hq19) (cwV 0 hts gX6_nodesThatFit_X6_trialFits rfl rfl rfl (by decide +kernel) ⟨Nat.le_of_ble_eq_true rfl, Nat.le_of_ble_eq_true rfl⟩) (preV_of hK hP (by omega) h60 rfl) rfl rfl hl.1 rfl (lv_room (Nat.le_of_ble_eq_true rfl)) dX6_nodesThatFit_42 ⟨Nat.le_of_ble_eq_true rfl, Nat.le_of_ble_eq_true rfl⟩) hA hP hS (fun H locs hP hS hbz_q19 => ?_)
          obtain ⟨q20, htq20, hf⟩ := bd_e hf
          have jnq20 : ∀ (C : Nat → va_E) (H : Heap) (locs : List Loc) (ls : Array Slot), va_P D vwCl (wd N ad C) H → va_S (Aw N ad s.heap.size) s.heap H locs → (∀ i : Nat, (i < 24 ∨ 64 < i ∨ i = 60 ∨ i = 61) → C i = C0 i) → C 5 = .inr (7, [.ref (ad 6), .ref (ad 7), .ref (ad 8), .ref (ad 9), .ref (ad 10), .ref (ad 11), .ref (ad 12), .ref (ad 13), .ref (ad 14), .ref (ad 15), .ref (ad 16), .ref (ad 17), .ref (ad 18), .int t_there, .int t_lift, .int t_none]) → C 6 = aI g 12 t_down → C 7 = aI g 12 t_min → C 9 = aI g 12 t_gone → C 15 = aI g 24 t_rain → C 16 = aI g 4 t_tell → C 21 = .inr (8, [.ref (ad 5), .ref (ad 19), .ref (ad 22), .ref (ad 23)]) → C 22 = aI g 12 wa_g → C 60 = .inr (6, [.ref (ad 5), .ref (ad 19), .ref (ad 21), .ref (ad 61), .ref (ad 62), .ref (ad 65), .ref (ad 66), .long th_none, .long th_all1, .long th_all2, .int th_k1, .int th_k2, .int th_size]) → C 61 = aF g 10 (fun i => if i < 10 then some (ad (67 + i)) else none) → PoolF C fC fS fM fT fY → PoolS g ad C q18.1 q18.2.1 q18.2.2.1 q18.2.2.2 → lv_has ls 4 [(0, .ref (ad 60)), (1, .int p0), (2, .int x1), (3, .int x2)] → W p l e (headSpec wsX6_nodesThatFit rmX6_nodesThatFit).room s m args below meth c H locs 0 0 QQ (F0 m 55 ls [.int q20, .int x1]) := by
            intro C H locs ls hP hS hag h5 h6 h7 h9 h15 h16 h21 h22 h60 h61 hF_ hS_ hl
            refine lv_ior hx hb dX6_nodesThatFit_55 ?_
            obtain ⟨x21, ex21, hf⟩ := lt_e hf
            refine tp_i ex21 ?_
            refine lv_istore_n (lv' := [(2, .int x21), (0, .ref (ad 60)), (1, .int p0), (3, .int x2)]) hx hb dX6_nodesThatFit_56 rfl hl (by decide) rfl (fun ls hl => ?_)
            obtain rfl := Option.some.inj hf
            exact jnq15 C H locs ls hP hS hag h5 h6 h7 h9 h15 h16 h21 h22 h60 h61 hF_ hS_ (lv_sub hl [1, 2, 0, 3] rfl)
          clear hf
          have hf := htq20
          refine lv_if_eq (tgt := 54) hx hb dX6_nodesThatFit_45 (by decide) (fun c22 => ?_) (fun c22 => ?_)
          · have hf := it_e c22 hf
            refine lv_iconst (v := 0) hx hb dX6_nodesThatFit_54 (by decide) ?_
            obtain rfl := Option.some.inj hf
            exact jnq20 C H locs ls hP hS hag h5 h6 h7 h9 h15 h16 h21 h22 h60 h61 hF_ hS_ (lv_sub hl [0, 1, 2, 3] rfl)
          · have hf := ie_e c22 hf
            refine lv_iconst (v := 1) hx hb dX6_nodesThatFit_48 (by decide) ?_
            refine lv_iload_n hx hb dX6_nodesThatFit_49 rfl (lv_at hl 3 rfl) ?_
            refine lv_ishl hx hb dX6_nodesThatFit_50 ?_
            refine lv_goto (tgt := 55) hx hb dX6_nodesThatFit_51 (by decide) ?_
            obtain rfl := Option.some.inj hf
            exact jnq20 C H locs ls hP hS hag h5 h6 h7 h9 h15 h16 h21 h22 h60 h61 hF_ hS_ (lv_sub hl [0, 1, 2, 3] rfl)
  refine key4 _ (fun x7 x8 f9 f10 f11 f12 C H locs ls hP hS hag h5 h6 h7 h9 h15 h16 h21 h22 h60 h61 hF_ hS_ hl hf => ?_) FU 0 0 sF sL sT sU C H locs ls hP hS hag h5 h6 h7 h9 h15 h16 h21 h22 h60 h61 hF_ hS_ (lv_sub hl [2, 3, 1, 0] rfl) hf
  refine lv_iload_n hx hb dX6_nodesThatFit_63 rfl (lv_at hl 2 rfl) ?_
  obtain rfl := Option.some.inj hf
  rw [← hQ]
  exact e_iW hx hb hr rfl (tP_i _) hP hS ⟨hag, hS_⟩ hlocks dX6_nodesThatFit_64

def f_X2_doubt (h_solved : Int32) : Option (Int32) :=
  some (0)
abbrev rmX2_doubt : Room := { frames := 0, cells := 0, slots := 0, locals := 0 }
set_option maxHeartbeats 4000000 in
set_option maxRecDepth 100000 in
theorem c_X2_doubt {l : Launch} {D : va_G} {g : Nat → ClassId} {N : Nat} {ad : Nat → Nat} {C : Nat → va_E} {sz : Nat} {h_solved : Int32}  {rr : Int32} (hN : 86 ≤ N) (hI : Inj N ad) (h77 : C 77 = .inr (2, [.ref (ad 5), .ref (ad 19), .ref (ad 78), .ref (ad 79), .ref (ad 80), .int h_solved])) (hf : f_X2_doubt h_solved = some rr) : Met l yX2_doubt wsX2_doubt rmX2_doubt (PcW D g N ad C sz [.ref (ad 77)]) (QvW D N ad sz (fun C' => (∀ i : Nat, i ≠ 77 → C' i = C i) ∧ (C' 77 = .inr (2, [.ref (ad 5), .ref (ad 19), .ref (ad 78), .ref (ad 79), .ref (ad 80), .int rr])))) 0 0 (Aw N ad sz) := by
  refine Met.ofW (cc := cX2_doubt) (maxL := 1) (ret := none) (by decide) rfl ?_
  intro p e s m args below meth c s₁ B hml hv
  obtain ⟨hav, hsz, hK, hP⟩ := hv
  subst hsz
  have hx := B.exec
  have hb := B.bytes
  have hr := B.returns
  have hts := atoms_spec (ws := wsX2_doubt) B.pre
  have hown : s.vm.findClass RX2 = some m.cls := findClass_of_methodNamed B.named
  have hlocks := B.notSynchronized
  generalize hQ : MQ below (QvW D N ad s.heap.size (fun C' => (∀ i : Nat, i ≠ 77 → C' i = C i) ∧ (C' 77 = .inr (2, [.ref (ad 5), .ref (ad 19), .ref (ad 78), .ref (ad 79), .ref (ad 80), .int rr])))) args s 0 0 (Aw N ad s.heap.size) = QQ
  have hS : va_S (Aw N ad s.heap.size) s.heap s.heap [] := va_S.rf
  have hA : ∀ q, s.heap.size ≤ q → (Aw N ad s.heap.size) q := fun q h => Or.inr h
  have hAd : ∀ j : Nat, j < N → (Aw N ad s.heap.size) (ad j) := fun j h => Or.inl ⟨j, h, rfl⟩
  obtain ⟨C0, hC0⟩ : ∃ C0 : Nat → va_E, C0 = C := ⟨_, rfl⟩
  have hag : ∀ i : Nat, i ≠ 77 → C i = C0 i := fun i _ => by rw [hC0]
  rw [← hC0] at hQ
  have k0 := hts (.fieldLink RX2 29 "UpDrain$Hunt" "solved" "Z") (List.mem_of_getElem? (i := 1) rfl)
  have nX2 : ∀ w ∈ u_ws RX2 TX2 6, w ∈ wsX2_doubt := fun _ h => List.mem_cons_of_mem _ (List.mem_append_right _ h)
  have hE := lg_entry_eq m [.ref (ad 77)] 1
  rw [← hav] at hE
  rw [hE]
  have hl := lv_entry [.ref (ad 77)] (n := 1) (Nat.le_of_ble_eq_true rfl)
  generalize (lg_sl [.ref (ad 77)] ++ List.replicate (1 - (lg_sl [.ref (ad 77)]).length) Slot.unset).toArray = ls at hl ⊢
  have hl : lv_has ls 1 [(0, .ref (ad 77))] := hl
  clear hE
  unfold f_X2_doubt at hf
  suffices hgo : ∀ (H : Heap) (locs : List Loc), va_P D vwCl (wd N ad C) H → va_S (Aw N ad s.heap.size) s.heap H locs → W p l e (headSpec wsX2_doubt rmX2_doubt).room s m args below meth c H locs 0 0 QQ (F0 m 0 ls []) from hgo s.heap [] hP hS
  clear hS hP
  intro H locs hP hS
  refine lv_aload_n hx hb dX2_doubt_0 rfl (lv_at hl 0 rfl) ?_
  refine lv_iconst (v := 0) hx hb dX2_doubt_1 (by decide) ?_
  refine r_put (own := RX2) (T := TX2) (n := 6) (ci := 2) (v := .int 0) hx hb hts nX2 tyX2 tyX2_ok nmX2 hown hK hI hAd hP hS (by omega) h77 rfl 5 (by decide) k0 rfl (bz_n bz0) (bz_f bz0) (Nat.le_of_ble_eq_true rfl) dX2_doubt_2 (fun C H locs hP hS he hn => ?_)
  have hag : ∀ i : Nat, i ≠ 77 → C i = C0 i := fun i h => (he i (by omega)).trans (hag i h)
  have h77 : C 77 = .inr (2, [.ref (ad 5), .ref (ad 19), .ref (ad 78), .ref (ad 79), .ref (ad 80), .int 0]) := hn
  obtain rfl := Option.some.inj hf
  rw [← hQ]
  exact e_vW hx hb hr hP hS ⟨hag, h77⟩ hlocks dX2_doubt_5

def LX2_makeRoomFor_4 (p0 : Int32) (ko : Int32 → Int32 → Option ((Nat → Int32) × (Nat → Int32) × (Nat → Int32) × Nat × Nat × Nat)) : Nat → Int32 → Int32 → Option ((Nat → Int32) × (Nat → Int32) × (Nat → Int32) × Nat × Nat × Nat)
  | 0, _, _ => none
  | n + 1, x1, x2 =>
    if 12 ≤ x2 then
      ko x1 x2
    else
      if p0 < x1 then
        ko x1 x2
      else
        lt ((x1 * 2) : Int32) fun x7 =>
        lt (x2 + 1 : Int32) fun x8 =>
        LX2_makeRoomFor_4 p0 ko n x7 x8
theorem LX2_makeRoomFor_4_z (p0 : Int32) (ko : Int32 → Int32 → Option ((Nat → Int32) × (Nat → Int32) × (Nat → Int32) × Nat × Nat × Nat)) (x1 : Int32) (x2 : Int32) : LX2_makeRoomFor_4 p0 ko 0 x1 x2 = none := rfl
theorem LX2_makeRoomFor_4_s (p0 : Int32) (ko : Int32 → Int32 → Option ((Nat → Int32) × (Nat → Int32) × (Nat → Int32) × Nat × Nat × Nat)) (n : Nat) (x1 : Int32) (x2 : Int32) : LX2_makeRoomFor_4 p0 ko (n + 1) x1 x2 =
    if 12 ≤ x2 then
      ko x1 x2
    else
      if p0 < x1 then
        ko x1 x2
      else
        lt ((x1 * 2) : Int32) fun x7 =>
        lt (x2 + 1 : Int32) fun x8 =>
        LX2_makeRoomFor_4 p0 ko n x7 x8 := rfl
def f_X2_makeRoomFor (p0 : Int32) (h_solved : Int32) (h_few : Nat → Int32) (h_sum : Nat → Int32) (h_min : Nat → Int32) (hn1 : Nat) (hn2 : Nat) (hn3 : Nat) : Option ((Nat → Int32) × (Nat → Int32) × (Nat → Int32) × Nat × Nat × Nat) :=
  LX2_makeRoomFor_4 p0 (fun x3 x4 =>
    if x3 ≤ (nI hn1) then
      some (h_few, h_sum, h_min, hn1, hn2, hn3)
    else
      nw 4096 (x3) fun n10 =>
      nw 4096 (x3) fun n12 =>
      nw 49152 ((x3 * 12)) fun n14 =>
      some ((fun _ => 0), (fun _ => 0), (fun _ => 0), n10, n12, n14)) FU 1 0
abbrev rmX2_makeRoomFor : Room := { frames := 0, cells := 3, slots := 57344, locals := 0 }
set_option maxHeartbeats 4000000 in
set_option maxRecDepth 100000 in
theorem c_X2_makeRoomFor {l : Launch} {D : va_G} {g : Nat → ClassId} {N : Nat} {ad : Nat → Nat} {C : Nat → va_E} {sz : Nat} {h_solved : Int32} {hn1 : Nat} {h_few : Nat → Int32} {hn2 : Nat} {h_sum : Nat → Int32} {hn3 : Nat} {h_min : Nat → Int32} {p0 : Int32} {rr : (Nat → Int32) × (Nat → Int32) × (Nat → Int32) × Nat × Nat × Nat} (hN : 86 ≤ N) (hI : Inj N ad) (h77 : C 77 = .inr (2, [.ref (ad 5), .ref (ad 19), .ref (ad 78), .ref (ad 79), .ref (ad 80), .int h_solved])) (h78 : C 78 = aI g hn1 h_few) (h79 : C 79 = aI g hn2 h_sum) (h80 : C 80 = aI g hn3 h_min) (hf : f_X2_makeRoomFor p0 h_solved h_few h_sum h_min hn1 hn2 hn3 = some rr) : Met l yX2_makeRoomFor wsX2_makeRoomFor rmX2_makeRoomFor (PcW D g N ad C sz [.ref (ad 77), .int p0]) (QvA D N ad sz (fun ad' C' => (∀ i : Nat, i ≠ 78 → i ≠ 79 → i ≠ 80 → ad' i = ad i) ∧ (∀ i : Nat, i ≠ 77 ∧ i ≠ 78 ∧ i ≠ 79 ∧ i ≠ 80 → C' i = C i) ∧ (C' 77 = .inr (2, [.ref (ad' 5), .ref (ad' 19), .ref (ad' 78), .ref (ad' 79), .ref (ad' 80), .int h_solved])) ∧ (C' 78 = aI g rr.2.2.2.1 rr.1) ∧ (C' 79 = aI g rr.2.2.2.2.1 rr.2.1) ∧ (C' 80 = aI g rr.2.2.2.2.2 rr.2.2.1))) 3 57344 (Aw N ad sz) := by
  refine Met.ofW (cc := cX2_makeRoomFor) (maxL := 4) (ret := none) (by decide) rfl ?_
  intro p e s m args below meth c s₁ B hml hv
  obtain ⟨hav, hsz, hK, hP⟩ := hv
  subst hsz
  have hx := B.exec
  have hb := B.bytes
  have hr := B.returns
  have hts := atoms_spec (ws := wsX2_makeRoomFor) B.pre
  have hown : s.vm.findClass RX2 = some m.cls := findClass_of_methodNamed B.named
  have hlocks := B.notSynchronized
  generalize hQ : MQ below (QvA D N ad s.heap.size (fun ad' C' => (∀ i : Nat, i ≠ 78 → i ≠ 79 → i ≠ 80 → ad' i = ad i) ∧ (∀ i : Nat, i ≠ 77 ∧ i ≠ 78 ∧ i ≠ 79 ∧ i ≠ 80 → C' i = C i) ∧ (C' 77 = .inr (2, [.ref (ad' 5), .ref (ad' 19), .ref (ad' 78), .ref (ad' 79), .ref (ad' 80), .int h_solved])) ∧ (C' 78 = aI g rr.2.2.2.1 rr.1) ∧ (C' 79 = aI g rr.2.2.2.2.1 rr.2.1) ∧ (C' 80 = aI g rr.2.2.2.2.2 rr.2.2.1))) args s 3 57344 (Aw N ad s.heap.size) = QQ
  obtain ⟨ad0, had0⟩ : ∃ z : Nat → Nat, z = ad := ⟨_, rfl⟩
  rw [← had0] at hQ
  have hadT : ∀ i : Nat, i ≠ 78 → i ≠ 79 → i ≠ 80 → ad i = ad0 i := fun i _ _ _ => by rw [had0]
  have hS : va_S (Aw N ad0 s.heap.size) s.heap s.heap [] := va_S.rf
  have hA : ∀ q, s.heap.size ≤ q → (Aw N ad0 s.heap.size) q := fun q h => Or.inr h
  have hAd : ∀ j : Nat, j < N → (Aw N ad0 s.heap.size) (ad j) := fun j h => Or.inl ⟨j, h, by rw [had0]⟩
  obtain ⟨C0, hC0⟩ : ∃ C0 : Nat → va_E, C0 = C := ⟨_, rfl⟩
  have hag : ∀ i : Nat, i ≠ 77 ∧ i ≠ 78 ∧ i ≠ 79 ∧ i ≠ 80 → C i = C0 i := fun i _ => by rw [hC0]
  rw [← hC0] at hQ
  have k0 := hts (.fieldLink RX2 9 "UpDrain$Hunt" "fewestLids" "[I") (List.mem_of_getElem? (i := 1) rfl)
  have nX2 : ∀ w ∈ u_ws RX2 TX2 6, w ∈ wsX2_makeRoomFor := fun _ h => List.mem_cons_of_mem _ (List.mem_append_right _ h)
  have k2 := hts (.arrayClass .int) (List.mem_of_getElem? (i := 2) rfl)
  have k3 := hts (.fieldLink RX2 15 "UpDrain$Hunt" "leastSum" "[I") (List.mem_of_getElem? (i := 3) rfl)
  have k4 := hts (.fieldLink RX2 18 "UpDrain$Hunt" "leastMinutes" "[I") (List.mem_of_getElem? (i := 4) rfl)
  have hE := lg_entry_eq m [.ref (ad 77), .int p0] 4
  rw [← hav] at hE
  rw [hE]
  have hl := lv_entry [.ref (ad 77), .int p0] (n := 4) (Nat.le_of_ble_eq_true rfl)
  generalize (lg_sl [.ref (ad 77), .int p0] ++ List.replicate (4 - (lg_sl [.ref (ad 77), .int p0]).length) Slot.unset).toArray = ls at hl ⊢
  have hl : lv_has ls 4 [(0, .ref (ad 77)), (1, .int p0)] := hl
  clear hE
  unfold f_X2_makeRoomFor at hf
  suffices hgo : ∀ (H : Heap) (locs : List Loc), va_P D vwCl (wd N ad C) H → va_S (Aw N ad0 s.heap.size) s.heap H locs → W p l e (headSpec wsX2_makeRoomFor rmX2_makeRoomFor).room s m args below meth c H locs 0 0 QQ (F0 m 0 ls []) from hgo s.heap [] hP hS
  clear hS hP
  intro H locs hP hS
  refine lv_iconst (v := 1) hx hb dX2_makeRoomFor_0 (by decide) ?_
  refine lv_istore_n (lv' := [(2, .int 1), (0, .ref (ad 77)), (1, .int p0)]) hx hb dX2_makeRoomFor_1 rfl hl (by decide) rfl (fun ls hl => ?_)
  refine lv_iconst (v := 0) hx hb dX2_makeRoomFor_2 (by decide) ?_
  refine lv_istore_n (lv' := [(3, .int 0), (2, .int 1), (0, .ref (ad 77)), (1, .int p0)]) hx hb dX2_makeRoomFor_3 rfl hl (by decide) rfl (fun ls hl => ?_)
  have key4 : ∀ (ko : Int32 → Int32 → Option ((Nat → Int32) × (Nat → Int32) × (Nat → Int32) × Nat × Nat × Nat)), (∀ (x3 : Int32) (x4 : Int32) (C : Nat → va_E) (H : Heap) (locs : List Loc) (ls : Array Slot), va_P D vwCl (wd N ad C) H → va_S (Aw N ad0 s.heap.size) s.heap H locs → (∀ i : Nat, i ≠ 77 ∧ i ≠ 78 ∧ i ≠ 79 ∧ i ≠ 80 → C i = C0 i) → C 77 = .inr (2, [.ref (ad 5), .ref (ad 19), .ref (ad 78), .ref (ad 79), .ref (ad 80), .int h_solved]) → C 78 = aI g hn1 h_few → C 79 = aI g hn2 h_sum → C 80 = aI g hn3 h_min → lv_has ls 4 [(0, .ref (ad 77)), (1, .int p0), (2, .int x3), (3, .int x4)] → ko x3 x4 = some rr → W p l e (headSpec wsX2_makeRoomFor rmX2_makeRoomFor).room s m args below meth c H locs 0 0 QQ (F0 m 25 ls [])) → ∀ (n : Nat) (x1 : Int32) (x2 : Int32) (C : Nat → va_E) (H : Heap) (locs : List Loc) (ls : Array Slot), va_P D vwCl (wd N ad C) H → va_S (Aw N ad0 s.heap.size) s.heap H locs → (∀ i : Nat, i ≠ 77 ∧ i ≠ 78 ∧ i ≠ 79 ∧ i ≠ 80 → C i = C0 i) → C 77 = .inr (2, [.ref (ad 5), .ref (ad 19), .ref (ad 78), .ref (ad 79), .ref (ad 80), .int h_solved]) → C 78 = aI g hn1 h_few → C 79 = aI g hn2 h_sum → C 80 = aI g hn3 h_min → lv_has ls 4 [(0, .ref (ad 77)), (1, .int p0), (2, .int x1), (3, .int x2)] → LX2_makeRoomFor_4 p0 ko n x1 x2 = some rr → W p l e (headSpec wsX2_makeRoomFor rmX2_makeRoomFor).room s m args below meth c H locs 0 0 QQ (F0 m 4 ls []) := by
    intro ko hko n
    induction n with
    | zero =>
      intro x1 x2 C H locs ls hP hS hag h77 h78 h79 h80 hl hf
      rw [LX2_makeRoomFor_4_z] at hf
      cases hf
    | succ n ih =>
      intro x1 x2 C H locs ls hP hS hag h77 h78 h79 h80 hl hf
      rw [LX2_makeRoomFor_4_s] at hf
      refine lv_iload_n hx hb dX2_makeRoomFor_4 rfl (lv_at hl 3 rfl) ?_
      refine lv_bipush (v := 12) hx hb dX2_makeRoomFor_5 (by decide) ?_
      refine lv_icmp_ge (tgt := 25) hx hb dX2_makeRoomFor_7 (by decide) (fun c5 => ?_) (fun c5 => ?_)
      · have hf := it_e c5 hf
        exact hko x1 x2 C H locs ls hP hS hag h77 h78 h79 h80 (lv_sub hl [0, 1, 2, 3] rfl) hf
      · have hf := ie_e c5 hf
        refine lv_iload_n hx hb dX2_makeRoomFor_10 rfl (lv_at hl 2 rfl) ?_
        refine lv_iload_n hx hb dX2_makeRoomFor_11 rfl (lv_at hl 1 rfl) ?_
        refine lv_icmp_gt (tgt := 25) hx hb dX2_makeRoomFor_12 (by decide) (fun c6 => ?_) (fun c6 => ?_)
        · have hf := it_e c6 hf
          exact hko x1 x2 C H locs ls hP hS hag h77 h78 h79 h80 (lv_sub hl [0, 1, 2, 3] rfl) hf
        · have hf := ie_e c6 hf
          refine lv_iload_n hx hb dX2_makeRoomFor_15 rfl (lv_at hl 2 rfl) ?_
          refine lv_iconst (v := 2) hx hb dX2_makeRoomFor_16 (by decide) ?_
          refine lv_imul hx hb dX2_makeRoomFor_17 ?_
          obtain ⟨x7, ex7, hf⟩ := lt_e hf
          refine tp_i ex7 ?_
          refine lv_istore_n (lv' := [(2, .int x7), (0, .ref (ad 77)), (1, .int p0), (3, .int x2)]) hx hb dX2_makeRoomFor_18 rfl hl (by decide) rfl (fun ls hl => ?_)
          obtain ⟨x8, ex8, hf⟩ := lt_e hf
          refine lv_iinc (v := x8) (lv' := [(3, .int x8), (2, .int x7), (0, .ref (ad 77)), (1, .int p0)]) hx hb dX2_makeRoomFor_19 hl (k := 3) rfl (by rw [ex8]; rfl) (by decide) rfl (fun ls hl => ?_)
          refine lv_goto (tgt := 4) hx hb dX2_makeRoomFor_22 (by decide) ?_
          exact ih x7 x8 C H locs ls hP hS hag h77 h78 h79 h80 (lv_sub hl [2, 3, 1, 0] rfl) hf
  refine key4 _ (fun x3 x4 C H locs ls hP hS hag h77 h78 h79 h80 hl hf => ?_) FU 1 0 C H locs ls hP hS hag h77 h78 h79 h80 (lv_sub hl [2, 3, 1, 0] rfl) hf
  refine lv_iload_n hx hb dX2_makeRoomFor_25 rfl (lv_at hl 2 rfl) ?_
  refine lv_aload_n hx hb dX2_makeRoomFor_26 rfl (lv_at hl 0 rfl) ?_
  refine r_get (own := RX2) (T := TX2) (n := 6) (ci := 2) (v := .ref (ad 78)) hx hb hts nX2 hown hK hP (by omega) h77 rfl 2 (by decide) k0 rfl dX2_makeRoomFor_27 ?_
  refine r_alen hx hb hK hP (by omega) h78 dX2_makeRoomFor_30 ?_
  refine lv_icmp_le (tgt := 58) hx hb dX2_makeRoomFor_31 (by decide) (fun c9 => ?_) (fun c9 => ?_)
  · have hf := it_e c9 hf
    obtain rfl := Option.some.inj hf
    rw [← hQ]
    refine W.widen (k := 3) (n := 57344) (by omega) (by omega) ?_
    exact e_vA hx hb hr hI hAd hP hS ⟨hadT, hag, h77, h78, h79, h80⟩ hlocks dX2_makeRoomFor_58
  · have hf := ie_e c9 hf
    refine lv_aload_n hx hb dX2_makeRoomFor_34 rfl (lv_at hl 0 rfl) ?_
    refine lv_iload_n hx hb dX2_makeRoomFor_35 rfl (lv_at hl 2 rfl) ?_
    obtain ⟨i11, i11b, n10, en10, hf⟩ := nw_e hf
    have i11c : n10 ≤ 4096 := by rw [← en10]; exact i11b
    refine r_newfld (own := RX2) (T := TX2) (n := 6) (ci := 2) (t := 78) hx hb hts nX2 tyX2 tyX2_ok nmX2 hown k2 hK hI hA hAd hP hS (by omega) (by omega) (by decide) h77 rfl 2 (by decide) k0 rfl rfl (Nat.le_of_ble_eq_true rfl) i11 en10 (by omega) (by show _ ≤ 3; omega) (by show _ ≤ 57344; omega) dX2_makeRoomFor_36 dX2_makeRoomFor_38 (fun ad C H locs hI hAd had hP hS he hn hn2 => ?_)
    refine W.widen (k := 1) (n := 4096) (by omega) (by omega) ?_
    have hadT : ∀ i : Nat, i ≠ 78 → i ≠ 79 → i ≠ 80 → ad i = ad0 i := fun i h1 h2 h3 => (had i h1).trans (hadT i h1 h2 h3)
    have hag : ∀ i : Nat, i ≠ 77 ∧ i ≠ 78 ∧ i ≠ 79 ∧ i ≠ 80 → C i = C0 i := fun i h => (he i (by omega) (by omega)).trans (hag i h)
    have h77 : C 77 = .inr (2, [.ref (ad 5), .ref (ad 19), .ref (ad 78), .ref (ad 79), .ref (ad 80), .int h_solved]) := by rw [had 5 (by decide), had 19 (by decide), had 79 (by decide), had 80 (by decide)]; exact hn
    have h78 : C 78 = aI g n10 (fun _ => 0) := hn2
    have h79 := (he 79 (by decide) (by decide)).trans h79
    have h80 := (he 80 (by decide) (by decide)).trans h80
    have hl : lv_has ls 4 [(0, .ref (ad 77)), (1, .int p0), (2, .int x3), (3, .int x4)] := by rw [had 77 (by decide)]; exact hl
    refine lv_aload_n hx hb dX2_makeRoomFor_41 rfl (lv_at hl 0 rfl) ?_
    refine lv_iload_n hx hb dX2_makeRoomFor_42 rfl (lv_at hl 2 rfl) ?_
    obtain ⟨i13, i13b, n12, en12, hf⟩ := nw_e hf
    have i13c : n12 ≤ 4096 := by rw [← en12]; exact i13b
    refine r_newfld (own := RX2) (T := TX2) (n := 6) (ci := 2) (t := 79) hx hb hts nX2 tyX2 tyX2_ok nmX2 hown k2 hK hI hA hAd hP hS (by omega) (by omega) (by decide) h77 rfl 3 (by decide) k3 rfl rfl (Nat.le_of_ble_eq_true rfl) i13 en12 (by omega) (by show _ ≤ 3; omega) (by show _ ≤ 57344; omega) dX2_makeRoomFor_43 dX2_makeRoomFor_45 (fun ad C H locs hI hAd had hP hS he hn hn2 => ?_)
    refine W.widen (k := 2) (n := 8192) (by omega) (by omega) ?_
    have hadT : ∀ i : Nat, i ≠ 78 → i ≠ 79 → i ≠ 80 → ad i = ad0 i := fun i h1 h2 h3 => (had i h2).trans (hadT i h1 h2 h3)
    have hag : ∀ i : Nat, i ≠ 77 ∧ i ≠ 78 ∧ i ≠ 79 ∧ i ≠ 80 → C i = C0 i := fun i h => (he i (by omega) (by omega)).trans (hag i h)
    have h77 : C 77 = .inr (2, [.ref (ad 5), .ref (ad 19), .ref (ad 78), .ref (ad 79), .ref (ad 80), .int h_solved]) := by rw [had 5 (by decide), had 19 (by decide), had 78 (by decide), had 80 (by decide)]; exact hn
    have h78 := (he 78 (by decide) (by decide)).trans h78
    have h79 : C 79 = aI g n12 (fun _ => 0) := hn2
    have h80 := (he 80 (by decide) (by decide)).trans h80
    have hl : lv_has ls 4 [(0, .ref (ad 77)), (1, .int p0), (2, .int x3), (3, .int x4)] := by rw [had 77 (by decide)]; exact hl
    refine lv_aload_n hx hb dX2_makeRoomFor_48 rfl (lv_at hl 0 rfl) ?_
    refine lv_iload_n hx hb dX2_makeRoomFor_49 rfl (lv_at hl 2 rfl) ?_
    refine lv_bipush (v := 12) hx hb dX2_makeRoomFor_50 (by decide) ?_
    refine lv_imul hx hb dX2_makeRoomFor_52 ?_
    obtain ⟨i15, i15b, n14, en14, hf⟩ := nw_e hf
    have i15c : n14 ≤ 49152 := by rw [← en14]; exact i15b
    refine r_newfld (own := RX2) (T := TX2) (n := 6) (ci := 2) (t := 80) hx hb hts nX2 tyX2 tyX2_ok nmX2 hown k2 hK hI hA hAd hP hS (by omega) (by omega) (by decide) h77 rfl 4 (by decide) k4 rfl rfl (Nat.le_of_ble_eq_true rfl) i15 en14 (by omega) (by show _ ≤ 3; omega) (by show _ ≤ 57344; omega) dX2_makeRoomFor_53 dX2_makeRoomFor_55 (fun ad C H locs hI hAd had hP hS he hn hn2 => ?_)
    refine W.widen (k := 3) (n := 57344) (by omega) (by omega) ?_
    have hadT : ∀ i : Nat, i ≠ 78 → i ≠ 79 → i ≠ 80 → ad i = ad0 i := fun i h1 h2 h3 => (had i h3).trans (hadT i h1 h2 h3)
    have hag : ∀ i : Nat, i ≠ 77 ∧ i ≠ 78 ∧ i ≠ 79 ∧ i ≠ 80 → C i = C0 i := fun i h => (he i (by omega) (by omega)).trans (hag i h)
    have h77 : C 77 = .inr (2, [.ref (ad 5), .ref (ad 19), .ref (ad 78), .ref (ad 79), .ref (ad 80), .int h_solved]) := by rw [had 5 (by decide), had 19 (by decide), had 78 (by decide), had 79 (by decide)]; exact hn
    have h78 := (he 78 (by decide) (by decide)).trans h78
    have h79 := (he 79 (by decide) (by decide)).trans h79
    have h80 : C 80 = aI g n14 (fun _ => 0) := hn2
    have hl : lv_has ls 4 [(0, .ref (ad 77)), (1, .int p0), (2, .int x3), (3, .int x4)] := by rw [had 77 (by decide)]; exact hl
    obtain rfl := Option.some.inj hf
    rw [← hQ]
    exact e_vA hx hb hr hI hAd hP hS ⟨hadT, hag, h77, h78, h79, h80⟩ hlocks dX2_makeRoomFor_58

def f_X2_splits (p0 : Int32) (p1 : Int32) (w_over : Nat → Int32) : Option (Int32) :=
  ri w_over 12 (p0) fun x1 =>
  lt ((p1 &&& x1) : Int32) fun x3 =>
  if x3 = 0 then
    some (0)
  else
    if x3 = p1 then
      some (0)
    else
      some (1)
abbrev rmX2_splits : Room := { frames := 0, cells := 0, slots := 0, locals := 0 }
set_option maxHeartbeats 4000000 in
set_option maxRecDepth 100000 in
theorem c_X2_splits {l : Launch} {D : va_G} {g : Nat → ClassId} {N : Nat} {ad : Nat → Nat} {C : Nat → va_E} {sz : Nat} {w_src : Int32} {w_over : Nat → Int32} {h_solved : Int32} {p0 : Int32} {p1 : Int32} {rr : Int32} (hN : 86 ≤ N) (h19 : C 19 = .inr (9, [.ref (ad 5), .ref (ad 20), .int w_src])) (h20 : C 20 = aI g 12 w_over) (h77 : C 77 = .inr (2, [.ref (ad 5), .ref (ad 19), .ref (ad 78), .ref (ad 79), .ref (ad 80), .int h_solved])) (hf : f_X2_splits p0 p1 w_over = some rr) : Met l yX2_splits wsX2_splits rmX2_splits (PcW D g N ad C sz [.ref (ad 77), .int p0, .int p1]) (QiR sz bz rr) 0 0 (An sz) := by
  refine Met.ofW (cc := cX2_splits) (maxL := 4) (ret := (some .boolean)) (by decide) rfl ?_
  intro p e s m args below meth c s₁ B hml hv
  obtain ⟨hav, hsz, hK, hP⟩ := hv
  subst hsz
  have hx := B.exec
  have hb := B.bytes
  have hr := B.returns
  have hts := atoms_spec (ws := wsX2_splits) B.pre
  have hown : s.vm.findClass RX2 = some m.cls := findClass_of_methodNamed B.named
  have hlocks := B.notSynchronized
  generalize hQ : MQ below (QiR s.heap.size bz rr) args s 0 0 (An s.heap.size) = QQ
  have hS : va_S (An s.heap.size) s.heap s.heap [] := va_S.rf
  have hA : ∀ q, s.heap.size ≤ q → (An s.heap.size) q := fun q h => h
  have k0 := hts (.fieldLink RX2 25 "UpDrain$Hunt" "ways" "LUpDrain$Ways;") (List.mem_of_getElem? (i := 1) rfl)
  have nX2 : ∀ w ∈ u_ws RX2 TX2 6, w ∈ wsX2_splits := fun _ h => List.mem_cons_of_mem _ (List.mem_append_left _ (List.mem_append_right _ h))
  have k2 := nf_49 (A := args) hK
  have nX9 : ∀ w ∈ u_ws RX9 TX9 3, w ∈ wsX2_splits := fun _ h => List.mem_cons_of_mem _ (List.mem_append_right _ h)
  have hE := lg_entry_eq m [.ref (ad 77), .int p0, .int p1] 4
  rw [← hav] at hE
  rw [hE]
  have hl := lv_entry [.ref (ad 77), .int p0, .int p1] (n := 4) (Nat.le_of_ble_eq_true rfl)
  generalize (lg_sl [.ref (ad 77), .int p0, .int p1] ++ List.replicate (4 - (lg_sl [.ref (ad 77), .int p0, .int p1]).length) Slot.unset).toArray = ls at hl ⊢
  have hl : lv_has ls 4 [(0, .ref (ad 77)), (1, .int p0), (2, .int p1)] := hl
  clear hE
  unfold f_X2_splits at hf
  suffices hgo : ∀ (H : Heap) (locs : List Loc), va_P D vwCl (wd N ad C) H → va_S (An s.heap.size) s.heap H locs → W p l e (headSpec wsX2_splits rmX2_splits).room s m args below meth c H locs 0 0 QQ (F0 m 0 ls []) from hgo s.heap [] hP hS
  clear hS hP
  intro H locs hP hS
  refine lv_iload_n hx hb dX2_splits_0 rfl (lv_at hl 2 rfl) ?_
  refine lv_aload_n hx hb dX2_splits_1 rfl (lv_at hl 0 rfl) ?_
  refine r_get (own := RX2) (T := TX2) (n := 6) (ci := 2) (v := .ref (ad 19)) hx hb hts nX2 hown hK hP (by omega) h77 rfl 1 (by decide) k0 rfl dX2_splits_2 ?_
  refine r_getN (own := RX2) (T := TX9) (n := 3) (ci := 9) (v := .ref (ad 20)) hx hb hts nX9 hown hK hP (by omega) h19 rfl 1 (by decide) k2 rfl dX2_splits_5 ?_
  refine lv_iload_n hx hb dX2_splits_8 rfl (lv_at hl 1 rfl) ?_
  obtain ⟨i2, x1, ex1, hf⟩ := ri_e hf
  refine r_iald hx hb hK hP (by omega) h20 i2 dX2_splits_9 ex1 ?_
  refine lv_iand hx hb dX2_splits_10 ?_
  obtain ⟨x3, ex3, hf⟩ := lt_e hf
  refine tp_i ex3 ?_
  refine lv_istore_n (lv' := [(3, .int x3), (0, .ref (ad 77)), (1, .int p0), (2, .int p1)]) hx hb dX2_splits_11 rfl hl (by decide) rfl (fun ls hl => ?_)
  refine lv_iload_n hx hb dX2_splits_12 rfl (lv_at hl 0 rfl) ?_
  refine lv_if_eq (tgt := 25) hx hb dX2_splits_13 (by decide) (fun c4 => ?_) (fun c4 => ?_)
  · have hf := it_e c4 hf
    refine lv_iconst (v := 0) hx hb dX2_splits_25 (by decide) ?_
    obtain rfl := Option.some.inj hf
    rw [← hQ]
    exact e_zR hx hb hr rfl bz0 hS hlocks dX2_splits_26
  · have hf := ie_e c4 hf
    refine lv_iload_n hx hb dX2_splits_16 rfl (lv_at hl 0 rfl) ?_
    refine lv_iload_n hx hb dX2_splits_17 rfl (lv_at hl 3 rfl) ?_
    refine lv_icmp_eq (tgt := 25) hx hb dX2_splits_18 (by decide) (fun c5 => ?_) (fun c5 => ?_)
    · have hf := it_e c5 hf
      refine lv_iconst (v := 0) hx hb dX2_splits_25 (by decide) ?_
      obtain rfl := Option.some.inj hf
      rw [← hQ]
      exact e_zR hx hb hr rfl bz0 hS hlocks dX2_splits_26
    · have hf := ie_e c5 hf
      refine lv_iconst (v := 1) hx hb dX2_splits_21 (by decide) ?_
      refine lv_goto (tgt := 26) hx hb dX2_splits_22 (by decide) ?_
      obtain rfl := Option.some.inj hf
      rw [← hQ]
      exact e_zR hx hb hr rfl bz1 hS hlocks dX2_splits_26

def LX2_markPartsOf_2 (p0 : Int32) (w_over : Nat → Int32) (hn1 : Nat) (ko : Int32 → (Nat → Int32) → Option ((Nat → Int32))) : Nat → Int32 → (Nat → Int32) → Option ((Nat → Int32))
  | 0, _, _ => none
  | n + 1, x1, f2 =>
    if 12 ≤ x1 then
      ko x1 f2
    else
      (f_X2_splits x1 p0 w_over).bind fun q6 =>
      (if q6 = 0 then
        some (f2)
      else
        ri w_over 12 (x1) fun x10 =>
        lt ((p0 &&& x10) : Int32) fun x12 =>
        wi f2 hn1 (x12) (1000000) fun f13 =>
        wi f13 hn1 ((p0 ^^^ x12)) (1000000) fun f15 =>
        some (f15) : Option ((Nat → Int32))).bind fun q7 =>
      lt (x1 + 1 : Int32) fun x8 =>
      LX2_markPartsOf_2 p0 w_over hn1 ko n x8 q7
theorem LX2_markPartsOf_2_z (p0 : Int32) (w_over : Nat → Int32) (hn1 : Nat) (ko : Int32 → (Nat → Int32) → Option ((Nat → Int32))) (x1 : Int32) (f2 : Nat → Int32) : LX2_markPartsOf_2 p0 w_over hn1 ko 0 x1 f2 = none := rfl
theorem LX2_markPartsOf_2_s (p0 : Int32) (w_over : Nat → Int32) (hn1 : Nat) (ko : Int32 → (Nat → Int32) → Option ((Nat → Int32))) (n : Nat) (x1 : Int32) (f2 : Nat → Int32) : LX2_markPartsOf_2 p0 w_over hn1 ko (n + 1) x1 f2 =
    if 12 ≤ x1 then
      ko x1 f2
    else
      (f_X2_splits x1 p0 w_over).bind fun q6 =>
      (if q6 = 0 then
        some (f2)
      else
        ri w_over 12 (x1) fun x10 =>
        lt ((p0 &&& x10) : Int32) fun x12 =>
        wi f2 hn1 (x12) (1000000) fun f13 =>
        wi f13 hn1 ((p0 ^^^ x12)) (1000000) fun f15 =>
        some (f15) : Option ((Nat → Int32))).bind fun q7 =>
      lt (x1 + 1 : Int32) fun x8 =>
      LX2_markPartsOf_2 p0 w_over hn1 ko n x8 q7 := rfl
def f_X2_markPartsOf (p0 : Int32) (w_over : Nat → Int32) (h_few : Nat → Int32) (hn1 : Nat) : Option ((Nat → Int32)) :=
  LX2_markPartsOf_2 p0 w_over hn1 (fun x3 f4 =>
    some (f4)) FU 0 h_few
abbrev rmX2_markPartsOf : Room := { frames := 1, cells := 0, slots := 0, locals := 23 }
set_option maxHeartbeats 4000000 in
set_option maxRecDepth 100000 in
theorem c_X2_markPartsOf {l : Launch} {D : va_G} {g : Nat → ClassId} {N : Nat} {ad : Nat → Nat} {C : Nat → va_E} {sz : Nat} {w_src : Int32} {w_over : Nat → Int32} {h_solved : Int32} {hn1 : Nat} {h_few : Nat → Int32} {p0 : Int32} {rr : (Nat → Int32)} (hN : 86 ≤ N) (hI : Inj N ad) (h19 : C 19 = .inr (9, [.ref (ad 5), .ref (ad 20), .int w_src])) (h20 : C 20 = aI g 12 w_over) (h77 : C 77 = .inr (2, [.ref (ad 5), .ref (ad 19), .ref (ad 78), .ref (ad 79), .ref (ad 80), .int h_solved])) (h78 : C 78 = aI g hn1 h_few) (hf : f_X2_markPartsOf p0 w_over h_few hn1 = some rr) : Met l yX2_markPartsOf wsX2_markPartsOf rmX2_markPartsOf (PcW D g N ad C sz [.ref (ad 77), .int p0]) (QvW D N ad sz (fun C' => (∀ i : Nat, i ≠ 78 → C' i = C i) ∧ (C' 78 = aI g hn1 rr))) 0 0 (Aw N ad sz) := by
  refine Met.ofW (cc := cX2_markPartsOf) (maxL := 4) (ret := none) (by decide) rfl ?_
  intro p e s m args below meth c s₁ B hml hv
  obtain ⟨hav, hsz, hK, hP⟩ := hv
  subst hsz
  have hx := B.exec
  have hb := B.bytes
  have hr := B.returns
  have hts := atoms_spec (ws := wsX2_markPartsOf) B.pre
  have hown : s.vm.findClass RX2 = some m.cls := findClass_of_methodNamed B.named
  have hlocks := B.notSynchronized
  generalize hQ : MQ below (QvW D N ad s.heap.size (fun C' => (∀ i : Nat, i ≠ 78 → C' i = C i) ∧ (C' 78 = aI g hn1 rr))) args s 0 0 (Aw N ad s.heap.size) = QQ
  have hS : va_S (Aw N ad s.heap.size) s.heap s.heap [] := va_S.rf
  have hA : ∀ q, s.heap.size ≤ q → (Aw N ad s.heap.size) q := fun q h => Or.inr h
  have hAd : ∀ j : Nat, j < N → (Aw N ad s.heap.size) (ad j) := fun j h => Or.inl ⟨j, h, rfl⟩
  obtain ⟨C0, hC0⟩ : ∃ C0 : Nat → va_E, C0 = C := ⟨_, rfl⟩
  have hag : ∀ i : Nat, i ≠ 78 → C i = C0 i := fun i _ => by rw [hC0]
  rw [← hC0] at hQ
  have k0 := hts (.fieldLink RX2 25 "UpDrain$Hunt" "ways" "LUpDrain$Ways;") (List.mem_of_getElem? (i := 1) rfl)
  have nX2 : ∀ w ∈ u_ws RX2 TX2 6, w ∈ wsX2_markPartsOf := fun _ h => List.mem_cons_of_mem _ (List.mem_append_left _ (List.mem_append_right _ h))
  have k2 := nf_49 (A := args) hK
  have nX9 : ∀ w ∈ u_ws RX9 TX9 3, w ∈ wsX2_markPartsOf := fun _ h => List.mem_cons_of_mem _ (List.mem_append_right _ h)
  have k4 := hts (.fieldLink RX2 9 "UpDrain$Hunt" "fewestLids" "[I") (List.mem_of_getElem? (i := 2) rfl)
  have k5 := hts (.constant RX2 49 (1000000)) (List.mem_of_getElem? (i := 3) rfl)
  have hE := lg_entry_eq m [.ref (ad 77), .int p0] 4
  rw [← hav] at hE
  rw [hE]
  have hl := lv_entry [.ref (ad 77), .int p0] (n := 4) (Nat.le_of_ble_eq_true rfl)
  generalize (lg_sl [.ref (ad 77), .int p0] ++ List.replicate (4 - (lg_sl [.ref (ad 77), .int p0]).length) Slot.unset).toArray = ls at hl ⊢
  have hl : lv_has ls 4 [(0, .ref (ad 77)), (1, .int p0)] := hl
  clear hE
  unfold f_X2_markPartsOf at hf
  suffices hgo : ∀ (H : Heap) (locs : List Loc), va_P D vwCl (wd N ad C) H → va_S (Aw N ad s.heap.size) s.heap H locs → W p l e (headSpec wsX2_markPartsOf rmX2_markPartsOf).room s m args below meth c H locs 0 0 QQ (F0 m 0 ls []) from hgo s.heap [] hP hS
  clear hS hP
  intro H locs hP hS
  refine lv_iconst (v := 0) hx hb dX2_markPartsOf_0 (by decide) ?_
  refine lv_istore_n (lv' := [(2, .int 0), (0, .ref (ad 77)), (1, .int p0)]) hx hb dX2_markPartsOf_1 rfl hl (by decide) rfl (fun ls hl => ?_)
  have key2 : ∀ (ko : Int32 → (Nat → Int32) → Option ((Nat → Int32))), (∀ (x3 : Int32) (f4 : Nat → Int32) (C : Nat → va_E) (H : Heap) (locs : List Loc) (ls : Array Slot), va_P D vwCl (wd N ad C) H → va_S (Aw N ad s.heap.size) s.heap H locs → (∀ i : Nat, i ≠ 78 → C i = C0 i) → C 19 = .inr (9, [.ref (ad 5), .ref (ad 20), .int w_src]) → C 20 = aI g 12 w_over → C 77 = .inr (2, [.ref (ad 5), .ref (ad 19), .ref (ad 78), .ref (ad 79), .ref (ad 80), .int h_solved]) → C 78 = aI g hn1 f4 → lv_has ls 4 [(0, .ref (ad 77)), (1, .int p0), (2, .int x3)] → ko x3 f4 = some rr → W p l e (headSpec wsX2_markPartsOf rmX2_markPartsOf).room s m args below meth c H locs 0 0 QQ (F0 m 53 ls [])) → ∀ (n : Nat) (x1 : Int32) (f2 : Nat → Int32) (C : Nat → va_E) (H : Heap) (locs : List Loc) (ls : Array Slot), va_P D vwCl (wd N ad C) H → va_S (Aw N ad s.heap.size) s.heap H locs → (∀ i : Nat, i ≠ 78 → C i = C0 i) → C 19 = .inr (9, [.ref (ad 5), .ref (ad 20), .int w_src]) → C 20 = aI g 12 w_over → C 77 = .inr (2, [.ref (ad 5), .ref (ad 19), .ref (ad 78), .ref (ad 79), .ref (ad 80), .int h_solved]) → C 78 = aI g hn1 f2 → lv_has ls 4 [(0, .ref (ad 77)), (1, .int p0), (2, .int x1)] → LX2_markPartsOf_2 p0 w_over hn1 ko n x1 f2 = some rr → W p l e (headSpec wsX2_markPartsOf rmX2_markPartsOf).room s m args below meth c H locs 0 0 QQ (F0 m 2 ls []) := by
    intro ko hko n
    induction n with
    | zero =>
      intro x1 f2 C H locs ls hP hS hag h19 h20 h77 h78 hl hf
      rw [LX2_markPartsOf_2_z] at hf
      cases hf
    | succ n ih =>
      intro x1 f2 C H locs ls hP hS hag h19 h20 h77 h78 hl hf
      rw [LX2_markPartsOf_2_s] at hf
      refine lv_iload_n hx hb dX2_markPartsOf_2 rfl (lv_at hl 2 rfl) ?_
      refine lv_bipush (v := 12) hx hb dX2_markPartsOf_3 (by decide) ?_
      refine lv_icmp_ge (tgt := 53) hx hb dX2_markPartsOf_5 (by decide) (fun c5 => ?_) (fun c5 => ?_)
      · have hf := it_e c5 hf
        exact hko x1 f2 C H locs ls hP hS hag h19 h20 h77 h78 (lv_sub hl [0, 1, 2] rfl) hf
      · have hf := ie_e c5 hf
        refine lv_aload_n hx hb dX2_markPartsOf_8 rfl (lv_at hl 0 rfl) ?_
        refine lv_iload_n hx hb dX2_markPartsOf_9 rfl (lv_at hl 2 rfl) ?_
        refine lv_iload_n hx hb dX2_markPartsOf_10 rfl (lv_at hl 1 rfl) ?_
        obtain ⟨q6, hq6, hf⟩ := bd_e hf
        refine k_iR (va_runV (C := RX2) (As := [.int x1, .int p0]) (rest := []) ⟨hx, hb, hml, hown, hts⟩ (c_X2_splits (l := l) (sz := H.size) (p0 := x1) (p1 := p0) hN h19 h20 h77 hq6) (cwV 2 hts gX2_markPartsOf_X2_splits rfl rfl rfl (by decide +kernel) ⟨Nat.le_of_ble_eq_true rfl, Nat.le_of_ble_eq_true rfl⟩) (preV_of hK hP (by omega) h77 rfl) rfl rfl hl.1 rfl (lv_room (Nat.le_of_ble_eq_true rfl)) dX2_markPartsOf_11 ⟨Nat.le_of_ble_eq_true rfl, Nat.le_of_ble_eq_true rfl⟩) hA hP hS (fun H locs hP hS hbz_q6 => ?_)
        obtain ⟨q7, htq7, hf⟩ := bd_e hf
        have jnq7 : ∀ (C : Nat → va_E) (H : Heap) (locs : List Loc) (ls : Array Slot), va_P D vwCl (wd N ad C) H → va_S (Aw N ad s.heap.size) s.heap H locs → (∀ i : Nat, i ≠ 78 → C i = C0 i) → C 19 = .inr (9, [.ref (ad 5), .ref (ad 20), .int w_src]) → C 20 = aI g 12 w_over → C 77 = .inr (2, [.ref (ad 5), .ref (ad 19), .ref (ad 78), .ref (ad 79), .ref (ad 80), .int h_solved]) → C 78 = aI g hn1 q7 → lv_has ls 4 [(0, .ref (ad 77)), (1, .int p0), (2, .int x1)] → W p l e (headSpec wsX2_markPartsOf rmX2_markPartsOf).room s m args below meth c H locs 0 0 QQ (F0 m 47 ls []) := by
          intro C H locs ls hP hS hag h19 h20 h77 h78 hl
          obtain ⟨x8, ex8, hf⟩ := lt_e hf
          refine lv_iinc (v := x8) (lv' := [(2, .int x8), (0, .ref (ad 77)), (1, .int p0)]) hx hb dX2_markPartsOf_47 hl (k := 2) rfl (by rw [ex8]; rfl) (by decide) rfl (fun ls hl => ?_)
          refine lv_goto (tgt := 2) hx hb dX2_markPartsOf_50 (by decide) ?_
          exact ih x8 q7 C H locs ls hP hS hag h19 h20 h77 h78 (lv_sub hl [1, 2, 0] rfl) hf
        clear hf
        have hf := htq7
        refine lv_if_eq (tgt := 47) hx hb dX2_markPartsOf_14 (by decide) (fun c9 => ?_) (fun c9 => ?_)
        · have hf := it_e c9 hf
          obtain rfl := Option.some.inj hf
          exact jnq7 C H locs ls hP hS hag h19 h20 h77 h78 (lv_sub hl [0, 1, 2] rfl)
        · have hf := ie_e c9 hf
          refine lv_iload_n hx hb dX2_markPartsOf_17 rfl (lv_at hl 1 rfl) ?_
          refine lv_aload_n hx hb dX2_markPartsOf_18 rfl (lv_at hl 0 rfl) ?_
          refine r_get (own := RX2) (T := TX2) (n := 6) (ci := 2) (v := .ref (ad 19)) hx hb hts nX2 hown hK hP (by omega) h77 rfl 1 (by decide) k0 rfl dX2_markPartsOf_19 ?_
          refine r_getN (own := RX2) (T := TX9) (n := 3) (ci := 9) (v := .ref (ad 20)) hx hb hts nX9 hown hK hP (by omega) h19 rfl 1 (by decide) k2 rfl dX2_markPartsOf_22 ?_
          refine lv_iload_n hx hb dX2_markPartsOf_25 rfl (lv_at hl 2 rfl) ?_
          obtain ⟨i11, x10, ex10, hf⟩ := ri_e hf
          refine r_iald hx hb hK hP (by omega) h20 i11 dX2_markPartsOf_26 ex10 ?_
          refine lv_iand hx hb dX2_markPartsOf_27 ?_
          obtain ⟨x12, ex12, hf⟩ := lt_e hf
          refine tp_i ex12 ?_
          refine lv_istore_n (lv' := [(3, .int x12), (0, .ref (ad 77)), (1, .int p0), (2, .int x1)]) hx hb dX2_markPartsOf_28 rfl hl (by decide) rfl (fun ls hl => ?_)
          refine lv_aload_n hx hb dX2_markPartsOf_29 rfl (lv_at hl 1 rfl) ?_
          refine r_get (own := RX2) (T := TX2) (n := 6) (ci := 2) (v := .ref (ad 78)) hx hb hts nX2 hown hK hP (by omega) h77 rfl 2 (by decide) k4 rfl dX2_markPartsOf_30 ?_
          refine lv_iload_n hx hb dX2_markPartsOf_33 rfl (lv_at hl 0 rfl) ?_
          refine lv_ldc (own := RX2) hx hb hown k5 dX2_markPartsOf_34 ?_
          obtain ⟨i14, f13, ef13, hf⟩ := wi_e hf
          refine r_iast hx hb hK hI hAd hP hS (by omega) h78 i14 dX2_markPartsOf_36 ef13 (fun C H locs hP hS he hn => ?_)
          have hag : ∀ i : Nat, i ≠ 78 → C i = C0 i := fun i h => (he i (by omega)).trans (hag i h)
          have h19 := (he 19 (by decide)).trans h19
          have h20 := (he 20 (by decide)).trans h20
          have h77 := (he 77 (by decide)).trans h77
          have h78 : C 78 = aI g hn1 f13 := hn
          refine lv_aload_n hx hb dX2_markPartsOf_37 rfl (lv_at hl 1 rfl) ?_
          refine r_get (own := RX2) (T := TX2) (n := 6) (ci := 2) (v := .ref (ad 78)) hx hb hts nX2 hown hK hP (by omega) h77 rfl 2 (by decide) k4 rfl dX2_markPartsOf_38 ?_
          refine lv_iload_n hx hb dX2_markPartsOf_41 rfl (lv_at hl 2 rfl) ?_
          refine lv_iload_n hx hb dX2_markPartsOf_42 rfl (lv_at hl 0 rfl) ?_
          refine lv_ixor hx hb dX2_markPartsOf_43 ?_
          refine lv_ldc (own := RX2) hx hb hown k5 dX2_markPartsOf_44 ?_
          obtain ⟨i16, f15, ef15, hf⟩ := wi_e hf
          refine r_iast hx hb hK hI hAd hP hS (by omega) h78 i16 dX2_markPartsOf_46 ef15 (fun C H locs hP hS he hn => ?_)
          have hag : ∀ i : Nat, i ≠ 78 → C i = C0 i := fun i h => (he i (by omega)).trans (hag i h)
          have h19 := (he 19 (by decide)).trans h19
          have h20 := (he 20 (by decide)).trans h20
          have h77 := (he 77 (by decide)).trans h77
          have h78 : C 78 = aI g hn1 f15 := hn
          obtain rfl := Option.some.inj hf
          exact jnq7 C H locs ls hP hS hag h19 h20 h77 h78 (lv_sub hl [1, 2, 3] rfl)
  refine key2 _ (fun x3 f4 C H locs ls hP hS hag h19 h20 h77 h78 hl hf => ?_) FU 0 h_few C H locs ls hP hS hag h19 h20 h77 h78 (lv_sub hl [1, 2, 0] rfl) hf
  obtain rfl := Option.some.inj hf
  rw [← hQ]
  exact e_vW hx hb hr hP hS ⟨hag, h78⟩ hlocks dX2_markPartsOf_53

def LX2_markWhatMayBeLeft_2 (p0 : Int32) (hn1 : Nat) (ko : Int32 → (Nat → Int32) → Option ((Nat → Int32))) : Nat → Int32 → (Nat → Int32) → Option ((Nat → Int32))
  | 0, _, _ => none
  | n + 1, x1, f2 =>
    if p0 < x1 then
      ko x1 f2
    else
      wi f2 hn1 (x1) ((-1)) fun f6 =>
      lt (x1 + 1 : Int32) fun x8 =>
      LX2_markWhatMayBeLeft_2 p0 hn1 ko n x8 f6
theorem LX2_markWhatMayBeLeft_2_z (p0 : Int32) (hn1 : Nat) (ko : Int32 → (Nat → Int32) → Option ((Nat → Int32))) (x1 : Int32) (f2 : Nat → Int32) : LX2_markWhatMayBeLeft_2 p0 hn1 ko 0 x1 f2 = none := rfl
theorem LX2_markWhatMayBeLeft_2_s (p0 : Int32) (hn1 : Nat) (ko : Int32 → (Nat → Int32) → Option ((Nat → Int32))) (n : Nat) (x1 : Int32) (f2 : Nat → Int32) : LX2_markWhatMayBeLeft_2 p0 hn1 ko (n + 1) x1 f2 =
    if p0 < x1 then
      ko x1 f2
    else
      wi f2 hn1 (x1) ((-1)) fun f6 =>
      lt (x1 + 1 : Int32) fun x8 =>
      LX2_markWhatMayBeLeft_2 p0 hn1 ko n x8 f6 := rfl
def LX2_markWhatMayBeLeft_30 (w_over : Nat → Int32) (hn1 : Nat) (ko : Int32 → (Nat → Int32) → Option ((Nat → Int32))) : Nat → Int32 → (Nat → Int32) → Option ((Nat → Int32))
  | 0, _, _ => none
  | n + 1, x11, f12 =>
    if x11 ≤ 0 then
      ko x11 f12
    else
      ri f12 hn1 (x11) fun x16 =>
      (if x16 = (-1) then
        some (f12)
      else
        (f_X2_markPartsOf x11 w_over f12 hn1).bind fun q21 =>
        some (q21) : Option ((Nat → Int32))).bind fun q18 =>
      lt (x11 + (-1) : Int32) fun x19 =>
      LX2_markWhatMayBeLeft_30 w_over hn1 ko n x19 q18
theorem LX2_markWhatMayBeLeft_30_z (w_over : Nat → Int32) (hn1 : Nat) (ko : Int32 → (Nat → Int32) → Option ((Nat → Int32))) (x11 : Int32) (f12 : Nat → Int32) : LX2_markWhatMayBeLeft_30 w_over hn1 ko 0 x11 f12 = none := rfl
theorem LX2_markWhatMayBeLeft_30_s (w_over : Nat → Int32) (hn1 : Nat) (ko : Int32 → (Nat → Int32) → Option ((Nat → Int32))) (n : Nat) (x11 : Int32) (f12 : Nat → Int32) : LX2_markWhatMayBeLeft_30 w_over hn1 ko (n + 1) x11 f12 =
    if x11 ≤ 0 then
      ko x11 f12
    else
      ri f12 hn1 (x11) fun x16 =>
      (if x16 = (-1) then
        some (f12)
      else
        (f_X2_markPartsOf x11 w_over f12 hn1).bind fun q21 =>
        some (q21) : Option ((Nat → Int32))).bind fun q18 =>
      lt (x11 + (-1) : Int32) fun x19 =>
      LX2_markWhatMayBeLeft_30 w_over hn1 ko n x19 q18 := rfl
def f_X2_markWhatMayBeLeft (p0 : Int32) (w_over : Nat → Int32) (h_few : Nat → Int32) (hn1 : Nat) : Option ((Nat → Int32)) :=
  LX2_markWhatMayBeLeft_2 p0 hn1 (fun x3 f4 =>
    wi f4 hn1 (p0) (1000000) fun f9 =>
    LX2_markWhatMayBeLeft_30 w_over hn1 (fun x13 f14 =>
      some (f14)) FU p0 f9) FU 0 h_few
abbrev rmX2_markWhatMayBeLeft : Room := { frames := 2, cells := 0, slots := 0, locals := 46 }
set_option maxHeartbeats 4000000 in
set_option maxRecDepth 100000 in
theorem c_X2_markWhatMayBeLeft {l : Launch} {D : va_G} {g : Nat → ClassId} {N : Nat} {ad : Nat → Nat} {C : Nat → va_E} {sz : Nat} {w_src : Int32} {w_over : Nat → Int32} {h_solved : Int32} {hn1 : Nat} {h_few : Nat → Int32} {p0 : Int32} {rr : (Nat → Int32)} (hN : 86 ≤ N) (hI : Inj N ad) (h19 : C 19 = .inr (9, [.ref (ad 5), .ref (ad 20), .int w_src])) (h20 : C 20 = aI g 12 w_over) (h77 : C 77 = .inr (2, [.ref (ad 5), .ref (ad 19), .ref (ad 78), .ref (ad 79), .ref (ad 80), .int h_solved])) (h78 : C 78 = aI g hn1 h_few) (hf : f_X2_markWhatMayBeLeft p0 w_over h_few hn1 = some rr) : Met l yX2_markWhatMayBeLeft wsX2_markWhatMayBeLeft rmX2_markWhatMayBeLeft (PcW D g N ad C sz [.ref (ad 77), .int p0]) (QvW D N ad sz (fun C' => (∀ i : Nat, i ≠ 78 → C' i = C i) ∧ (C' 78 = aI g hn1 rr))) 0 0 (Aw N ad sz) := by
  refine Met.ofW (cc := cX2_markWhatMayBeLeft) (maxL := 3) (ret := none) (by decide) rfl ?_
  intro p e s m args below meth c s₁ B hml hv
  obtain ⟨hav, hsz, hK, hP⟩ := hv
  subst hsz
  have hx := B.exec
  have hb := B.bytes
  have hr := B.returns
  have hts := atoms_spec (ws := wsX2_markWhatMayBeLeft) B.pre
  have hown : s.vm.findClass RX2 = some m.cls := findClass_of_methodNamed B.named
  have hlocks := B.notSynchronized
  generalize hQ : MQ below (QvW D N ad s.heap.size (fun C' => (∀ i : Nat, i ≠ 78 → C' i = C i) ∧ (C' 78 = aI g hn1 rr))) args s 0 0 (Aw N ad s.heap.size) = QQ
  have hS : va_S (Aw N ad s.heap.size) s.heap s.heap [] := va_S.rf
  have hA : ∀ q, s.heap.size ≤ q → (Aw N ad s.heap.size) q := fun q h => Or.inr h
  have hAd : ∀ j : Nat, j < N → (Aw N ad s.heap.size) (ad j) := fun j h => Or.inl ⟨j, h, rfl⟩
  obtain ⟨C0, hC0⟩ : ∃ C0 : Nat → va_E, C0 = C := ⟨_, rfl⟩
  have hag : ∀ i : Nat, i ≠ 78 → C i = C0 i := fun i _ => by rw [hC0]
  rw [← hC0] at hQ
  have k0 := hts (.fieldLink RX2 9 "UpDrain$Hunt" "fewestLids" "[I") (List.mem_of_getElem? (i := 1) rfl)
  have nX2 : ∀ w ∈ u_ws RX2 TX2 6, w ∈ wsX2_markWhatMayBeLeft := fun _ h => List.mem_cons_of_mem _ (List.mem_append_left _ (List.mem_append_right _ h))
  have k2 := hts (.constant RX2 49 (1000000)) (List.mem_of_getElem? (i := 2) rfl)
  have hE := lg_entry_eq m [.ref (ad 77), .int p0] 3
  rw [← hav] at hE
  rw [hE]
  have hl := lv_entry [.ref (ad 77), .int p0] (n := 3) (Nat.le_of_ble_eq_true rfl)
  generalize (lg_sl [.ref (ad 77), .int p0] ++ List.replicate (3 - (lg_sl [.ref (ad 77), .int p0]).length) Slot.unset).toArray = ls at hl ⊢
  have hl : lv_has ls 3 [(0, .ref (ad 77)), (1, .int p0)] := hl
  clear hE
  unfold f_X2_markWhatMayBeLeft at hf
  suffices hgo : ∀ (H : Heap) (locs : List Loc), va_P D vwCl (wd N ad C) H → va_S (Aw N ad s.heap.size) s.heap H locs → W p l e (headSpec wsX2_markWhatMayBeLeft rmX2_markWhatMayBeLeft).room s m args below meth c H locs 0 0 QQ (F0 m 0 ls []) from hgo s.heap [] hP hS
  clear hS hP
  intro H locs hP hS
  refine lv_iconst (v := 0) hx hb dX2_markWhatMayBeLeft_0 (by decide) ?_
  refine lv_istore_n (lv' := [(2, .int 0), (0, .ref (ad 77)), (1, .int p0)]) hx hb dX2_markWhatMayBeLeft_1 rfl hl (by decide) rfl (fun ls hl => ?_)
  have key2 : ∀ (ko : Int32 → (Nat → Int32) → Option ((Nat → Int32))), (∀ (x3 : Int32) (f4 : Nat → Int32) (C : Nat → va_E) (H : Heap) (locs : List Loc) (ls : Array Slot), va_P D vwCl (wd N ad C) H → va_S (Aw N ad s.heap.size) s.heap H locs → (∀ i : Nat, i ≠ 78 → C i = C0 i) → C 19 = .inr (9, [.ref (ad 5), .ref (ad 20), .int w_src]) → C 20 = aI g 12 w_over → C 77 = .inr (2, [.ref (ad 5), .ref (ad 19), .ref (ad 78), .ref (ad 79), .ref (ad 80), .int h_solved]) → C 78 = aI g hn1 f4 → lv_has ls 3 [(0, .ref (ad 77)), (1, .int p0), (2, .int x3)] → ko x3 f4 = some rr → W p l e (headSpec wsX2_markWhatMayBeLeft rmX2_markWhatMayBeLeft).room s m args below meth c H locs 0 0 QQ (F0 m 20 ls [])) → ∀ (n : Nat) (x1 : Int32) (f2 : Nat → Int32) (C : Nat → va_E) (H : Heap) (locs : List Loc) (ls : Array Slot), va_P D vwCl (wd N ad C) H → va_S (Aw N ad s.heap.size) s.heap H locs → (∀ i : Nat, i ≠ 78 → C i = C0 i) → C 19 = .inr (9, [.ref (ad 5), .ref (ad 20), .int w_src]) → C 20 = aI g 12 w_over → C 77 = .inr (2, [.ref (ad 5), .ref (ad 19), .ref (ad 78), .ref (ad 79), .ref (ad 80), .int h_solved]) → C 78 = aI g hn1 f2 → lv_has ls 3 [(0, .ref (ad 77)), (1, .int p0), (2, .int x1)] → LX2_markWhatMayBeLeft_2 p0 hn1 ko n x1 f2 = some rr → W p l e (headSpec wsX2_markWhatMayBeLeft rmX2_markWhatMayBeLeft).room s m args below meth c H locs 0 0 QQ (F0 m 2 ls []) := by
    intro ko hko n
    induction n with
    | zero =>
      intro x1 f2 C H locs ls hP hS hag h19 h20 h77 h78 hl hf
      rw [LX2_markWhatMayBeLeft_2_z] at hf
      cases hf
    | succ n ih =>
      intro x1 f2 C H locs ls hP hS hag h19 h20 h77 h78 hl hf
      rw [LX2_markWhatMayBeLeft_2_s] at hf
      refine lv_iload_n hx hb dX2_markWhatMayBeLeft_2 rfl (lv_at hl 2 rfl) ?_
      refine lv_iload_n hx hb dX2_markWhatMayBeLeft_3 rfl (lv_at hl 1 rfl) ?_
      refine lv_icmp_gt (tgt := 20) hx hb dX2_markWhatMayBeLeft_4 (by decide) (fun c5 => ?_) (fun c5 => ?_)
      · have hf := it_e c5 hf
        exact hko x1 f2 C H locs ls hP hS hag h19 h20 h77 h78 (lv_sub hl [0, 1, 2] rfl) hf
      · have hf := ie_e c5 hf
        refine lv_aload_n hx hb dX2_markWhatMayBeLeft_7 rfl (lv_at hl 0 rfl) ?_
        refine r_get (own := RX2) (T := TX2) (n := 6) (ci := 2) (v := .ref (ad 78)) hx hb hts nX2 hown hK hP (by omega) h77 rfl 2 (by decide) k0 rfl dX2_markWhatMayBeLeft_8 ?_
        refine lv_iload_n hx hb dX2_markWhatMayBeLeft_11 rfl (lv_at hl 2 rfl) ?_
        refine lv_iconst (v := (-1)) hx hb dX2_markWhatMayBeLeft_12 (by decide) ?_
        obtain ⟨i7, f6, ef6, hf⟩ := wi_e hf
        refine r_iast hx hb hK hI hAd hP hS (by omega) h78 i7 dX2_markWhatMayBeLeft_13 ef6 (fun C H locs hP hS he hn => ?_)
        have hag : ∀ i : Nat, i ≠ 78 → C i = C0 i := fun i h => (he i (by omega)).trans (hag i h)
        have h19 := (he 19 (by decide)).trans h19
        have h20 := (he 20 (by decide)).trans h20
        have h77 := (he 77 (by decide)).trans h77
        have h78 : C 78 = aI g hn1 f6 := hn
        obtain ⟨x8, ex8, hf⟩ := lt_e hf
        refine lv_iinc (v := x8) (lv' := [(2, .int x8), (0, .ref (ad 77)), (1, .int p0)]) hx hb dX2_markWhatMayBeLeft_14 hl (k := 2) rfl (by rw [ex8]; rfl) (by decide) rfl (fun ls hl => ?_)
        refine lv_goto (tgt := 2) hx hb dX2_markWhatMayBeLeft_17 (by decide) ?_
        exact ih x8 f6 C H locs ls hP hS hag h19 h20 h77 h78 (lv_sub hl [1, 2, 0] rfl) hf
  refine key2 _ (fun x3 f4 C H locs ls hP hS hag h19 h20 h77 h78 hl hf => ?_) FU 0 h_few C H locs ls hP hS hag h19 h20 h77 h78 (lv_sub hl [1, 2, 0] rfl) hf
  refine lv_aload_n hx hb dX2_markWhatMayBeLeft_20 rfl (lv_at hl 0 rfl) ?_
  refine r_get (own := RX2) (T := TX2) (n := 6) (ci := 2) (v := .ref (ad 78)) hx hb hts nX2 hown hK hP (by omega) h77 rfl 2 (by decide) k0 rfl dX2_markWhatMayBeLeft_21 ?_
  refine lv_iload_n hx hb dX2_markWhatMayBeLeft_24 rfl (lv_at hl 1 rfl) ?_
  refine lv_ldc (own := RX2) hx hb hown k2 dX2_markWhatMayBeLeft_25 ?_
  obtain ⟨i10, f9, ef9, hf⟩ := wi_e hf
  refine r_iast hx hb hK hI hAd hP hS (by omega) h78 i10 dX2_markWhatMayBeLeft_27 ef9 (fun C H locs hP hS he hn => ?_)
  have hag : ∀ i : Nat, i ≠ 78 → C i = C0 i := fun i h => (he i (by omega)).trans (hag i h)
  have h19 := (he 19 (by decide)).trans h19
  have h20 := (he 20 (by decide)).trans h20
  have h77 := (he 77 (by decide)).trans h77
  have h78 : C 78 = aI g hn1 f9 := hn
  refine lv_iload_n hx hb dX2_markWhatMayBeLeft_28 rfl (lv_at hl 1 rfl) ?_
  refine lv_istore_n (lv' := [(2, .int p0), (0, .ref (ad 77)), (1, .int p0)]) hx hb dX2_markWhatMayBeLeft_29 rfl hl (by decide) rfl (fun ls hl => ?_)
  have key30 : ∀ (ko : Int32 → (Nat → Int32) → Option ((Nat → Int32))), (∀ (x13 : Int32) (f14 : Nat → Int32) (C : Nat → va_E) (H : Heap) (locs : List Loc) (ls : Array Slot), va_P D vwCl (wd N ad C) H → va_S (Aw N ad s.heap.size) s.heap H locs → (∀ i : Nat, i ≠ 78 → C i = C0 i) → C 19 = .inr (9, [.ref (ad 5), .ref (ad 20), .int w_src]) → C 20 = aI g 12 w_over → C 77 = .inr (2, [.ref (ad 5), .ref (ad 19), .ref (ad 78), .ref (ad 79), .ref (ad 80), .int h_solved]) → C 78 = aI g hn1 f14 → lv_has ls 3 [(0, .ref (ad 77)), (1, .int p0), (2, .int x13)] → ko x13 f14 = some rr → W p l e (headSpec wsX2_markWhatMayBeLeft rmX2_markWhatMayBeLeft).room s m args below meth c H locs 0 0 QQ (F0 m 55 ls [])) → ∀ (n : Nat) (x11 : Int32) (f12 : Nat → Int32) (C : Nat → va_E) (H : Heap) (locs : List Loc) (ls : Array Slot), va_P D vwCl (wd N ad C) H → va_S (Aw N ad s.heap.size) s.heap H locs → (∀ i : Nat, i ≠ 78 → C i = C0 i) → C 19 = .inr (9, [.ref (ad 5), .ref (ad 20), .int w_src]) → C 20 = aI g 12 w_over → C 77 = .inr (2, [.ref (ad 5), .ref (ad 19), .ref (ad 78), .ref (ad 79), .ref (ad 80), .int h_solved]) → C 78 = aI g hn1 f12 → lv_has ls 3 [(0, .ref (ad 77)), (1, .int p0), (2, .int x11)] → LX2_markWhatMayBeLeft_30 w_over hn1 ko n x11 f12 = some rr → W p l e (headSpec wsX2_markWhatMayBeLeft rmX2_markWhatMayBeLeft).room s m args below meth c H locs 0 0 QQ (F0 m 30 ls []) := by
    intro ko hko n
    induction n with
    | zero =>
      intro x11 f12 C H locs ls hP hS hag h19 h20 h77 h78 hl hf
      rw [LX2_markWhatMayBeLeft_30_z] at hf
      cases hf
    | succ n ih =>
      intro x11 f12 C H locs ls hP hS hag h19 h20 h77 h78 hl hf
      rw [LX2_markWhatMayBeLeft_30_s] at hf
      refine lv_iload_n hx hb dX2_markWhatMayBeLeft_30 rfl (lv_at hl 2 rfl) ?_
      refine lv_if_le (tgt := 55) hx hb dX2_markWhatMayBeLeft_31 (by decide) (fun c15 => ?_) (fun c15 => ?_)
      · have hf := it_e c15 hf
        exact hko x11 f12 C H locs ls hP hS hag h19 h20 h77 h78 (lv_sub hl [0, 1, 2] rfl) hf
      · have hf := ie_e c15 hf
        refine lv_aload_n hx hb dX2_markWhatMayBeLeft_34 rfl (lv_at hl 0 rfl) ?_
        refine r_get (own := RX2) (T := TX2) (n := 6) (ci := 2) (v := .ref (ad 78)) hx hb hts nX2 hown hK hP (by omega) h77 rfl 2 (by decide) k0 rfl dX2_markWhatMayBeLeft_35 ?_
        refine lv_iload_n hx hb dX2_markWhatMayBeLeft_38 rfl (lv_at hl 2 rfl) ?_
        obtain ⟨i17, x16, ex16, hf⟩ := ri_e hf
        refine r_iald hx hb hK hP (by omega) h78 i17 dX2_markWhatMayBeLeft_39 ex16 ?_
        refine lv_iconst (v := (-1)) hx hb dX2_markWhatMayBeLeft_40 (by decide) ?_
        obtain ⟨q18, htq18, hf⟩ := bd_e hf
        have jnq18 : ∀ (C : Nat → va_E) (H : Heap) (locs : List Loc) (ls : Array Slot), va_P D vwCl (wd N ad C) H → va_S (Aw N ad s.heap.size) s.heap H locs → (∀ i : Nat, i ≠ 78 → C i = C0 i) → C 19 = .inr (9, [.ref (ad 5), .ref (ad 20), .int w_src]) → C 20 = aI g 12 w_over → C 77 = .inr (2, [.ref (ad 5), .ref (ad 19), .ref (ad 78), .ref (ad 79), .ref (ad 80), .int h_solved]) → C 78 = aI g hn1 q18 → lv_has ls 3 [(0, .ref (ad 77)), (1, .int p0), (2, .int x11)] → W p l e (headSpec wsX2_markWhatMayBeLeft rmX2_markWhatMayBeLeft).room s m args below meth c H locs 0 0 QQ (F0 m 49 ls []) := by
          intro C H locs ls hP hS hag h19 h20 h77 h78 hl
          obtain ⟨x19, ex19, hf⟩ := lt_e hf
          refine lv_iinc (v := x19) (lv' := [(2, .int x19), (0, .ref (ad 77)), (1, .int p0)]) hx hb dX2_markWhatMayBeLeft_49 hl (k := 2) rfl (by rw [ex19]; rfl) (by decide) rfl (fun ls hl => ?_)
          refine lv_goto (tgt := 30) hx hb dX2_markWhatMayBeLeft_52 (by decide) ?_
          exact ih x19 q18 C H locs ls hP hS hag h19 h20 h77 h78 (lv_sub hl [1, 2, 0] rfl) hf
        clear hf
        have hf := htq18
        refine lv_icmp_eq (tgt := 49) hx hb dX2_markWhatMayBeLeft_41 (by decide) (fun c20 => ?_) (fun c20 => ?_)
        · have hf := it_e c20 hf
          obtain rfl := Option.some.inj hf
          exact jnq18 C H locs ls hP hS hag h19 h20 h77 h78 (lv_sub hl [0, 1, 2] rfl)
        · have hf := ie_e c20 hf
          refine lv_aload_n hx hb dX2_markWhatMayBeLeft_44 rfl (lv_at hl 0 rfl) ?_
          refine lv_iload_n hx hb dX2_markWhatMayBeLeft_45 rfl (lv_at hl 2 rfl) ?_
          obtain ⟨q21, hq21, hf⟩ := bd_e hf
          refine k_vW (va_runV (C := RX2) (As := [.int x11]) (rest := []) ⟨hx, hb, hml, hown, hts⟩ (c_X2_markPartsOf (l := l) (sz := H.size) (p0 := x11) hN hI h19 h20 h77 h78 hq21) (cwV 1 hts gX2_markWhatMayBeLeft_X2_markPartsOf rfl rfl rfl (by decide +kernel) ⟨Nat.le_of_ble_eq_true rfl, Nat.le_of_ble_eq_true rfl⟩) (preV_of hK hP (by omega) h77 rfl) rfl rfl hl.1 rfl (lv_room (Nat.le_of_ble_eq_true rfl)) dX2_markWhatMayBeLeft_46 ⟨Nat.le_of_ble_eq_true rfl, Nat.le_of_ble_eq_true rfl⟩) hA hAd hS (fun C H locs hP hS hpo => ?_)
          obtain ⟨he, h78⟩ := hpo
          have hag : ∀ i : Nat, i ≠ 78 → C i = C0 i := fun i h => (he i (by omega)).trans (hag i h)
          have h19 := (he 19 (by decide)).trans h19
          have h20 := (he 20 (by decide)).trans h20
          have h77 := (he 77 (by decide)).trans h77
          obtain rfl := Option.some.inj hf
          exact jnq18 C H locs ls hP hS hag h19 h20 h77 h78 (lv_sub hl [0, 1, 2] rfl)
  refine key30 _ (fun x13 f14 C H locs ls hP hS hag h19 h20 h77 h78 hl hf => ?_) FU p0 f9 C H locs ls hP hS hag h19 h20 h77 h78 (lv_sub hl [1, 2, 0] rfl) hf
  obtain rfl := Option.some.inj hf
  rw [← hQ]
  exact e_vW hx hb hr hP hS ⟨hag, h78⟩ hlocks dX2_markWhatMayBeLeft_55

def f_J6_bitCount_0f7a4 (p0 : Int32) : Option (Int32) :=
  lt (((p0).toUInt32 >>> ((1).toUInt32 &&& Int32.toUInt32 31)).toInt32 : Int32) fun x1 =>
  lt ((p0 - (x1 &&& 1431655765)) : Int32) fun x2 =>
  lt (((x2).toUInt32 >>> ((2).toUInt32 &&& Int32.toUInt32 31)).toInt32 : Int32) fun x3 =>
  lt (((x2 &&& 858993459) + (x3 &&& 858993459)) : Int32) fun x4 =>
  lt (((x4).toUInt32 >>> ((4).toUInt32 &&& Int32.toUInt32 31)).toInt32 : Int32) fun x5 =>
  lt (((x4 + x5) &&& 252645135) : Int32) fun x6 =>
  lt (((x6).toUInt32 >>> ((8).toUInt32 &&& Int32.toUInt32 31)).toInt32 : Int32) fun x7 =>
  lt ((x6 + x7) : Int32) fun x8 =>
  lt (((x8).toUInt32 >>> ((16).toUInt32 &&& Int32.toUInt32 31)).toInt32 : Int32) fun x9 =>
  lt ((x8 + x9) : Int32) fun x10 =>
  some ((x10 &&& 63))
abbrev rmJ6_bitCount_0f7a4 : Room := { frames := 0, cells := 0, slots := 0, locals := 0 }
set_option maxHeartbeats 4000000 in
set_option maxRecDepth 100000 in
theorem c_J6_bitCount_0f7a4 {l : Launch} {sz : Nat}  {p0 : Int32} {rr : Int32} (hf : f_J6_bitCount_0f7a4 p0 = some rr) : Met l yJ6_bitCount_0f7a4 wsJ6_bitCount_0f7a4 rmJ6_bitCount_0f7a4 (PcS sz [.int p0]) (QiR sz tP rr) 0 0 (An sz) := by
  refine Met.ofW (cc := cJ6_bitCount_0f7a4) (maxL := 1) (ret := (some .int)) (by decide) rfl ?_
  intro p e s m args below meth c s₁ B hml hv
  obtain ⟨hav, hsz⟩ := hv
  subst hsz
  have hx := B.exec
  have hb := B.bytes
  have hr := B.returns
  have hts := atoms_spec (ws := wsJ6_bitCount_0f7a4) B.pre
  have hown : s.vm.findClass RJ6 = some m.cls := findClass_of_methodNamed B.named
  have hlocks := B.notSynchronized
  generalize hQ : MQ below (QiR s.heap.size tP rr) args s 0 0 (An s.heap.size) = QQ
  have hS : va_S (An s.heap.size) s.heap s.heap [] := va_S.rf
  have hA : ∀ q, s.heap.size ≤ q → (An s.heap.size) q := fun q h => h
  have k0 := hts (.constant RJ6 265 (1431655765)) (List.mem_of_getElem? (i := 1) rfl)
  have k1 := hts (.constant RJ6 266 (858993459)) (List.mem_of_getElem? (i := 2) rfl)
  have k2 := hts (.constant RJ6 267 (252645135)) (List.mem_of_getElem? (i := 3) rfl)
  have hE := lg_entry_eq m [.int p0] 1
  rw [← hav] at hE
  rw [hE]
  have hl := lv_entry [.int p0] (n := 1) (Nat.le_of_ble_eq_true rfl)
  generalize (lg_sl [.int p0] ++ List.replicate (1 - (lg_sl [.int p0]).length) Slot.unset).toArray = ls at hl ⊢
  have hl : lv_has ls 1 [(0, .int p0)] := hl
  clear hE
  unfold f_J6_bitCount_0f7a4 at hf
  suffices hgo : ∀ (H : Heap) (locs : List Loc), va_S (An s.heap.size) s.heap H locs → W p l e (headSpec wsJ6_bitCount_0f7a4 rmJ6_bitCount_0f7a4).room s m args below meth c H locs 0 0 QQ (F0 m 0 ls []) from hgo s.heap [] hS
  clear hS
  intro H locs hS
  refine lv_iload_n hx hb dJ6_bitCount_0f7a4_0 rfl (lv_at hl 0 rfl) ?_
  refine lv_iload_n hx hb dJ6_bitCount_0f7a4_1 rfl (lv_at hl 0 rfl) ?_
  refine lv_iconst (v := 1) hx hb dJ6_bitCount_0f7a4_2 (by decide) ?_
  refine lv_iushr hx hb dJ6_bitCount_0f7a4_3 rfl ?_
  obtain ⟨x1, ex1, hf⟩ := lt_e hf
  refine tp_i ex1 ?_
  refine lv_ldcw (own := RJ6) hx hb hown k0 dJ6_bitCount_0f7a4_4 ?_
  refine lv_iand hx hb dJ6_bitCount_0f7a4_7 ?_
  refine lv_isub hx hb dJ6_bitCount_0f7a4_8 ?_
  obtain ⟨x2, ex2, hf⟩ := lt_e hf
  refine tp_i ex2 ?_
  refine lv_istore_n (lv' := [(0, .int x2)]) hx hb dJ6_bitCount_0f7a4_9 rfl hl (by decide) rfl (fun ls hl => ?_)
  refine lv_iload_n hx hb dJ6_bitCount_0f7a4_10 rfl (lv_at hl 0 rfl) ?_
  refine lv_ldcw (own := RJ6) hx hb hown k1 dJ6_bitCount_0f7a4_11 ?_
  refine lv_iand hx hb dJ6_bitCount_0f7a4_14 ?_
  refine lv_iload_n hx hb dJ6_bitCount_0f7a4_15 rfl (lv_at hl 0 rfl) ?_
  refine lv_iconst (v := 2) hx hb dJ6_bitCount_0f7a4_16 (by decide) ?_
  refine lv_iushr hx hb dJ6_bitCount_0f7a4_17 rfl ?_
  obtain ⟨x3, ex3, hf⟩ := lt_e hf
  refine tp_i ex3 ?_
  refine lv_ldcw (own := RJ6) hx hb hown k1 dJ6_bitCount_0f7a4_18 ?_
  refine lv_iand hx hb dJ6_bitCount_0f7a4_21 ?_
  refine lv_iadd hx hb dJ6_bitCount_0f7a4_22 ?_
  obtain ⟨x4, ex4, hf⟩ := lt_e hf
  refine tp_i ex4 ?_
  refine lv_istore_n (lv' := [(0, .int x4)]) hx hb dJ6_bitCount_0f7a4_23 rfl hl (by decide) rfl (fun ls hl => ?_)
  refine lv_iload_n hx hb dJ6_bitCount_0f7a4_24 rfl (lv_at hl 0 rfl) ?_
  refine lv_iload_n hx hb dJ6_bitCount_0f7a4_25 rfl (lv_at hl 0 rfl) ?_
  refine lv_iconst (v := 4) hx hb dJ6_bitCount_0f7a4_26 (by decide) ?_
  refine lv_iushr hx hb dJ6_bitCount_0f7a4_27 rfl ?_
  obtain ⟨x5, ex5, hf⟩ := lt_e hf
  refine tp_i ex5 ?_
  refine lv_iadd hx hb dJ6_bitCount_0f7a4_28 ?_
  refine lv_ldcw (own := RJ6) hx hb hown k2 dJ6_bitCount_0f7a4_29 ?_
  refine lv_iand hx hb dJ6_bitCount_0f7a4_32 ?_
  obtain ⟨x6, ex6, hf⟩ := lt_e hf
  refine tp_i ex6 ?_
  refine lv_istore_n (lv' := [(0, .int x6)]) hx hb dJ6_bitCount_0f7a4_33 rfl hl (by decide) rfl (fun ls hl => ?_)
  refine lv_iload_n hx hb dJ6_bitCount_0f7a4_34 rfl (lv_at hl 0 rfl) ?_
  refine lv_iload_n hx hb dJ6_bitCount_0f7a4_35 rfl (lv_at hl 0 rfl) ?_
  refine lv_bipush (v := 8) hx hb dJ6_bitCount_0f7a4_36 (by decide) ?_
  refine lv_iushr hx hb dJ6_bitCount_0f7a4_38 rfl ?_
  obtain ⟨x7, ex7, hf⟩ := lt_e hf
  refine tp_i ex7 ?_
  refine lv_iadd hx hb dJ6_bitCount_0f7a4_39 ?_
  obtain ⟨x8, ex8, hf⟩ := lt_e hf
  refine tp_i ex8 ?_
  refine lv_istore_n (lv' := [(0, .int x8)]) hx hb dJ6_bitCount_0f7a4_40 rfl hl (by decide) rfl (fun ls hl => ?_)
  refine lv_iload_n hx hb dJ6_bitCount_0f7a4_41 rfl (lv_at hl 0 rfl) ?_
  refine lv_iload_n hx hb dJ6_bitCount_0f7a4_42 rfl (lv_at hl 0 rfl) ?_
  refine lv_bipush (v := 16) hx hb dJ6_bitCount_0f7a4_43 (by decide) ?_
  refine lv_iushr hx hb dJ6_bitCount_0f7a4_45 rfl ?_
  obtain ⟨x9, ex9, hf⟩ := lt_e hf
  refine tp_i ex9 ?_
  refine lv_iadd hx hb dJ6_bitCount_0f7a4_46 ?_
  obtain ⟨x10, ex10, hf⟩ := lt_e hf
  refine tp_i ex10 ?_
  refine lv_istore_n (lv' := [(0, .int x10)]) hx hb dJ6_bitCount_0f7a4_47 rfl hl (by decide) rfl (fun ls hl => ?_)
  refine lv_iload_n hx hb dJ6_bitCount_0f7a4_48 rfl (lv_at hl 0 rfl) ?_
  refine lv_bipush (v := 63) hx hb dJ6_bitCount_0f7a4_49 (by decide) ?_
  refine lv_iand hx hb dJ6_bitCount_0f7a4_51 ?_
  obtain rfl := Option.some.inj hf
  rw [← hQ]
  exact e_iR hx hb hr rfl (tP_i _) hS hlocks dJ6_bitCount_0f7a4_52

def f_X2_lidsBy (p0 : Int32) (p1 : Int32) (w_over : Nat → Int32) (h_few : Nat → Int32) (hn1 : Nat) : Option (Int32) :=
  ri w_over 12 (p0) fun x1 =>
  lt ((p1 &&& x1) : Int32) fun x3 =>
  ri h_few hn1 (x3) fun x4 =>
  ri h_few hn1 ((p1 ^^^ x3)) fun x6 =>
  lt ((if x4 < x6 then x6 else x4) : Int32) fun x8 =>
  some ((1 + x8))
abbrev rmX2_lidsBy : Room := { frames := 1, cells := 0, slots := 0, locals := 21 }
set_option maxHeartbeats 4000000 in
set_option maxRecDepth 100000 in
theorem c_X2_lidsBy {l : Launch} {D : va_G} {g : Nat → ClassId} {N : Nat} {ad : Nat → Nat} {C : Nat → va_E} {sz : Nat} {w_src : Int32} {w_over : Nat → Int32} {h_solved : Int32} {hn1 : Nat} {h_few : Nat → Int32} {p0 : Int32} {p1 : Int32} {rr : Int32} (hN : 86 ≤ N) (h19 : C 19 = .inr (9, [.ref (ad 5), .ref (ad 20), .int w_src])) (h20 : C 20 = aI g 12 w_over) (h77 : C 77 = .inr (2, [.ref (ad 5), .ref (ad 19), .ref (ad 78), .ref (ad 79), .ref (ad 80), .int h_solved])) (h78 : C 78 = aI g hn1 h_few) (hf : f_X2_lidsBy p0 p1 w_over h_few hn1 = some rr) : Met l yX2_lidsBy wsX2_lidsBy rmX2_lidsBy (PcW D g N ad C sz [.ref (ad 77), .int p0, .int p1]) (QiR sz tP rr) 0 0 (An sz) := by
  refine Met.ofW (cc := cX2_lidsBy) (maxL := 4) (ret := (some .int)) (by decide) rfl ?_
  intro p e s m args below meth c s₁ B hml hv
  obtain ⟨hav, hsz, hK, hP⟩ := hv
  subst hsz
  have hx := B.exec
  have hb := B.bytes
  have hr := B.returns
  have hts := atoms_spec (ws := wsX2_lidsBy) B.pre
  have hown : s.vm.findClass RX2 = some m.cls := findClass_of_methodNamed B.named
  have hlocks := B.notSynchronized
  generalize hQ : MQ below (QiR s.heap.size tP rr) args s 0 0 (An s.heap.size) = QQ
  have hS : va_S (An s.heap.size) s.heap s.heap [] := va_S.rf
  have hA : ∀ q, s.heap.size ≤ q → (An s.heap.size) q := fun q h => h
  have k0 := hts (.fieldLink RX2 25 "UpDrain$Hunt" "ways" "LUpDrain$Ways;") (List.mem_of_getElem? (i := 1) rfl)
  have nX2 : ∀ w ∈ u_ws RX2 TX2 6, w ∈ wsX2_lidsBy := fun _ h => List.mem_cons_of_mem _ (List.mem_append_left _ (List.mem_append_right _ h))
  have k2 := nf_49 (A := args) hK
  have nX9 : ∀ w ∈ u_ws RX9 TX9 3, w ∈ wsX2_lidsBy := fun _ h => List.mem_cons_of_mem _ (List.mem_append_right _ h)
  have k4 := hts (.fieldLink RX2 9 "UpDrain$Hunt" "fewestLids" "[I") (List.mem_of_getElem? (i := 2) rfl)
  have k5 := hts (.methodLink RX2 96 Lib.Math.max.name) (List.mem_of_getElem? (i := 3) rfl)
  have k6 := hts (.static Lib.Math.max.name) (List.mem_of_getElem? (i := 4) rfl)
  have k7 := hts (.initialized "java/lang/Math") (List.mem_of_getElem? (i := 5) rfl)
  have k8 := hts (.code Lib.Math.max.name Lib.Math.max.code 2 (some .int)) (List.mem_of_getElem? (i := 6) rfl)
  have hE := lg_entry_eq m [.ref (ad 77), .int p0, .int p1] 4
  rw [← hav] at hE
  rw [hE]
  have hl := lv_entry [.ref (ad 77), .int p0, .int p1] (n := 4) (Nat.le_of_ble_eq_true rfl)
  generalize (lg_sl [.ref (ad 77), .int p0, .int p1] ++ List.replicate (4 - (lg_sl [.ref (ad 77), .int p0, .int p1]).length) Slot.unset).toArray = ls at hl ⊢
  have hl : lv_has ls 4 [(0, .ref (ad 77)), (1, .int p0), (2, .int p1)] := hl
  clear hE
  unfold f_X2_lidsBy at hf
  suffices hgo : ∀ (H : Heap) (locs : List Loc), va_P D vwCl (wd N ad C) H → va_S (An s.heap.size) s.heap H locs → W p l e (headSpec wsX2_lidsBy rmX2_lidsBy).room s m args below meth c H locs 0 0 QQ (F0 m 0 ls []) from hgo s.heap [] hP hS
  clear hS hP
  intro H locs hP hS
  refine lv_iload_n hx hb dX2_lidsBy_0 rfl (lv_at hl 2 rfl) ?_
  refine lv_aload_n hx hb dX2_lidsBy_1 rfl (lv_at hl 0 rfl) ?_
  refine r_get (own := RX2) (T := TX2) (n := 6) (ci := 2) (v := .ref (ad 19)) hx hb hts nX2 hown hK hP (by omega) h77 rfl 1 (by decide) k0 rfl dX2_lidsBy_2 ?_
  refine r_getN (own := RX2) (T := TX9) (n := 3) (ci := 9) (v := .ref (ad 20)) hx hb hts nX9 hown hK hP (by omega) h19 rfl 1 (by decide) k2 rfl dX2_lidsBy_5 ?_
  refine lv_iload_n hx hb dX2_lidsBy_8 rfl (lv_at hl 1 rfl) ?_
  obtain ⟨i2, x1, ex1, hf⟩ := ri_e hf
  refine r_iald hx hb hK hP (by omega) h20 i2 dX2_lidsBy_9 ex1 ?_
  refine lv_iand hx hb dX2_lidsBy_10 ?_
  obtain ⟨x3, ex3, hf⟩ := lt_e hf
  refine tp_i ex3 ?_
  refine lv_istore_n (lv' := [(3, .int x3), (0, .ref (ad 77)), (1, .int p0), (2, .int p1)]) hx hb dX2_lidsBy_11 rfl hl (by decide) rfl (fun ls hl => ?_)
  refine lv_iconst (v := 1) hx hb dX2_lidsBy_12 (by decide) ?_
  refine lv_aload_n hx hb dX2_lidsBy_13 rfl (lv_at hl 1 rfl) ?_
  refine r_get (own := RX2) (T := TX2) (n := 6) (ci := 2) (v := .ref (ad 78)) hx hb hts nX2 hown hK hP (by omega) h77 rfl 2 (by decide) k4 rfl dX2_lidsBy_14 ?_
  refine lv_iload_n hx hb dX2_lidsBy_17 rfl (lv_at hl 0 rfl) ?_
  obtain ⟨i5, x4, ex4, hf⟩ := ri_e hf
  refine r_iald hx hb hK hP (by omega) h78 i5 dX2_lidsBy_18 ex4 ?_
  refine lv_aload_n hx hb dX2_lidsBy_19 rfl (lv_at hl 1 rfl) ?_
  refine r_get (own := RX2) (T := TX2) (n := 6) (ci := 2) (v := .ref (ad 78)) hx hb hts nX2 hown hK hP (by omega) h77 rfl 2 (by decide) k4 rfl dX2_lidsBy_20 ?_
  refine lv_iload_n hx hb dX2_lidsBy_23 rfl (lv_at hl 3 rfl) ?_
  refine lv_iload_n hx hb dX2_lidsBy_24 rfl (lv_at hl 0 rfl) ?_
  refine lv_ixor hx hb dX2_lidsBy_25 ?_
  obtain ⟨i7, x6, ex6, hf⟩ := ri_e hf
  refine r_iald hx hb hK hP (by omega) h78 i7 dX2_lidsBy_26 ex6 ?_
  refine va_mmax (own := RX2) hx hb (hml.trans hl.1.symm) hown k5 k6 k7 k8 (Nat.le_of_ble_eq_true rfl) (Nat.le_of_ble_eq_true rfl) (Nat.le_refl _) (Nat.le_refl _) dX2_lidsBy_27 ?_
  obtain ⟨x8, ex8, hf⟩ := lt_e hf
  refine tp_i ex8 ?_
  refine lv_iadd hx hb dX2_lidsBy_30 ?_
  obtain rfl := Option.some.inj hf
  rw [← hQ]
  exact e_iR hx hb hr rfl (tP_i _) hS hlocks dX2_lidsBy_31

def f_X2_minutesBy (p0 : Int32) (p1 : Int32) (t_lift : Int32) (w_over : Nat → Int32) (h_min : Nat → Int32) (hn3 : Nat) : Option (Int32) :=
  ri w_over 12 (p0) fun x1 =>
  lt ((p1 &&& x1) : Int32) fun x3 =>
  ri h_min hn3 (((x3 * 12) + p0)) fun x4 =>
  ri h_min hn3 ((((p1 ^^^ x3) * 12) + p0)) fun x6 =>
  lt ((if x4 < x6 then x6 else x4) : Int32) fun x8 =>
  some ((t_lift + x8))
abbrev rmX2_minutesBy : Room := { frames := 1, cells := 0, slots := 0, locals := 21 }
set_option maxHeartbeats 4000000 in
set_option maxRecDepth 100000 in
theorem c_X2_minutesBy {l : Launch} {D : va_G} {g : Nat → ClassId} {N : Nat} {ad : Nat → Nat} {C : Nat → va_E} {sz : Nat} {t_there : Int32} {t_lift : Int32} {t_none : Int32} {w_src : Int32} {w_over : Nat → Int32} {h_solved : Int32} {hn3 : Nat} {h_min : Nat → Int32} {p0 : Int32} {p1 : Int32} {rr : Int32} (hN : 86 ≤ N) (h5 : C 5 = .inr (7, [.ref (ad 6), .ref (ad 7), .ref (ad 8), .ref (ad 9), .ref (ad 10), .ref (ad 11), .ref (ad 12), .ref (ad 13), .ref (ad 14), .ref (ad 15), .ref (ad 16), .ref (ad 17), .ref (ad 18), .int t_there, .int t_lift, .int t_none])) (h19 : C 19 = .inr (9, [.ref (ad 5), .ref (ad 20), .int w_src])) (h20 : C 20 = aI g 12 w_over) (h77 : C 77 = .inr (2, [.ref (ad 5), .ref (ad 19), .ref (ad 78), .ref (ad 79), .ref (ad 80), .int h_solved])) (h80 : C 80 = aI g hn3 h_min) (hf : f_X2_minutesBy p0 p1 t_lift w_over h_min hn3 = some rr) : Met l yX2_minutesBy wsX2_minutesBy rmX2_minutesBy (PcW D g N ad C sz [.ref (ad 77), .int p0, .int p1]) (QiR sz tP rr) 0 0 (An sz) := by
  refine Met.ofW (cc := cX2_minutesBy) (maxL := 6) (ret := (some .int)) (by decide) rfl ?_
  intro p e s m args below meth c s₁ B hml hv
  obtain ⟨hav, hsz, hK, hP⟩ := hv
  subst hsz
  have hx := B.exec
  have hb := B.bytes
  have hr := B.returns
  have hts := atoms_spec (ws := wsX2_minutesBy) B.pre
  have hown : s.vm.findClass RX2 = some m.cls := findClass_of_methodNamed B.named
  have hlocks := B.notSynchronized
  generalize hQ : MQ below (QiR s.heap.size tP rr) args s 0 0 (An s.heap.size) = QQ
  have hS : va_S (An s.heap.size) s.heap s.heap [] := va_S.rf
  have hA : ∀ q, s.heap.size ≤ q → (An s.heap.size) q := fun q h => h
  have k0 := hts (.fieldLink RX2 25 "UpDrain$Hunt" "ways" "LUpDrain$Ways;") (List.mem_of_getElem? (i := 1) rfl)
  have nX2 : ∀ w ∈ u_ws RX2 TX2 6, w ∈ wsX2_minutesBy := fun _ h => List.mem_cons_of_mem _ (List.mem_append_left _ (List.mem_append_left _ (List.mem_append_right _ h)))
  have k2 := nf_49 (A := args) hK
  have nX9 : ∀ w ∈ u_ws RX9 TX9 3, w ∈ wsX2_minutesBy := fun _ h => List.mem_cons_of_mem _ (List.mem_append_left _ (List.mem_append_right _ h))
  have k4 := hts (.fieldLink RX2 18 "UpDrain$Hunt" "leastMinutes" "[I") (List.mem_of_getElem? (i := 2) rfl)
  have k5 := hts (.fieldLink RX2 21 "UpDrain$Hunt" "plan" "LUpDrain$Town;") (List.mem_of_getElem? (i := 3) rfl)
  have k6 := nf_42 (A := args) hK
  have nX7 : ∀ w ∈ u_ws RX7 TX7 16, w ∈ wsX2_minutesBy := fun _ h => List.mem_cons_of_mem _ (List.mem_append_right _ h)
  have k8 := hts (.methodLink RX2 96 Lib.Math.max.name) (List.mem_of_getElem? (i := 4) rfl)
  have k9 := hts (.static Lib.Math.max.name) (List.mem_of_getElem? (i := 5) rfl)
  have k10 := hts (.initialized "java/lang/Math") (List.mem_of_getElem? (i := 6) rfl)
  have k11 := hts (.code Lib.Math.max.name Lib.Math.max.code 2 (some .int)) (List.mem_of_getElem? (i := 7) rfl)
  have hE := lg_entry_eq m [.ref (ad 77), .int p0, .int p1] 6
  rw [← hav] at hE
  rw [hE]
  have hl := lv_entry [.ref (ad 77), .int p0, .int p1] (n := 6) (Nat.le_of_ble_eq_true rfl)
  generalize (lg_sl [.ref (ad 77), .int p0, .int p1] ++ List.replicate (6 - (lg_sl [.ref (ad 77), .int p0, .int p1]).length) Slot.unset).toArray = ls at hl ⊢
  have hl : lv_has ls 6 [(0, .ref (ad 77)), (1, .int p0), (2, .int p1)] := hl
  clear hE
  unfold f_X2_minutesBy at hf
  suffices hgo : ∀ (H : Heap) (locs : List Loc), va_P D vwCl (wd N ad C) H → va_S (An s.heap.size) s.heap H locs → W p l e (headSpec wsX2_minutesBy rmX2_minutesBy).room s m args below meth c H locs 0 0 QQ (F0 m 0 ls []) from hgo s.heap [] hP hS
  clear hS hP
  intro H locs hP hS
  refine lv_iload_n hx hb dX2_minutesBy_0 rfl (lv_at hl 2 rfl) ?_
  refine lv_aload_n hx hb dX2_minutesBy_1 rfl (lv_at hl 0 rfl) ?_
  refine r_get (own := RX2) (T := TX2) (n := 6) (ci := 2) (v := .ref (ad 19)) hx hb hts nX2 hown hK hP (by omega) h77 rfl 1 (by decide) k0 rfl dX2_minutesBy_2 ?_
  refine r_getN (own := RX2) (T := TX9) (n := 3) (ci := 9) (v := .ref (ad 20)) hx hb hts nX9 hown hK hP (by omega) h19 rfl 1 (by decide) k2 rfl dX2_minutesBy_5 ?_
  refine lv_iload_n hx hb dX2_minutesBy_8 rfl (lv_at hl 1 rfl) ?_
  obtain ⟨i2, x1, ex1, hf⟩ := ri_e hf
  refine r_iald hx hb hK hP (by omega) h20 i2 dX2_minutesBy_9 ex1 ?_
  refine lv_iand hx hb dX2_minutesBy_10 ?_
  obtain ⟨x3, ex3, hf⟩ := lt_e hf
  refine tp_i ex3 ?_
  refine lv_istore_n (lv' := [(3, .int x3), (0, .ref (ad 77)), (1, .int p0), (2, .int p1)]) hx hb dX2_minutesBy_11 rfl hl (by decide) rfl (fun ls hl => ?_)
  refine lv_aload_n hx hb dX2_minutesBy_12 rfl (lv_at hl 1 rfl) ?_
  refine r_get (own := RX2) (T := TX2) (n := 6) (ci := 2) (v := .ref (ad 80)) hx hb hts nX2 hown hK hP (by omega) h77 rfl 4 (by decide) k4 rfl dX2_minutesBy_13 ?_
  refine lv_iload_n hx hb dX2_minutesBy_16 rfl (lv_at hl 0 rfl) ?_
  refine lv_bipush (v := 12) hx hb dX2_minutesBy_17 (by decide) ?_
  refine lv_imul hx hb dX2_minutesBy_19 ?_
  refine lv_iload_n hx hb dX2_minutesBy_20 rfl (lv_at hl 2 rfl) ?_
  refine lv_iadd hx hb dX2_minutesBy_21 ?_
  obtain ⟨i5, x4, ex4, hf⟩ := ri_e hf
  refine r_iald hx hb hK hP (by omega) h80 i5 dX2_minutesBy_22 ex4 ?_
  refine lv_istore (lv' := [(4, .int x4), (3, .int x3), (0, .ref (ad 77)), (1, .int p0), (2, .int p1)]) hx hb dX2_minutesBy_23 hl (by decide) rfl (fun ls hl => ?_)
  refine lv_aload_n hx hb dX2_minutesBy_25 rfl (lv_at hl 2 rfl) ?_
  refine r_get (own := RX2) (T := TX2) (n := 6) (ci := 2) (v := .ref (ad 80)) hx hb hts nX2 hown hK hP (by omega) h77 rfl 4 (by decide) k4 rfl dX2_minutesBy_26 ?_
  refine lv_iload_n hx hb dX2_minutesBy_29 rfl (lv_at hl 4 rfl) ?_
  refine lv_iload_n hx hb dX2_minutesBy_30 rfl (lv_at hl 1 rfl) ?_
  refine lv_ixor hx hb dX2_minutesBy_31 ?_
  refine lv_bipush (v := 12) hx hb dX2_minutesBy_32 (by decide) ?_
  refine lv_imul hx hb dX2_minutesBy_34 ?_
  refine lv_iload_n hx hb dX2_minutesBy_35 rfl (lv_at hl 3 rfl) ?_
  refine lv_iadd hx hb dX2_minutesBy_36 ?_
  obtain ⟨i7, x6, ex6, hf⟩ := ri_e hf
  refine r_iald hx hb hK hP (by omega) h80 i7 dX2_minutesBy_37 ex6 ?_
  refine lv_istore (lv' := [(5, .int x6), (4, .int x4), (3, .int x3), (0, .ref (ad 77)), (1, .int p0), (2, .int p1)]) hx hb dX2_minutesBy_38 hl (by decide) rfl (fun ls hl => ?_)
  refine lv_aload_n hx hb dX2_minutesBy_40 rfl (lv_at hl 3 rfl) ?_
  refine r_get (own := RX2) (T := TX2) (n := 6) (ci := 2) (v := .ref (ad 5)) hx hb hts nX2 hown hK hP (by omega) h77 rfl 0 (by decide) k5 rfl dX2_minutesBy_41 ?_
  refine r_getN (own := RX2) (T := TX7) (n := 16) (ci := 7) (v := .int t_lift) hx hb hts nX7 hown hK hP (by omega) h5 rfl 14 (by decide) k6 rfl dX2_minutesBy_44 ?_
  refine lv_iload hx hb dX2_minutesBy_47 (lv_at hl 1 rfl) ?_
  refine lv_iload hx hb dX2_minutesBy_49 (lv_at hl 0 rfl) ?_
  refine va_mmax (own := RX2) hx hb (hml.trans hl.1.symm) hown k8 k9 k10 k11 (Nat.le_of_ble_eq_true rfl) (Nat.le_of_ble_eq_true rfl) (Nat.le_refl _) (Nat.le_refl _) dX2_minutesBy_51 ?_
  obtain ⟨x8, ex8, hf⟩ := lt_e hf
  refine tp_i ex8 ?_
  refine lv_iadd hx hb dX2_minutesBy_54 ?_
  obtain rfl := Option.some.inj hf
  rw [← hQ]
  exact e_iR hx hb hr rfl (tP_i _) hS hlocks dX2_minutesBy_55

def f_X2_shorten (p0 : Int32) (p1 : Int32) (p2 : Int32) (p3 : Int32) (h_min : Nat → Int32) (hn3 : Nat) : Option ((Nat → Int32)) :=
  if p1 < 0 then
    some (h_min)
  else
    if p2 < 0 then
      some (h_min)
    else
      ri h_min hn3 ((p0 + p1)) fun x3 =>
      ri h_min hn3 ((p0 + p2)) fun x5 =>
      lt ((if (x5 + p3) < x3 then (x5 + p3) else x3) : Int32) fun x7 =>
      wi h_min hn3 ((p0 + p1)) (x7) fun f8 =>
      some (f8)
abbrev rmX2_shorten : Room := { frames := 1, cells := 0, slots := 0, locals := 21 }
set_option maxHeartbeats 4000000 in
set_option maxRecDepth 100000 in
theorem c_X2_shorten {l : Launch} {D : va_G} {g : Nat → ClassId} {N : Nat} {ad : Nat → Nat} {C : Nat → va_E} {sz : Nat} {h_solved : Int32} {hn3 : Nat} {h_min : Nat → Int32} {p0 : Int32} {p1 : Int32} {p2 : Int32} {p3 : Int32} {rr : (Nat → Int32)} (hN : 86 ≤ N) (hI : Inj N ad) (h77 : C 77 = .inr (2, [.ref (ad 5), .ref (ad 19), .ref (ad 78), .ref (ad 79), .ref (ad 80), .int h_solved])) (h80 : C 80 = aI g hn3 h_min) (hf : f_X2_shorten p0 p1 p2 p3 h_min hn3 = some rr) : Met l yX2_shorten wsX2_shorten rmX2_shorten (PcW D g N ad C sz [.ref (ad 77), .int p0, .int p1, .int p2, .int p3]) (QvW D N ad sz (fun C' => (∀ i : Nat, i ≠ 80 → C' i = C i) ∧ (C' 80 = aI g hn3 rr))) 0 0 (Aw N ad sz) := by
  refine Met.ofW (cc := cX2_shorten) (maxL := 5) (ret := none) (by decide) rfl ?_
  intro p e s m args below meth c s₁ B hml hv
  obtain ⟨hav, hsz, hK, hP⟩ := hv
  subst hsz
  have hx := B.exec
  have hb := B.bytes
  have hr := B.returns
  have hts := atoms_spec (ws := wsX2_shorten) B.pre
  have hown : s.vm.findClass RX2 = some m.cls := findClass_of_methodNamed B.named
  have hlocks := B.notSynchronized
  generalize hQ : MQ below (QvW D N ad s.heap.size (fun C' => (∀ i : Nat, i ≠ 80 → C' i = C i) ∧ (C' 80 = aI g hn3 rr))) args s 0 0 (Aw N ad s.heap.size) = QQ
  have hS : va_S (Aw N ad s.heap.size) s.heap s.heap [] := va_S.rf
  have hA : ∀ q, s.heap.size ≤ q → (Aw N ad s.heap.size) q := fun q h => Or.inr h
  have hAd : ∀ j : Nat, j < N → (Aw N ad s.heap.size) (ad j) := fun j h => Or.inl ⟨j, h, rfl⟩
  obtain ⟨C0, hC0⟩ : ∃ C0 : Nat → va_E, C0 = C := ⟨_, rfl⟩
  have hag : ∀ i : Nat, i ≠ 80 → C i = C0 i := fun i _ => by rw [hC0]
  rw [← hC0] at hQ
  have k0 := hts (.fieldLink RX2 18 "UpDrain$Hunt" "leastMinutes" "[I") (List.mem_of_getElem? (i := 1) rfl)
  have nX2 : ∀ w ∈ u_ws RX2 TX2 6, w ∈ wsX2_shorten := fun _ h => List.mem_cons_of_mem _ (List.mem_append_right _ h)
  have k2 := hts (.methodLink RX2 70 Lib.Math.min.name) (List.mem_of_getElem? (i := 2) rfl)
  have k3 := hts (.static Lib.Math.min.name) (List.mem_of_getElem? (i := 3) rfl)
  have k4 := hts (.initialized "java/lang/Math") (List.mem_of_getElem? (i := 4) rfl)
  have k5 := hts (.code Lib.Math.min.name Lib.Math.min.code 2 (some .int)) (List.mem_of_getElem? (i := 5) rfl)
  have hE := lg_entry_eq m [.ref (ad 77), .int p0, .int p1, .int p2, .int p3] 5
  rw [← hav] at hE
  rw [hE]
  have hl := lv_entry [.ref (ad 77), .int p0, .int p1, .int p2, .int p3] (n := 5) (Nat.le_of_ble_eq_true rfl)
  generalize (lg_sl [.ref (ad 77), .int p0, .int p1, .int p2, .int p3] ++ List.replicate (5 - (lg_sl [.ref (ad 77), .int p0, .int p1, .int p2, .int p3]).length) Slot.unset).toArray = ls at hl ⊢
  have hl : lv_has ls 5 [(0, .ref (ad 77)), (1, .int p0), (2, .int p1), (3, .int p2), (4, .int p3)] := hl
  clear hE
  unfold f_X2_shorten at hf
  suffices hgo : ∀ (H : Heap) (locs : List Loc), va_P D vwCl (wd N ad C) H → va_S (Aw N ad s.heap.size) s.heap H locs → W p l e (headSpec wsX2_shorten rmX2_shorten).room s m args below meth c H locs 0 0 QQ (F0 m 0 ls []) from hgo s.heap [] hP hS
  clear hS hP
  intro H locs hP hS
  refine lv_iload_n hx hb dX2_shorten_0 rfl (lv_at hl 2 rfl) ?_
  refine lv_if_lt (tgt := 38) hx hb dX2_shorten_1 (by decide) (fun c1 => ?_) (fun c1 => ?_)
  · have hf := it_e c1 hf
    obtain rfl := Option.some.inj hf
    rw [← hQ]
    exact e_vW hx hb hr hP hS ⟨hag, h80⟩ hlocks dX2_shorten_38
  · have hf := ie_e c1 hf
    refine lv_iload_n hx hb dX2_shorten_4 rfl (lv_at hl 3 rfl) ?_
    refine lv_if_lt (tgt := 38) hx hb dX2_shorten_5 (by decide) (fun c2 => ?_) (fun c2 => ?_)
    · have hf := it_e c2 hf
      obtain rfl := Option.some.inj hf
      rw [← hQ]
      exact e_vW hx hb hr hP hS ⟨hag, h80⟩ hlocks dX2_shorten_38
    · have hf := ie_e c2 hf
      refine lv_aload_n hx hb dX2_shorten_8 rfl (lv_at hl 0 rfl) ?_
      refine r_get (own := RX2) (T := TX2) (n := 6) (ci := 2) (v := .ref (ad 80)) hx hb hts nX2 hown hK hP (by omega) h77 rfl 4 (by decide) k0 rfl dX2_shorten_9 ?_
      refine lv_iload_n hx hb dX2_shorten_12 rfl (lv_at hl 1 rfl) ?_
      refine lv_iload_n hx hb dX2_shorten_13 rfl (lv_at hl 2 rfl) ?_
      refine lv_iadd hx hb dX2_shorten_14 ?_
      refine lv_aload_n hx hb dX2_shorten_15 rfl (lv_at hl 0 rfl) ?_
      refine r_get (own := RX2) (T := TX2) (n := 6) (ci := 2) (v := .ref (ad 80)) hx hb hts nX2 hown hK hP (by omega) h77 rfl 4 (by decide) k0 rfl dX2_shorten_16 ?_
      refine lv_iload_n hx hb dX2_shorten_19 rfl (lv_at hl 1 rfl) ?_
      refine lv_iload_n hx hb dX2_shorten_20 rfl (lv_at hl 2 rfl) ?_
      refine lv_iadd hx hb dX2_shorten_21 ?_
      obtain ⟨i4, x3, ex3, hf⟩ := ri_e hf
      refine r_iald hx hb hK hP (by omega) h80 i4 dX2_shorten_22 ex3 ?_
      refine lv_aload_n hx hb dX2_shorten_23 rfl (lv_at hl 0 rfl) ?_
      refine r_get (own := RX2) (T := TX2) (n := 6) (ci := 2) (v := .ref (ad 80)) hx hb hts nX2 hown hK hP (by omega) h77 rfl 4 (by decide) k0 rfl dX2_shorten_24 ?_
      refine lv_iload_n hx hb dX2_shorten_27 rfl (lv_at hl 1 rfl) ?_
      refine lv_iload_n hx hb dX2_shorten_28 rfl (lv_at hl 3 rfl) ?_
      refine lv_iadd hx hb dX2_shorten_29 ?_
      obtain ⟨i6, x5, ex5, hf⟩ := ri_e hf
      refine r_iald hx hb hK hP (by omega) h80 i6 dX2_shorten_30 ex5 ?_
      refine lv_iload hx hb dX2_shorten_31 (lv_at hl 4 rfl) ?_
      refine lv_iadd hx hb dX2_shorten_33 ?_
      refine va_mmin (own := RX2) hx hb (hml.trans hl.1.symm) hown k2 k3 k4 k5 (Nat.le_of_ble_eq_true rfl) (Nat.le_of_ble_eq_true rfl) (Nat.le_refl _) (Nat.le_refl _) dX2_shorten_34 ?_
      obtain ⟨x7, ex7, hf⟩ := lt_e hf
      refine tp_i ex7 ?_
      obtain ⟨i9, f8, ef8, hf⟩ := wi_e hf
      refine r_iast hx hb hK hI hAd hP hS (by omega) h80 i9 dX2_shorten_37 ef8 (fun C H locs hP hS he hn => ?_)
      have hag : ∀ i : Nat, i ≠ 80 → C i = C0 i := fun i h => (he i (by omega)).trans (hag i h)
      have h77 := (he 77 (by decide)).trans h77
      have h80 : C 80 = aI g hn3 f8 := hn
      obtain rfl := Option.some.inj hf
      rw [← hQ]
      exact e_vW hx hb hr hP hS ⟨hag, h80⟩ hlocks dX2_shorten_38

def LX2_walkToLids_3 (p0 : Int32) (t_down : Nat → Int32) (t_pac : Nat → Int32) (hn3 : Nat) (ko : Int32 → (Nat → Int32) → Option ((Nat → Int32))) : Nat → Int32 → (Nat → Int32) → Option ((Nat → Int32))
  | 0, _, _ => none
  | n + 1, x1, f2 =>
    if x1 ≤ 0 then
      ko x1 f2
    else
      ri t_down 12 (x1) fun x6 =>
      ri t_pac 12 (x1) fun x8 =>
      (f_X2_shorten p0 x6 x1 x8 f2 hn3).bind fun q10 =>
      lt (x1 + (-1) : Int32) fun x11 =>
      LX2_walkToLids_3 p0 t_down t_pac hn3 ko n x11 q10
theorem LX2_walkToLids_3_z (p0 : Int32) (t_down : Nat → Int32) (t_pac : Nat → Int32) (hn3 : Nat) (ko : Int32 → (Nat → Int32) → Option ((Nat → Int32))) (x1 : Int32) (f2 : Nat → Int32) : LX2_walkToLids_3 p0 t_down t_pac hn3 ko 0 x1 f2 = none := rfl
theorem LX2_walkToLids_3_s (p0 : Int32) (t_down : Nat → Int32) (t_pac : Nat → Int32) (hn3 : Nat) (ko : Int32 → (Nat → Int32) → Option ((Nat → Int32))) (n : Nat) (x1 : Int32) (f2 : Nat → Int32) : LX2_walkToLids_3 p0 t_down t_pac hn3 ko (n + 1) x1 f2 =
    if x1 ≤ 0 then
      ko x1 f2
    else
      ri t_down 12 (x1) fun x6 =>
      ri t_pac 12 (x1) fun x8 =>
      (f_X2_shorten p0 x6 x1 x8 f2 hn3).bind fun q10 =>
      lt (x1 + (-1) : Int32) fun x11 =>
      LX2_walkToLids_3 p0 t_down t_pac hn3 ko n x11 q10 := rfl
def LX2_walkToLids_39 (p0 : Int32) (t_down : Nat → Int32) (t_pac : Nat → Int32) (hn3 : Nat) (ko : Int32 → (Nat → Int32) → Option ((Nat → Int32))) : Nat → Int32 → (Nat → Int32) → Option ((Nat → Int32))
  | 0, _, _ => none
  | n + 1, x12, f13 =>
    if 12 ≤ x12 then
      ko x12 f13
    else
      ri t_down 12 (x12) fun x17 =>
      ri t_pac 12 (x12) fun x19 =>
      (f_X2_shorten p0 x12 x17 x19 f13 hn3).bind fun q21 =>
      lt (x12 + 1 : Int32) fun x22 =>
      LX2_walkToLids_39 p0 t_down t_pac hn3 ko n x22 q21
theorem LX2_walkToLids_39_z (p0 : Int32) (t_down : Nat → Int32) (t_pac : Nat → Int32) (hn3 : Nat) (ko : Int32 → (Nat → Int32) → Option ((Nat → Int32))) (x12 : Int32) (f13 : Nat → Int32) : LX2_walkToLids_39 p0 t_down t_pac hn3 ko 0 x12 f13 = none := rfl
theorem LX2_walkToLids_39_s (p0 : Int32) (t_down : Nat → Int32) (t_pac : Nat → Int32) (hn3 : Nat) (ko : Int32 → (Nat → Int32) → Option ((Nat → Int32))) (n : Nat) (x12 : Int32) (f13 : Nat → Int32) : LX2_walkToLids_39 p0 t_down t_pac hn3 ko (n + 1) x12 f13 =
    if 12 ≤ x12 then
      ko x12 f13
    else
      ri t_down 12 (x12) fun x17 =>
      ri t_pac 12 (x12) fun x19 =>
      (f_X2_shorten p0 x12 x17 x19 f13 hn3).bind fun q21 =>
      lt (x12 + 1 : Int32) fun x22 =>
      LX2_walkToLids_39 p0 t_down t_pac hn3 ko n x22 q21 := rfl
def f_X2_walkToLids (p0 : Int32) (t_down : Nat → Int32) (t_pac : Nat → Int32) (h_min : Nat → Int32) (hn3 : Nat) : Option ((Nat → Int32)) :=
  LX2_walkToLids_3 p0 t_down t_pac hn3 (fun x3 f4 =>
    LX2_walkToLids_39 p0 t_down t_pac hn3 (fun x14 f15 =>
      some (f15)) FU 1 f4) FU 11 h_min
abbrev rmX2_walkToLids : Room := { frames := 2, cells := 0, slots := 0, locals := 45 }
set_option maxHeartbeats 4000000 in
set_option maxRecDepth 100000 in
theorem c_X2_walkToLids {l : Launch} {D : va_G} {g : Nat → ClassId} {N : Nat} {ad : Nat → Nat} {C : Nat → va_E} {sz : Nat} {t_there : Int32} {t_lift : Int32} {t_none : Int32} {t_down : Nat → Int32} {t_pac : Nat → Int32} {h_solved : Int32} {hn3 : Nat} {h_min : Nat → Int32} {p0 : Int32} {rr : (Nat → Int32)} (hN : 86 ≤ N) (hI : Inj N ad) (h5 : C 5 = .inr (7, [.ref (ad 6), .ref (ad 7), .ref (ad 8), .ref (ad 9), .ref (ad 10), .ref (ad 11), .ref (ad 12), .ref (ad 13), .ref (ad 14), .ref (ad 15), .ref (ad 16), .ref (ad 17), .ref (ad 18), .int t_there, .int t_lift, .int t_none])) (h6 : C 6 = aI g 12 t_down) (h8 : C 8 = aI g 12 t_pac) (h77 : C 77 = .inr (2, [.ref (ad 5), .ref (ad 19), .ref (ad 78), .ref (ad 79), .ref (ad 80), .int h_solved])) (h80 : C 80 = aI g hn3 h_min) (hf : f_X2_walkToLids p0 t_down t_pac h_min hn3 = some rr) : Met l yX2_walkToLids wsX2_walkToLids rmX2_walkToLids (PcW D g N ad C sz [.ref (ad 77), .int p0]) (QvW D N ad sz (fun C' => (∀ i : Nat, i ≠ 80 → C' i = C i) ∧ (C' 80 = aI g hn3 rr))) 0 0 (Aw N ad sz) := by
  refine Met.ofW (cc := cX2_walkToLids) (maxL := 3) (ret := none) (by decide) rfl ?_
  intro p e s m args below meth c s₁ B hml hv
  obtain ⟨hav, hsz, hK, hP⟩ := hv
  subst hsz
  have hx := B.exec
  have hb := B.bytes
  have hr := B.returns
  have hts := atoms_spec (ws := wsX2_walkToLids) B.pre
  have hown : s.vm.findClass RX2 = some m.cls := findClass_of_methodNamed B.named
  have hlocks := B.notSynchronized
  generalize hQ : MQ below (QvW D N ad s.heap.size (fun C' => (∀ i : Nat, i ≠ 80 → C' i = C i) ∧ (C' 80 = aI g hn3 rr))) args s 0 0 (Aw N ad s.heap.size) = QQ
  have hS : va_S (Aw N ad s.heap.size) s.heap s.heap [] := va_S.rf
  have hA : ∀ q, s.heap.size ≤ q → (Aw N ad s.heap.size) q := fun q h => Or.inr h
  have hAd : ∀ j : Nat, j < N → (Aw N ad s.heap.size) (ad j) := fun j h => Or.inl ⟨j, h, rfl⟩
  obtain ⟨C0, hC0⟩ : ∃ C0 : Nat → va_E, C0 = C := ⟨_, rfl⟩
  have hag : ∀ i : Nat, i ≠ 80 → C i = C0 i := fun i _ => by rw [hC0]
  rw [← hC0] at hQ
  have k0 := hts (.fieldLink RX2 21 "UpDrain$Hunt" "plan" "LUpDrain$Town;") (List.mem_of_getElem? (i := 1) rfl)
  have nX2 : ∀ w ∈ u_ws RX2 TX2 6, w ∈ wsX2_walkToLids := fun _ h => List.mem_cons_of_mem _ (List.mem_append_left _ (List.mem_append_right _ h))
  have k2 := nf_7 (A := args) hK
  have nX7 : ∀ w ∈ u_ws RX7 TX7 16, w ∈ wsX2_walkToLids := fun _ h => List.mem_cons_of_mem _ (List.mem_append_right _ h)
  have k4 := nf_12 (A := args) hK
  have hE := lg_entry_eq m [.ref (ad 77), .int p0] 3
  rw [← hav] at hE
  rw [hE]
  have hl := lv_entry [.ref (ad 77), .int p0] (n := 3) (Nat.le_of_ble_eq_true rfl)
  generalize (lg_sl [.ref (ad 77), .int p0] ++ List.replicate (3 - (lg_sl [.ref (ad 77), .int p0]).length) Slot.unset).toArray = ls at hl ⊢
  have hl : lv_has ls 3 [(0, .ref (ad 77)), (1, .int p0)] := hl
  clear hE
  unfold f_X2_walkToLids at hf
  suffices hgo : ∀ (H : Heap) (locs : List Loc), va_P D vwCl (wd N ad C) H → va_S (Aw N ad s.heap.size) s.heap H locs → W p l e (headSpec wsX2_walkToLids rmX2_walkToLids).room s m args below meth c H locs 0 0 QQ (F0 m 0 ls []) from hgo s.heap [] hP hS
  clear hS hP
  intro H locs hP hS
  refine lv_bipush (v := 11) hx hb dX2_walkToLids_0 (by decide) ?_
  refine lv_istore_n (lv' := [(2, .int 11), (0, .ref (ad 77)), (1, .int p0)]) hx hb dX2_walkToLids_2 rfl hl (by decide) rfl (fun ls hl => ?_)
  have key3 : ∀ (ko : Int32 → (Nat → Int32) → Option ((Nat → Int32))), (∀ (x3 : Int32) (f4 : Nat → Int32) (C : Nat → va_E) (H : Heap) (locs : List Loc) (ls : Array Slot), va_P D vwCl (wd N ad C) H → va_S (Aw N ad s.heap.size) s.heap H locs → (∀ i : Nat, i ≠ 80 → C i = C0 i) → C 5 = .inr (7, [.ref (ad 6), .ref (ad 7), .ref (ad 8), .ref (ad 9), .ref (ad 10), .ref (ad 11), .ref (ad 12), .ref (ad 13), .ref (ad 14), .ref (ad 15), .ref (ad 16), .ref (ad 17), .ref (ad 18), .int t_there, .int t_lift, .int t_none]) → C 6 = aI g 12 t_down → C 8 = aI g 12 t_pac → C 77 = .inr (2, [.ref (ad 5), .ref (ad 19), .ref (ad 78), .ref (ad 79), .ref (ad 80), .int h_solved]) → C 80 = aI g hn3 f4 → lv_has ls 3 [(0, .ref (ad 77)), (1, .int p0), (2, .int x3)] → ko x3 f4 = some rr → W p l e (headSpec wsX2_walkToLids rmX2_walkToLids).room s m args below meth c H locs 0 0 QQ (F0 m 37 ls [])) → ∀ (n : Nat) (x1 : Int32) (f2 : Nat → Int32) (C : Nat → va_E) (H : Heap) (locs : List Loc) (ls : Array Slot), va_P D vwCl (wd N ad C) H → va_S (Aw N ad s.heap.size) s.heap H locs → (∀ i : Nat, i ≠ 80 → C i = C0 i) → C 5 = .inr (7, [.ref (ad 6), .ref (ad 7), .ref (ad 8), .ref (ad 9), .ref (ad 10), .ref (ad 11), .ref (ad 12), .ref (ad 13), .ref (ad 14), .ref (ad 15), .ref (ad 16), .ref (ad 17), .ref (ad 18), .int t_there, .int t_lift, .int t_none]) → C 6 = aI g 12 t_down → C 8 = aI g 12 t_pac → C 77 = .inr (2, [.ref (ad 5), .ref (ad 19), .ref (ad 78), .ref (ad 79), .ref (ad 80), .int h_solved]) → C 80 = aI g hn3 f2 → lv_has ls 3 [(0, .ref (ad 77)), (1, .int p0), (2, .int x1)] → LX2_walkToLids_3 p0 t_down t_pac hn3 ko n x1 f2 = some rr → W p l e (headSpec wsX2_walkToLids rmX2_walkToLids).room s m args below meth c H locs 0 0 QQ (F0 m 3 ls []) := by
    intro ko hko n
    induction n with
    | zero =>
      intro x1 f2 C H locs ls hP hS hag h5 h6 h8 h77 h80 hl hf
      rw [LX2_walkToLids_3_z] at hf
      cases hf
    | succ n ih =>
      intro x1 f2 C H locs ls hP hS hag h5 h6 h8 h77 h80 hl hf
      rw [LX2_walkToLids_3_s] at hf
      refine lv_iload_n hx hb dX2_walkToLids_3 rfl (lv_at hl 2 rfl) ?_
      refine lv_if_le (tgt := 37) hx hb dX2_walkToLids_4 (by decide) (fun c5 => ?_) (fun c5 => ?_)
      · have hf := it_e c5 hf
        exact hko x1 f2 C H locs ls hP hS hag h5 h6 h8 h77 h80 (lv_sub hl [0, 1, 2] rfl) hf
      · have hf := ie_e c5 hf
        refine lv_aload_n hx hb dX2_walkToLids_7 rfl (lv_at hl 0 rfl) ?_
        refine lv_iload_n hx hb dX2_walkToLids_8 rfl (lv_at hl 1 rfl) ?_
        refine lv_aload_n hx hb dX2_walkToLids_9 rfl (lv_at hl 0 rfl) ?_
        refine r_get (own := RX2) (T := TX2) (n := 6) (ci := 2) (v := .ref (ad 5)) hx hb hts nX2 hown hK hP (by omega) h77 rfl 0 (by decide) k0 rfl dX2_walkToLids_10 ?_
        refine r_getN (own := RX2) (T := TX7) (n := 16) (ci := 7) (v := .ref (ad 6)) hx hb hts nX7 hown hK hP (by omega) h5 rfl 0 (by decide) k2 rfl dX2_walkToLids_13 ?_
        refine lv_iload_n hx hb dX2_walkToLids_16 rfl (lv_at hl 2 rfl) ?_
        obtain ⟨i7, x6, ex6, hf⟩ := ri_e hf
        refine r_iald hx hb hK hP (by omega) h6 i7 dX2_walkToLids_17 ex6 ?_
        refine lv_iload_n hx hb dX2_walkToLids_18 rfl (lv_at hl 2 rfl) ?_
        refine lv_aload_n hx hb dX2_walkToLids_19 rfl (lv_at hl 0 rfl) ?_
        refine r_get (own := RX2) (T := TX2) (n := 6) (ci := 2) (v := .ref (ad 5)) hx hb hts nX2 hown hK hP (by omega) h77 rfl 0 (by decide) k0 rfl dX2_walkToLids_20 ?_
        refine r_getN (own := RX2) (T := TX7) (n := 16) (ci := 7) (v := .ref (ad 8)) hx hb hts nX7 hown hK hP (by omega) h5 rfl 2 (by decide) k4 rfl dX2_walkToLids_23 ?_
        refine lv_iload_n hx hb dX2_walkToLids_26 rfl (lv_at hl 2 rfl) ?_
        obtain ⟨i9, x8, ex8, hf⟩ := ri_e hf
        refine r_iald hx hb hK hP (by omega) h8 i9 dX2_walkToLids_27 ex8 ?_
        obtain ⟨q10, hq10, hf⟩ := bd_e hf
        refine k_vW (va_runV (C := RX2) (As := [.int p0, .int x6, .int x1, .int x8]) (rest := []) ⟨hx, hb, hml, hown, hts⟩ (c_X2_shorten (l := l) (sz := H.size) (p0 := p0) (p1 := x6) (p2 := x1) (p3 := x8) hN hI h77 h80 hq10) (cwV 4 hts gX2_walkToLids_X2_shorten rfl rfl rfl (by decide +kernel) ⟨Nat.le_of_ble_eq_true rfl, Nat.le_of_ble_eq_true rfl⟩) (preV_of hK hP (by omega) h77 rfl) rfl rfl hl.1 rfl (lv_room (Nat.le_of_ble_eq_true rfl)) dX2_walkToLids_28 ⟨Nat.le_of_ble_eq_true rfl, Nat.le_of_ble_eq_true rfl⟩) hA hAd hS (fun C H locs hP hS hpo => ?_)
        obtain ⟨he, h80⟩ := hpo
        have hag : ∀ i : Nat, i ≠ 80 → C i = C0 i := fun i h => (he i (by omega)).trans (hag i h)
        have h5 := (he 5 (by decide)).trans h5
        have h6 := (he 6 (by decide)).trans h6
        have h8 := (he 8 (by decide)).trans h8
        have h77 := (he 77 (by decide)).trans h77
        obtain ⟨x11, ex11, hf⟩ := lt_e hf
        refine lv_iinc (v := x11) (lv' := [(2, .int x11), (0, .ref (ad 77)), (1, .int p0)]) hx hb dX2_walkToLids_31 hl (k := 2) rfl (by rw [ex11]; rfl) (by decide) rfl (fun ls hl => ?_)
        refine lv_goto (tgt := 3) hx hb dX2_walkToLids_34 (by decide) ?_
        exact ih x11 q10 C H locs ls hP hS hag h5 h6 h8 h77 h80 (lv_sub hl [1, 2, 0] rfl) hf
  refine key3 _ (fun x3 f4 C H locs ls hP hS hag h5 h6 h8 h77 h80 hl hf => ?_) FU 11 h_min C H locs ls hP hS hag h5 h6 h8 h77 h80 (lv_sub hl [1, 2, 0] rfl) hf
  refine lv_iconst (v := 1) hx hb dX2_walkToLids_37 (by decide) ?_
  refine lv_istore_n (lv' := [(2, .int 1), (0, .ref (ad 77)), (1, .int p0)]) hx hb dX2_walkToLids_38 rfl hl (by decide) rfl (fun ls hl => ?_)
  have key39 : ∀ (ko : Int32 → (Nat → Int32) → Option ((Nat → Int32))), (∀ (x14 : Int32) (f15 : Nat → Int32) (C : Nat → va_E) (H : Heap) (locs : List Loc) (ls : Array Slot), va_P D vwCl (wd N ad C) H → va_S (Aw N ad s.heap.size) s.heap H locs → (∀ i : Nat, i ≠ 80 → C i = C0 i) → C 5 = .inr (7, [.ref (ad 6), .ref (ad 7), .ref (ad 8), .ref (ad 9), .ref (ad 10), .ref (ad 11), .ref (ad 12), .ref (ad 13), .ref (ad 14), .ref (ad 15), .ref (ad 16), .ref (ad 17), .ref (ad 18), .int t_there, .int t_lift, .int t_none]) → C 6 = aI g 12 t_down → C 8 = aI g 12 t_pac → C 77 = .inr (2, [.ref (ad 5), .ref (ad 19), .ref (ad 78), .ref (ad 79), .ref (ad 80), .int h_solved]) → C 80 = aI g hn3 f15 → lv_has ls 3 [(0, .ref (ad 77)), (1, .int p0), (2, .int x14)] → ko x14 f15 = some rr → W p l e (headSpec wsX2_walkToLids rmX2_walkToLids).room s m args below meth c H locs 0 0 QQ (F0 m 75 ls [])) → ∀ (n : Nat) (x12 : Int32) (f13 : Nat → Int32) (C : Nat → va_E) (H : Heap) (locs : List Loc) (ls : Array Slot), va_P D vwCl (wd N ad C) H → va_S (Aw N ad s.heap.size) s.heap H locs → (∀ i : Nat, i ≠ 80 → C i = C0 i) → C 5 = .inr (7, [.ref (ad 6), .ref (ad 7), .ref (ad 8), .ref (ad 9), .ref (ad 10), .ref (ad 11), .ref (ad 12), .ref (ad 13), .ref (ad 14), .ref (ad 15), .ref (ad 16), .ref (ad 17), .ref (ad 18), .int t_there, .int t_lift, .int t_none]) → C 6 = aI g 12 t_down → C 8 = aI g 12 t_pac → C 77 = .inr (2, [.ref (ad 5), .ref (ad 19), .ref (ad 78), .ref (ad 79), .ref (ad 80), .int h_solved]) → C 80 = aI g hn3 f13 → lv_has ls 3 [(0, .ref (ad 77)), (1, .int p0), (2, .int x12)] → LX2_walkToLids_39 p0 t_down t_pac hn3 ko n x12 f13 = some rr → W p l e (headSpec wsX2_walkToLids rmX2_walkToLids).room s m args below meth c H locs 0 0 QQ (F0 m 39 ls []) := by
    intro ko hko n
    induction n with
    | zero =>
      intro x12 f13 C H locs ls hP hS hag h5 h6 h8 h77 h80 hl hf
      rw [LX2_walkToLids_39_z] at hf
      cases hf
    | succ n ih =>
      intro x12 f13 C H locs ls hP hS hag h5 h6 h8 h77 h80 hl hf
      rw [LX2_walkToLids_39_s] at hf
      refine lv_iload_n hx hb dX2_walkToLids_39 rfl (lv_at hl 2 rfl) ?_
      refine lv_bipush (v := 12) hx hb dX2_walkToLids_40 (by decide) ?_
      refine lv_icmp_ge (tgt := 75) hx hb dX2_walkToLids_42 (by decide) (fun c16 => ?_) (fun c16 => ?_)
      · have hf := it_e c16 hf
        exact hko x12 f13 C H locs ls hP hS hag h5 h6 h8 h77 h80 (lv_sub hl [0, 1, 2] rfl) hf
      · have hf := ie_e c16 hf
        refine lv_aload_n hx hb dX2_walkToLids_45 rfl (lv_at hl 0 rfl) ?_
        refine lv_iload_n hx hb dX2_walkToLids_46 rfl (lv_at hl 1 rfl) ?_
        refine lv_iload_n hx hb dX2_walkToLids_47 rfl (lv_at hl 2 rfl) ?_
        refine lv_aload_n hx hb dX2_walkToLids_48 rfl (lv_at hl 0 rfl) ?_
        refine r_get (own := RX2) (T := TX2) (n := 6) (ci := 2) (v := .ref (ad 5)) hx hb hts nX2 hown hK hP (by omega) h77 rfl 0 (by decide) k0 rfl dX2_walkToLids_49 ?_
        refine r_getN (own := RX2) (T := TX7) (n := 16) (ci := 7) (v := .ref (ad 6)) hx hb hts nX7 hown hK hP (by omega) h5 rfl 0 (by decide) k2 rfl dX2_walkToLids_52 ?_
        refine lv_iload_n hx hb dX2_walkToLids_55 rfl (lv_at hl 2 rfl) ?_
        obtain ⟨i18, x17, ex17, hf⟩ := ri_e hf
        refine r_iald hx hb hK hP (by omega) h6 i18 dX2_walkToLids_56 ex17 ?_
        refine lv_aload_n hx hb dX2_walkToLids_57 rfl (lv_at hl 0 rfl) ?_
        refine r_get (own := RX2) (T := TX2) (n := 6) (ci := 2) (v := .ref (ad 5)) hx hb hts nX2 hown hK hP (by omega) h77 rfl 0 (by decide) k0 rfl dX2_walkToLids_58 ?_
        refine r_getN (own := RX2) (T := TX7) (n := 16) (ci := 7) (v := .ref (ad 8)) hx hb hts nX7 hown hK hP (by omega) h5 rfl 2 (by decide) k4 rfl dX2_walkToLids_61 ?_
        refine lv_iload_n hx hb dX2_walkToLids_64 rfl (lv_at hl 2 rfl) ?_
        obtain ⟨i20, x19, ex19, hf⟩ := ri_e hf
        refine r_iald hx hb hK hP (by omega) h8 i20 dX2_walkToLids_65 ex19 ?_
        obtain ⟨q21, hq21, hf⟩ := bd_e hf
        refine k_vW (va_runV (C := RX2) (As := [.int p0, .int x12, .int x17, .int x19]) (rest := []) ⟨hx, hb, hml, hown, hts⟩ (c_X2_shorten (l := l) (sz := H.size) (p0 := p0) (p1 := x12) (p2 := x17) (p3 := x19) hN hI h77 h80 hq21) (cwV 4 hts gX2_walkToLids_X2_shorten rfl rfl rfl (by decide +kernel) ⟨Nat.le_of_ble_eq_true rfl, Nat.le_of_ble_eq_true rfl⟩) (preV_of hK hP (by omega) h77 rfl) rfl rfl hl.1 rfl (lv_room (Nat.le_of_ble_eq_true rfl)) dX2_walkToLids_66 ⟨Nat.le_of_ble_eq_true rfl, Nat.le_of_ble_eq_true rfl⟩) hA hAd hS (fun C H locs hP hS hpo => ?_)
        obtain ⟨he, h80⟩ := hpo
        have hag : ∀ i : Nat, i ≠ 80 → C i = C0 i := fun i h => (he i (by omega)).trans (hag i h)
        have h5 := (he 5 (by decide)).trans h5
        have h6 := (he 6 (by decide)).trans h6
        have h8 := (he 8 (by decide)).trans h8
        have h77 := (he 77 (by decide)).trans h77
        obtain ⟨x22, ex22, hf⟩ := lt_e hf
        refine lv_iinc (v := x22) (lv' := [(2, .int x22), (0, .ref (ad 77)), (1, .int p0)]) hx hb dX2_walkToLids_69 hl (k := 2) rfl (by rw [ex22]; rfl) (by decide) rfl (fun ls hl => ?_)
        refine lv_goto (tgt := 39) hx hb dX2_walkToLids_72 (by decide) ?_
        exact ih x22 q21 C H locs ls hP hS hag h5 h6 h8 h77 h80 (lv_sub hl [1, 2, 0] rfl) hf
  refine key39 _ (fun x14 f15 C H locs ls hP hS hag h5 h6 h8 h77 h80 hl hf => ?_) FU 1 f4 C H locs ls hP hS hag h5 h6 h8 h77 h80 (lv_sub hl [1, 2, 0] rfl) hf
  obtain rfl := Option.some.inj hf
  rw [← hQ]
  exact e_vW hx hb hr hP hS ⟨hag, h80⟩ hlocks dX2_walkToLids_75

def LX2_solveFor_22 (hn3 : Nat) (q2 : Int32) (x3 : Int32) (ko : Int32 → (Nat → Int32) → Option ((Nat → Int32) × (Nat → Int32) × (Nat → Int32))) : Nat → Int32 → (Nat → Int32) → Option ((Nat → Int32) × (Nat → Int32) × (Nat → Int32))
  | 0, _, _ => none
  | n + 1, x4, f5 =>
    if 12 ≤ x4 then
      ko x4 f5
    else
      (if q2 = 0 then
        some (1000000)
      else
        some (0) : Option (Int32)).bind fun q9 =>
      wi f5 hn3 ((x3 + x4)) (q9) fun f10 =>
      lt (x4 + 1 : Int32) fun x12 =>
      LX2_solveFor_22 hn3 q2 x3 ko n x12 f10
theorem LX2_solveFor_22_z (hn3 : Nat) (q2 : Int32) (x3 : Int32) (ko : Int32 → (Nat → Int32) → Option ((Nat → Int32) × (Nat → Int32) × (Nat → Int32))) (x4 : Int32) (f5 : Nat → Int32) : LX2_solveFor_22 hn3 q2 x3 ko 0 x4 f5 = none := rfl
theorem LX2_solveFor_22_s (hn3 : Nat) (q2 : Int32) (x3 : Int32) (ko : Int32 → (Nat → Int32) → Option ((Nat → Int32) × (Nat → Int32) × (Nat → Int32))) (n : Nat) (x4 : Int32) (f5 : Nat → Int32) : LX2_solveFor_22 hn3 q2 x3 ko (n + 1) x4 f5 =
    if 12 ≤ x4 then
      ko x4 f5
    else
      (if q2 = 0 then
        some (1000000)
      else
        some (0) : Option (Int32)).bind fun q9 =>
      wi f5 hn3 ((x3 + x4)) (q9) fun f10 =>
      lt (x4 + 1 : Int32) fun x12 =>
      LX2_solveFor_22 hn3 q2 x3 ko n x12 f10 := rfl
def LX2_solveFor_65 (p0 : Int32) (t_lift : Int32) (w_over : Nat → Int32) (h_few : Nat → Int32) (h_sum : Nat → Int32) (hn1 : Nat) (hn2 : Nat) (hn3 : Nat) (q2 : Int32) (x3 : Int32) (ko : Int32 → Int32 → Int32 → (Nat → Int32) → Option ((Nat → Int32) × (Nat → Int32) × (Nat → Int32))) : Nat → Int32 → Int32 → Int32 → (Nat → Int32) → Option ((Nat → Int32) × (Nat → Int32) × (Nat → Int32))
  | 0, _, _, _, _ => none
  | n + 1, x14, x15, x16, f17 =>
    if 12 ≤ x16 then
      ko x14 x15 x16 f17
    else
      if q2 = 0 then
        (f_X2_splits x16 p0 w_over).bind fun q24 =>
        (if q24 = 0 then
          some (x14, x15, f17)
        else
          ri w_over 12 (x16) fun x28 =>
          lt ((p0 &&& x28) : Int32) fun x30 =>
          (f_X2_lidsBy x16 p0 w_over h_few hn1).bind fun q31 =>
          lt ((if q31 < x14 then q31 else x14) : Int32) fun x32 =>
          ri h_sum hn2 (x30) fun x33 =>
          ri h_sum hn2 ((p0 ^^^ x30)) fun x35 =>
          lt ((if (x33 + x35) < x15 then (x33 + x35) else x15) : Int32) fun x37 =>
          (f_X2_minutesBy x16 p0 t_lift w_over f17 hn3).bind fun q38 =>
          wi f17 hn3 ((x3 + x16)) (q38) fun f39 =>
          some (x32, x37, f39) : Option (Int32 × Int32 × (Nat → Int32))).bind fun q25 =>
        lt (x16 + 1 : Int32) fun x26 =>
        LX2_solveFor_65 p0 t_lift w_over h_few h_sum hn1 hn2 hn3 q2 x3 ko n q25.1 q25.2.1 x26 q25.2.2
      else
        ko x14 x15 x16 f17
theorem LX2_solveFor_65_z (p0 : Int32) (t_lift : Int32) (w_over : Nat → Int32) (h_few : Nat → Int32) (h_sum : Nat → Int32) (hn1 : Nat) (hn2 : Nat) (hn3 : Nat) (q2 : Int32) (x3 : Int32) (ko : Int32 → Int32 → Int32 → (Nat → Int32) → Option ((Nat → Int32) × (Nat → Int32) × (Nat → Int32))) (x14 : Int32) (x15 : Int32) (x16 : Int32) (f17 : Nat → Int32) : LX2_solveFor_65 p0 t_lift w_over h_few h_sum hn1 hn2 hn3 q2 x3 ko 0 x14 x15 x16 f17 = none := rfl
theorem LX2_solveFor_65_s (p0 : Int32) (t_lift : Int32) (w_over : Nat → Int32) (h_few : Nat → Int32) (h_sum : Nat → Int32) (hn1 : Nat) (hn2 : Nat) (hn3 : Nat) (q2 : Int32) (x3 : Int32) (ko : Int32 → Int32 → Int32 → (Nat → Int32) → Option ((Nat → Int32) × (Nat → Int32) × (Nat → Int32))) (n : Nat) (x14 : Int32) (x15 : Int32) (x16 : Int32) (f17 : Nat → Int32) : LX2_solveFor_65 p0 t_lift w_over h_few h_sum hn1 hn2 hn3 q2 x3 ko (n + 1) x14 x15 x16 f17 =
    if 12 ≤ x16 then
      ko x14 x15 x16 f17
    else
      if q2 = 0 then
        (f_X2_splits x16 p0 w_over).bind fun q24 =>
        (if q24 = 0 then
          some (x14, x15, f17)
        else
          ri w_over 12 (x16) fun x28 =>
          lt ((p0 &&& x28) : Int32) fun x30 =>
          (f_X2_lidsBy x16 p0 w_over h_few hn1).bind fun q31 =>
          lt ((if q31 < x14 then q31 else x14) : Int32) fun x32 =>
          ri h_sum hn2 (x30) fun x33 =>
          ri h_sum hn2 ((p0 ^^^ x30)) fun x35 =>
          lt ((if (x33 + x35) < x15 then (x33 + x35) else x15) : Int32) fun x37 =>
          (f_X2_minutesBy x16 p0 t_lift w_over f17 hn3).bind fun q38 =>
          wi f17 hn3 ((x3 + x16)) (q38) fun f39 =>
          some (x32, x37, f39) : Option (Int32 × Int32 × (Nat → Int32))).bind fun q25 =>
        lt (x16 + 1 : Int32) fun x26 =>
        LX2_solveFor_65 p0 t_lift w_over h_few h_sum hn1 hn2 hn3 q2 x3 ko n q25.1 q25.2.1 x26 q25.2.2
      else
        ko x14 x15 x16 f17 := rfl
def f_X2_solveFor (p0 : Int32) (t_down : Nat → Int32) (t_pac : Nat → Int32) (t_lik : Nat → Int32) (t_lift : Int32) (w_over : Nat → Int32) (h_few : Nat → Int32) (h_sum : Nat → Int32) (h_min : Nat → Int32) (hn1 : Nat) (hn2 : Nat) (hn3 : Nat) : Option ((Nat → Int32) × (Nat → Int32) × (Nat → Int32)) :=
  (f_J6_bitCount_0f7a4 p0).bind fun q1 =>
  (if 1 < q1 then
    some (0)
  else
    some (1) : Option (Int32)).bind fun q2 =>
  lt ((p0 * 12) : Int32) fun x3 =>
  LX2_solveFor_22 hn3 q2 x3 (fun x6 f7 =>
    LX2_solveFor_65 p0 t_lift w_over h_few h_sum hn1 hn2 hn3 q2 x3 (fun x18 x19 x20 f21 =>
      (if q2 = 0 then
        some (x18)
      else
        some (0) : Option (Int32)).bind fun q41 =>
      wi h_few hn1 (p0) (q41) fun f42 =>
      (if q2 = 0 then
        (f_X9_likelyOf p0 t_lik).bind fun q50 =>
        some ((x19 + q50))
      else
        some (0) : Option (Int32)).bind fun q44 =>
      wi h_sum hn2 (p0) (q44) fun f45 =>
      if q2 = 0 then
        (f_X2_walkToLids x3 t_down t_pac f21 hn3).bind fun q48 =>
        some (f42, f45, q48)
      else
        some (f42, f45, f21)) FU 1000000 1000000 0 f7) FU 0 h_min
abbrev rmX2_solveFor : Room := { frames := 3, cells := 0, slots := 0, locals := 67 }
set_option maxHeartbeats 4000000 in
set_option maxRecDepth 100000 in
theorem c_X2_solveFor {l : Launch} {D : va_G} {g : Nat → ClassId} {N : Nat} {ad : Nat → Nat} {C : Nat → va_E} {sz : Nat} {t_there : Int32} {t_lift : Int32} {t_none : Int32} {t_down : Nat → Int32} {t_pac : Nat → Int32} {t_lik : Nat → Int32} {w_src : Int32} {w_over : Nat → Int32} {h_solved : Int32} {hn1 : Nat} {h_few : Nat → Int32} {hn2 : Nat} {h_sum : Nat → Int32} {hn3 : Nat} {h_min : Nat → Int32} {p0 : Int32} {rr : (Nat → Int32) × (Nat → Int32) × (Nat → Int32)} (hN : 86 ≤ N) (hI : Inj N ad) (h5 : C 5 = .inr (7, [.ref (ad 6), .ref (ad 7), .ref (ad 8), .ref (ad 9), .ref (ad 10), .ref (ad 11), .ref (ad 12), .ref (ad 13), .ref (ad 14), .ref (ad 15), .ref (ad 16), .ref (ad 17), .ref (ad 18), .int t_there, .int t_lift, .int t_none])) (h6 : C 6 = aI g 12 t_down) (h8 : C 8 = aI g 12 t_pac) (h11 : C 11 = aI g 12 t_lik) (h19 : C 19 = .inr (9, [.ref (ad 5), .ref (ad 20), .int w_src])) (h20 : C 20 = aI g 12 w_over) (h77 : C 77 = .inr (2, [.ref (ad 5), .ref (ad 19), .ref (ad 78), .ref (ad 79), .ref (ad 80), .int h_solved])) (h78 : C 78 = aI g hn1 h_few) (h79 : C 79 = aI g hn2 h_sum) (h80 : C 80 = aI g hn3 h_min) (hf : f_X2_solveFor p0 t_down t_pac t_lik t_lift w_over h_few h_sum h_min hn1 hn2 hn3 = some rr) : Met l yX2_solveFor wsX2_solveFor rmX2_solveFor (PcW D g N ad C sz [.ref (ad 77), .int p0]) (QvW D N ad sz (fun C' => (∀ i : Nat, i ≠ 78 ∧ i ≠ 79 ∧ i ≠ 80 → C' i = C i) ∧ (C' 78 = aI g hn1 rr.1) ∧ (C' 79 = aI g hn2 rr.2.1) ∧ (C' 80 = aI g hn3 rr.2.2))) 0 0 (Aw N ad sz) := by
  refine Met.ofW (cc := cX2_solveFor) (maxL := 8) (ret := none) (by decide) rfl ?_
  intro p e s m args below meth c s₁ B hml hv
  obtain ⟨hav, hsz, hK, hP⟩ := hv
  subst hsz
  have hx := B.exec
  have hb := B.bytes
  have hr := B.returns
  have hts := atoms_spec (ws := wsX2_solveFor) B.pre
  have hown : s.vm.findClass RX2 = some m.cls := findClass_of_methodNamed B.named
  have hlocks := B.notSynchronized
  generalize hQ : MQ below (QvW D N ad s.heap.size (fun C' => (∀ i : Nat, i ≠ 78 ∧ i ≠ 79 ∧ i ≠ 80 → C' i = C i) ∧ (C' 78 = aI g hn1 rr.1) ∧ (C' 79 = aI g hn2 rr.2.1) ∧ (C' 80 = aI g hn3 rr.2.2))) args s 0 0 (Aw N ad s.heap.size) = QQ
  have hS : va_S (Aw N ad s.heap.size) s.heap s.heap [] := va_S.rf
  have hA : ∀ q, s.heap.size ≤ q → (Aw N ad s.heap.size) q := fun q h => Or.inr h
  have hAd : ∀ j : Nat, j < N → (Aw N ad s.heap.size) (ad j) := fun j h => Or.inl ⟨j, h, rfl⟩
  obtain ⟨C0, hC0⟩ : ∃ C0 : Nat → va_E, C0 = C := ⟨_, rfl⟩
  have hag : ∀ i : Nat, i ≠ 78 ∧ i ≠ 79 ∧ i ≠ 80 → C i = C0 i := fun i _ => by rw [hC0]
  rw [← hC0] at hQ
  have k0 := hts (.fieldLink RX2 18 "UpDrain$Hunt" "leastMinutes" "[I") (List.mem_of_getElem? (i := 1) rfl)
  have nX2 : ∀ w ∈ u_ws RX2 TX2 6, w ∈ wsX2_solveFor := fun _ h => List.mem_cons_of_mem _ (List.mem_append_left _ (List.mem_append_left _ (List.mem_append_right _ h)))
  have k2 := hts (.constant RX2 49 (1000000)) (List.mem_of_getElem? (i := 2) rfl)
  have k3 := hts (.fieldLink RX2 25 "UpDrain$Hunt" "ways" "LUpDrain$Ways;") (List.mem_of_getElem? (i := 3) rfl)
  have k4 := nf_49 (A := args) hK
  have nX9 : ∀ w ∈ u_ws RX9 TX9 3, w ∈ wsX2_solveFor := fun _ h => List.mem_cons_of_mem _ (List.mem_append_left _ (List.mem_append_right _ h))
  have k6 := hts (.methodLink RX2 70 Lib.Math.min.name) (List.mem_of_getElem? (i := 4) rfl)
  have k7 := hts (.static Lib.Math.min.name) (List.mem_of_getElem? (i := 5) rfl)
  have k8 := hts (.initialized "java/lang/Math") (List.mem_of_getElem? (i := 6) rfl)
  have k9 := hts (.code Lib.Math.min.name Lib.Math.min.code 2 (some .int)) (List.mem_of_getElem? (i := 7) rfl)
  have k10 := hts (.fieldLink RX2 15 "UpDrain$Hunt" "leastSum" "[I") (List.mem_of_getElem? (i := 8) rfl)
  have k11 := hts (.fieldLink RX2 9 "UpDrain$Hunt" "fewestLids" "[I") (List.mem_of_getElem? (i := 9) rfl)
  have hE := lg_entry_eq m [.ref (ad 77), .int p0] 8
  rw [← hav] at hE
  rw [hE]
  have hl := lv_entry [.ref (ad 77), .int p0] (n := 8) (Nat.le_of_ble_eq_true rfl)
  generalize (lg_sl [.ref (ad 77), .int p0] ++ List.replicate (8 - (lg_sl [.ref (ad 77), .int p0]).length) Slot.unset).toArray = ls at hl ⊢
  have hl : lv_has ls 8 [(0, .ref (ad 77)), (1, .int p0)] := hl
  clear hE
  unfold f_X2_solveFor at hf
  suffices hgo : ∀ (H : Heap) (locs : List Loc), va_P D vwCl (wd N ad C) H → va_S (Aw N ad s.heap.size) s.heap H locs → W p l e (headSpec wsX2_solveFor rmX2_solveFor).room s m args below meth c H locs 0 0 QQ (F0 m 0 ls []) from hgo s.heap [] hP hS
  clear hS hP
  intro H locs hP hS
  refine lv_iload_n hx hb dX2_solveFor_0 rfl (lv_at hl 1 rfl) ?_
  obtain ⟨q1, hq1, hf⟩ := bd_e hf
  refine k_iR (va_runS (As := [.int p0]) (rest := []) ⟨hx, hb, hml, hown, hts⟩ (c_J6_bitCount_0f7a4 (l := l) (sz := H.size) (p0 := p0) hq1) (va_cwS 1 hts gX2_solveFor_J6_bitCount_0f7a4 rfl rfl rfl (by decide +kernel) ⟨Nat.le_of_ble_eq_true rfl, Nat.le_of_ble_eq_true rfl⟩) preS0 rfl rfl hl.1 rfl (lv_room (Nat.le_of_ble_eq_true rfl)) dX2_solveFor_1 ⟨Nat.le_of_ble_eq_true rfl, Nat.le_of_ble_eq_true rfl⟩) hA hP hS (fun H locs hP hS hbz_q1 => ?_)
  refine lv_iconst (v := 1) hx hb dX2_solveFor_4 (by decide) ?_
  obtain ⟨q2, htq2, hf⟩ := bd_e hf
  have jnq2 : ∀ (C : Nat → va_E) (H : Heap) (locs : List Loc) (ls : Array Slot), va_P D vwCl (wd N ad C) H → va_S (Aw N ad s.heap.size) s.heap H locs → (∀ i : Nat, i ≠ 78 ∧ i ≠ 79 ∧ i ≠ 80 → C i = C0 i) → C 5 = .inr (7, [.ref (ad 6), .ref (ad 7), .ref (ad 8), .ref (ad 9), .ref (ad 10), .ref (ad 11), .ref (ad 12), .ref (ad 13), .ref (ad 14), .ref (ad 15), .ref (ad 16), .ref (ad 17), .ref (ad 18), .int t_there, .int t_lift, .int t_none]) → C 6 = aI g 12 t_down → C 8 = aI g 12 t_pac → C 11 = aI g 12 t_lik → C 19 = .inr (9, [.ref (ad 5), .ref (ad 20), .int w_src]) → C 20 = aI g 12 w_over → C 77 = .inr (2, [.ref (ad 5), .ref (ad 19), .ref (ad 78), .ref (ad 79), .ref (ad 80), .int h_solved]) → C 78 = aI g hn1 h_few → C 79 = aI g hn2 h_sum → C 80 = aI g hn3 h_min → lv_has ls 8 [(0, .ref (ad 77)), (1, .int p0)] → W p l e (headSpec wsX2_solveFor rmX2_solveFor).room s m args below meth c H locs 0 0 QQ (F0 m 13 ls [.int q2]) := by
    intro C H locs ls hP hS hag h5 h6 h8 h11 h19 h20 h77 h78 h79 h80 hl
    refine lv_istore_n (lv' := [(2, .int q2), (0, .ref (ad 77)), (1, .int p0)]) hx hb dX2_solveFor_13 rfl hl (by decide) rfl (fun ls hl => ?_)
    refine lv_iload_n hx hb dX2_solveFor_14 rfl (lv_at hl 2 rfl) ?_
    refine lv_bipush (v := 12) hx hb dX2_solveFor_15 (by decide) ?_
    refine lv_imul hx hb dX2_solveFor_17 ?_
    obtain ⟨x3, ex3, hf⟩ := lt_e hf
    refine tp_i ex3 ?_
    refine lv_istore_n (lv' := [(3, .int x3), (2, .int q2), (0, .ref (ad 77)), (1, .int p0)]) hx hb dX2_solveFor_18 rfl hl (by decide) rfl (fun ls hl => ?_)
    refine lv_iconst (v := 0) hx hb dX2_solveFor_19 (by decide) ?_
    refine lv_istore (lv' := [(4, .int 0), (3, .int x3), (2, .int q2), (0, .ref (ad 77)), (1, .int p0)]) hx hb dX2_solveFor_20 hl (by decide) rfl (fun ls hl => ?_)
    have key22 : ∀ (ko : Int32 → (Nat → Int32) → Option ((Nat → Int32) × (Nat → Int32) × (Nat → Int32))), (∀ (x6 : Int32) (f7 : Nat → Int32) (C : Nat → va_E) (H : Heap) (locs : List Loc) (ls : Array Slot), va_P D vwCl (wd N ad C) H → va_S (Aw N ad s.heap.size) s.heap H locs → (∀ i : Nat, i ≠ 78 ∧ i ≠ 79 ∧ i ≠ 80 → C i = C0 i) → C 5 = .inr (7, [.ref (ad 6), .ref (ad 7), .ref (ad 8), .ref (ad 9), .ref (ad 10), .ref (ad 11), .ref (ad 12), .ref (ad 13), .ref (ad 14), .ref (ad 15), .ref (ad 16), .ref (ad 17), .ref (ad 18), .int t_there, .int t_lift, .int t_none]) → C 6 = aI g 12 t_down → C 8 = aI g 12 t_pac → C 11 = aI g 12 t_lik → C 19 = .inr (9, [.ref (ad 5), .ref (ad 20), .int w_src]) → C 20 = aI g 12 w_over → C 77 = .inr (2, [.ref (ad 5), .ref (ad 19), .ref (ad 78), .ref (ad 79), .ref (ad 80), .int h_solved]) → C 78 = aI g hn1 h_few → C 79 = aI g hn2 h_sum → C 80 = aI g hn3 f7 → lv_has ls 8 [(0, .ref (ad 77)), (1, .int p0), (2, .int q2), (3, .int x3), (4, .int x6)] → ko x6 f7 = some rr → W p l e (headSpec wsX2_solveFor rmX2_solveFor).room s m args below meth c H locs 0 0 QQ (F0 m 54 ls [])) → ∀ (n : Nat) (x4 : Int32) (f5 : Nat → Int32) (C : Nat → va_E) (H : Heap) (locs : List Loc) (ls : Array Slot), va_P D vwCl (wd N ad C) H → va_S (Aw N ad s.heap.size) s.heap H locs → (∀ i : Nat, i ≠ 78 ∧ i ≠ 79 ∧ i ≠ 80 → C i = C0 i) → C 5 = .inr (7, [.ref (ad 6), .ref (ad 7), .ref (ad 8), .ref (ad 9), .ref (ad 10), .ref (ad 11), .ref (ad 12), .ref (ad 13), .ref (ad 14), .ref (ad 15), .ref (ad 16), .ref (ad 17), .ref (ad 18), .int t_there, .int t_lift, .int t_none]) → C 6 = aI g 12 t_down → C 8 = aI g 12 t_pac → C 11 = aI g 12 t_lik → C 19 = .inr (9, [.ref (ad 5), .ref (ad 20), .int w_src]) → C 20 = aI g 12 w_over → C 77 = .inr (2, [.ref (ad 5), .ref (ad 19), .ref (ad 78), .ref (ad 79), .ref (ad 80), .int h_solved]) → C 78 = aI g hn1 h_few → C 79 = aI g hn2 h_sum → C 80 = aI g hn3 f5 → lv_has ls 8 [(0, .ref (ad 77)), (1, .int p0), (2, .int q2), (3, .int x3), (4, .int x4)] → LX2_solveFor_22 hn3 q2 x3 ko n x4 f5 = some rr → W p l e (headSpec wsX2_solveFor rmX2_solveFor).room s m args below meth c H locs 0 0 QQ (F0 m 22 ls []) := by
      intro ko hko n
      induction n with
      | zero =>
        intro x4 f5 C H locs ls hP hS hag h5 h6 h8 h11 h19 h20 h77 h78 h79 h80 hl hf
        rw [LX2_solveFor_22_z] at hf
        cases hf
      | succ n ih =>
        intro x4 f5 C H locs ls hP hS hag h5 h6 h8 h11 h19 h20 h77 h78 h79 h80 hl hf
        rw [LX2_solveFor_22_s] at hf
        refine lv_iload hx hb dX2_solveFor_22 (lv_at hl 4 rfl) ?_
        refine lv_bipush (v := 12) hx hb dX2_solveFor_24 (by decide) ?_
        refine lv_icmp_ge (tgt := 54) hx hb dX2_solveFor_26 (by decide) (fun c8 => ?_) (fun c8 => ?_)
        · have hf := it_e c8 hf
          exact hko x4 f5 C H locs ls hP hS hag h5 h6 h8 h11 h19 h20 h77 h78 h79 h80 (lv_sub hl [0, 1, 2, 3, 4] rfl) hf
        · have hf := ie_e c8 hf
          refine lv_aload_n hx hb dX2_solveFor_29 rfl (lv_at hl 0 rfl) ?_
          refine r_get (own := RX2) (T := TX2) (n := 6) (ci := 2) (v := .ref (ad 80)) hx hb hts nX2 hown hK hP (by omega) h77 rfl 4 (by decide) k0 rfl dX2_solveFor_30 ?_
          refine lv_iload_n hx hb dX2_solveFor_33 rfl (lv_at hl 3 rfl) ?_
          refine lv_iload hx hb dX2_solveFor_34 (lv_at hl 4 rfl) ?_
          refine lv_iadd hx hb dX2_solveFor_36 ?_
          refine lv_iload_n hx hb dX2_solveFor_37 rfl (lv_at hl 2 rfl) ?_
          obtain ⟨q9, htq9, hf⟩ := bd_e hf
          have jnq9 : ∀ (C : Nat → va_E) (H : Heap) (locs : List Loc) (ls : Array Slot), va_P D vwCl (wd N ad C) H → va_S (Aw N ad s.heap.size) s.heap H locs → (∀ i : Nat, i ≠ 78 ∧ i ≠ 79 ∧ i ≠ 80 → C i = C0 i) → C 5 = .inr (7, [.ref (ad 6), .ref (ad 7), .ref (ad 8), .ref (ad 9), .ref (ad 10), .ref (ad 11), .ref (ad 12), .ref (ad 13), .ref (ad 14), .ref (ad 15), .ref (ad 16), .ref (ad 17), .ref (ad 18), .int t_there, .int t_lift, .int t_none]) → C 6 = aI g 12 t_down → C 8 = aI g 12 t_pac → C 11 = aI g 12 t_lik → C 19 = .inr (9, [.ref (ad 5), .ref (ad 20), .int w_src]) → C 20 = aI g 12 w_over → C 77 = .inr (2, [.ref (ad 5), .ref (ad 19), .ref (ad 78), .ref (ad 79), .ref (ad 80), .int h_solved]) → C 78 = aI g hn1 h_few → C 79 = aI g hn2 h_sum → C 80 = aI g hn3 f5 → lv_has ls 8 [(0, .ref (ad 77)), (1, .int p0), (2, .int q2), (3, .int x3), (4, .int x4)] → W p l e (headSpec wsX2_solveFor rmX2_solveFor).room s m args below meth c H locs 0 0 QQ (F0 m 47 ls [.int q9, .int (x3 + x4), .ref (ad 80)]) := by
            intro C H locs ls hP hS hag h5 h6 h8 h11 h19 h20 h77 h78 h79 h80 hl
            obtain ⟨i11, f10, ef10, hf⟩ := wi_e hf
            refine r_iast hx hb hK hI hAd hP hS (by omega) h80 i11 dX2_solveFor_47 ef10 (fun C H locs hP hS he hn => ?_)
            have hag : ∀ i : Nat, i ≠ 78 ∧ i ≠ 79 ∧ i ≠ 80 → C i = C0 i := fun i h => (he i (by omega)).trans (hag i h)
            have h5 := (he 5 (by decide)).trans h5
            have h6 := (he 6 (by decide)).trans h6
            have h8 := (he 8 (by decide)).trans h8
            have h11 := (he 11 (by decide)).trans h11
            have h19 := (he 19 (by decide)).trans h19
            have h20 := (he 20 (by decide)).trans h20
            have h77 := (he 77 (by decide)).trans h77
            have h78 := (he 78 (by decide)).trans h78
            have h79 := (he 79 (by decide)).trans h79
            have h80 : C 80 = aI g hn3 f10 := hn
            obtain ⟨x12, ex12, hf⟩ := lt_e hf
            refine lv_iinc (v := x12) (lv' := [(4, .int x12), (0, .ref (ad 77)), (1, .int p0), (2, .int q2), (3, .int x3)]) hx hb dX2_solveFor_48 hl (k := 4) rfl (by rw [ex12]; rfl) (by decide) rfl (fun ls hl => ?_)
            refine lv_goto (tgt := 22) hx hb dX2_solveFor_51 (by decide) ?_
            exact ih x12 f10 C H locs ls hP hS hag h5 h6 h8 h11 h19 h20 h77 h78 h79 h80 (lv_sub hl [1, 2, 3, 4, 0] rfl) hf
          clear hf
          have hf := htq9
          refine lv_if_eq (tgt := 45) hx hb dX2_solveFor_38 (by decide) (fun c13 => ?_) (fun c13 => ?_)
          · have hf := it_e c13 hf
            refine lv_ldc (own := RX2) hx hb hown k2 dX2_solveFor_45 ?_
            obtain rfl := Option.some.inj hf
            exact jnq9 C H locs ls hP hS hag h5 h6 h8 h11 h19 h20 h77 h78 h79 h80 (lv_sub hl [0, 1, 2, 3, 4] rfl)
          · have hf := ie_e c13 hf
            refine lv_iconst (v := 0) hx hb dX2_solveFor_41 (by decide) ?_
            refine lv_goto (tgt := 47) hx hb dX2_solveFor_42 (by decide) ?_
            obtain rfl := Option.some.inj hf
            exact jnq9 C H locs ls hP hS hag h5 h6 h8 h11 h19 h20 h77 h78 h79 h80 (lv_sub hl [0, 1, 2, 3, 4] rfl)
    refine key22 _ (fun x6 f7 C H locs ls hP hS hag h5 h6 h8 h11 h19 h20 h77 h78 h79 h80 hl hf => ?_) FU 0 h_min C H locs ls hP hS hag h5 h6 h8 h11 h19 h20 h77 h78 h79 h80 (lv_sub hl [3, 4, 2, 1, 0] rfl) hf
    refine lv_ldc (own := RX2) hx hb hown k2 dX2_solveFor_54 ?_
    refine lv_istore (lv' := [(4, .int 1000000), (0, .ref (ad 77)), (1, .int p0), (2, .int q2), (3, .int x3)]) hx hb dX2_solveFor_56 hl (by decide) rfl (fun ls hl => ?_)
    refine lv_ldc (own := RX2) hx hb hown k2 dX2_solveFor_58 ?_
    refine lv_istore (lv' := [(5, .int 1000000), (4, .int 1000000), (0, .ref (ad 77)), (1, .int p0), (2, .int q2), (3, .int x3)]) hx hb dX2_solveFor_60 hl (by decide) rfl (fun ls hl => ?_)
    refine lv_iconst (v := 0) hx hb dX2_solveFor_62 (by decide) ?_
    refine lv_istore (lv' := [(6, .int 0), (5, .int 1000000), (4, .int 1000000), (0, .ref (ad 77)), (1, .int p0), (2, .int q2), (3, .int x3)]) hx hb dX2_solveFor_63 hl (by decide) rfl (fun ls hl => ?_)
    have key65 : ∀ (ko : Int32 → Int32 → Int32 → (Nat → Int32) → Option ((Nat → Int32) × (Nat → Int32) × (Nat → Int32))), (∀ (x18 : Int32) (x19 : Int32) (x20 : Int32) (f21 : Nat → Int32) (C : Nat → va_E) (H : Heap) (locs : List Loc) (ls : Array Slot), va_P D vwCl (wd N ad C) H → va_S (Aw N ad s.heap.size) s.heap H locs → (∀ i : Nat, i ≠ 78 ∧ i ≠ 79 ∧ i ≠ 80 → C i = C0 i) → C 5 = .inr (7, [.ref (ad 6), .ref (ad 7), .ref (ad 8), .ref (ad 9), .ref (ad 10), .ref (ad 11), .ref (ad 12), .ref (ad 13), .ref (ad 14), .ref (ad 15), .ref (ad 16), .ref (ad 17), .ref (ad 18), .int t_there, .int t_lift, .int t_none]) → C 6 = aI g 12 t_down → C 8 = aI g 12 t_pac → C 11 = aI g 12 t_lik → C 19 = .inr (9, [.ref (ad 5), .ref (ad 20), .int w_src]) → C 20 = aI g 12 w_over → C 77 = .inr (2, [.ref (ad 5), .ref (ad 19), .ref (ad 78), .ref (ad 79), .ref (ad 80), .int h_solved]) → C 78 = aI g hn1 h_few → C 79 = aI g hn2 h_sum → C 80 = aI g hn3 f21 → lv_has ls 8 [(0, .ref (ad 77)), (1, .int p0), (2, .int q2), (3, .int x3), (4, .int x18), (5, .int x19), (6, .int x20)] → ko x18 x19 x20 f21 = some rr → W p l e (headSpec wsX2_solveFor rmX2_solveFor).room s m args below meth c H locs 0 0 QQ (F0 m 160 ls [])) → ∀ (n : Nat) (x14 : Int32) (x15 : Int32) (x16 : Int32) (f17 : Nat → Int32) (C : Nat → va_E) (H : Heap) (locs : List Loc) (ls : Array Slot), va_P D vwCl (wd N ad C) H → va_S (Aw N ad s.heap.size) s.heap H locs → (∀ i : Nat, i ≠ 78 ∧ i ≠ 79 ∧ i ≠ 80 → C i = C0 i) → C 5 = .inr (7, [.ref (ad 6), .ref (ad 7), .ref (ad 8), .ref (ad 9), .ref (ad 10), .ref (ad 11), .ref (ad 12), .ref (ad 13), .ref (ad 14), .ref (ad 15), .ref (ad 16), .ref (ad 17), .ref (ad 18), .int t_there, .int t_lift, .int t_none]) → C 6 = aI g 12 t_down → C 8 = aI g 12 t_pac → C 11 = aI g 12 t_lik → C 19 = .inr (9, [.ref (ad 5), .ref (ad 20), .int w_src]) → C 20 = aI g 12 w_over → C 77 = .inr (2, [.ref (ad 5), .ref (ad 19), .ref (ad 78), .ref (ad 79), .ref (ad 80), .int h_solved]) → C 78 = aI g hn1 h_few → C 79 = aI g hn2 h_sum → C 80 = aI g hn3 f17 → lv_has ls 8 [(0, .ref (ad 77)), (1, .int p0), (2, .int q2), (3, .int x3), (4, .int x14), (5, .int x15), (6, .int x16)] → LX2_solveFor_65 p0 t_lift w_over h_few h_sum hn1 hn2 hn3 q2 x3 ko n x14 x15 x16 f17 = some rr → W p l e (headSpec wsX2_solveFor rmX2_solveFor).room s m args below meth c H locs 0 0 QQ (F0 m 65 ls []) := by
      intro ko hko n
      induction n with
      | zero =>
        intro x14 x15 x16 f17 C H locs ls hP hS hag h5 h6 h8 h11 h19 h20 h77 h78 h79 h80 hl hf
        rw [LX2_solveFor_65_z] at hf
        cases hf
      | succ n ih =>
        intro x14 x15 x16 f17 C H locs ls hP hS hag h5 h6 h8 h11 h19 h20 h77 h78 h79 h80 hl hf
        rw [LX2_solveFor_65_s] at hf
        refine lv_iload hx hb dX2_solveFor_65 (lv_at hl 6 rfl) ?_
        refine lv_bipush (v := 12) hx hb dX2_solveFor_67 (by decide) ?_
        refine lv_icmp_ge (tgt := 160) hx hb dX2_solveFor_69 (by decide) (fun c22 => ?_) (fun c22 => ?_)
        · have hf := it_e c22 hf
          exact hko x14 x15 x16 f17 C H locs ls hP hS hag h5 h6 h8 h11 h19 h20 h77 h78 h79 h80 (lv_sub hl [0, 1, 2, 3, 4, 5, 6] rfl) hf
        · have hf := ie_e c22 hf
          refine lv_iload_n hx hb dX2_solveFor_72 rfl (lv_at hl 2 rfl) ?_
          refine lv_if_ne (tgt := 160) hx hb dX2_solveFor_73 (by decide) (fun c23 => ?_) (fun c23 => ?_)
          · have hf := ie_e c23 hf
            exact hko x14 x15 x16 f17 C H locs ls hP hS hag h5 h6 h8 h11 h19 h20 h77 h78 h79 h80 (lv_sub hl [0, 1, 2, 3, 4, 5, 6] rfl) hf
          · have hf := it_e c23 hf
            refine lv_aload_n hx hb dX2_solveFor_76 rfl (lv_at hl 0 rfl) ?_
            refine lv_iload hx hb dX2_solveFor_77 (lv_at hl 6 rfl) ?_
            refine lv_iload_n hx hb dX2_solveFor_79 rfl (lv_at hl 1 rfl) ?_
            obtain ⟨q24, hq24, hf⟩ := bd_e hf
            refine k_iR (va_runV (C := RX2) (As := [.int x16, .int p0]) (rest := []) ⟨hx, hb, hml, hown, hts⟩ (c_X2_splits (l := l) (sz := H.size) (p0 := x16) (p1 := p0) hN h19 h20 h77 hq24) (cwV 2 hts gX2_solveFor_X2_splits rfl rfl rfl (by decide +kernel) ⟨Nat.le_of_ble_eq_true rfl, Nat.le_of_ble_eq_true rfl⟩) (preV_of hK hP (by omega) h77 rfl) rfl rfl hl.1 rfl (lv_room (Nat.le_of_ble_eq_true rfl)) dX2_solveFor_80 ⟨Nat.le_of_ble_eq_true rfl, Nat.le_of_ble_eq_true rfl⟩) hA hP hS (fun H locs hP hS hbz_q24 => ?_)
            obtain ⟨q25, htq25, hf⟩ := bd_e hf
            have jnq25 : ∀ (C : Nat → va_E) (H : Heap) (locs : List Loc) (ls : Array Slot), va_P D vwCl (wd N ad C) H → va_S (Aw N ad s.heap.size) s.heap H locs → (∀ i : Nat, i ≠ 78 ∧ i ≠ 79 ∧ i ≠ 80 → C i = C0 i) → C 5 = .inr (7, [.ref (ad 6), .ref (ad 7), .ref (ad 8), .ref (ad 9), .ref (ad 10), .ref (ad 11), .ref (ad 12), .ref (ad 13), .ref (ad 14), .ref (ad 15), .ref (ad 16), .ref (ad 17), .ref (ad 18), .int t_there, .int t_lift, .int t_none]) → C 6 = aI g 12 t_down → C 8 = aI g 12 t_pac → C 11 = aI g 12 t_lik → C 19 = .inr (9, [.ref (ad 5), .ref (ad 20), .int w_src]) → C 20 = aI g 12 w_over → C 77 = .inr (2, [.ref (ad 5), .ref (ad 19), .ref (ad 78), .ref (ad 79), .ref (ad 80), .int h_solved]) → C 78 = aI g hn1 h_few → C 79 = aI g hn2 h_sum → C 80 = aI g hn3 q25.2.2 → lv_has ls 8 [(0, .ref (ad 77)), (1, .int p0), (2, .int q2), (3, .int x3), (4, .int q25.1), (5, .int q25.2.1), (6, .int x16)] → W p l e (headSpec wsX2_solveFor rmX2_solveFor).room s m args below meth c H locs 0 0 QQ (F0 m 154 ls []) := by
              intro C H locs ls hP hS hag h5 h6 h8 h11 h19 h20 h77 h78 h79 h80 hl
              obtain ⟨x26, ex26, hf⟩ := lt_e hf
              refine lv_iinc (v := x26) (lv' := [(6, .int x26), (0, .ref (ad 77)), (1, .int p0), (2, .int q2), (3, .int x3), (4, .int q25.1), (5, .int q25.2.1)]) hx hb dX2_solveFor_154 hl (k := 6) rfl (by rw [ex26]; rfl) (by decide) rfl (fun ls hl => ?_)
              refine lv_goto (tgt := 65) hx hb dX2_solveFor_157 (by decide) ?_
              exact ih q25.1 q25.2.1 x26 q25.2.2 C H locs ls hP hS hag h5 h6 h8 h11 h19 h20 h77 h78 h79 h80 (lv_sub hl [1, 2, 3, 4, 5, 6, 0] rfl) hf
            clear hf
            have hf := htq25
            refine lv_if_eq (tgt := 154) hx hb dX2_solveFor_83 (by decide) (fun c27 => ?_) (fun c27 => ?_)
            · have hf := it_e c27 hf
              obtain rfl := Option.some.inj hf
              exact jnq25 C H locs ls hP hS hag h5 h6 h8 h11 h19 h20 h77 h78 h79 h80 (lv_sub hl [0, 1, 2, 3, 4, 5, 6] rfl)
            · have hf := ie_e c27 hf
              refine lv_iload_n hx hb dX2_solveFor_86 rfl (lv_at hl 1 rfl) ?_
              refine lv_aload_n hx hb dX2_solveFor_87 rfl (lv_at hl 0 rfl) ?_
              refine r_get (own := RX2) (T := TX2) (n := 6) (ci := 2) (v := .ref (ad 19)) hx hb hts nX2 hown hK hP (by omega) h77 rfl 1 (by decide) k3 rfl dX2_solveFor_88 ?_
              refine r_getN (own := RX2) (T := TX9) (n := 3) (ci := 9) (v := .ref (ad 20)) hx hb hts nX9 hown hK hP (by omega) h19 rfl 1 (by decide) k4 rfl dX2_solveFor_91 ?_
              refine lv_iload hx hb dX2_solveFor_94 (lv_at hl 6 rfl) ?_
              obtain ⟨i29, x28, ex28, hf⟩ := ri_e hf
              refine r_iald hx hb hK hP (by omega) h20 i29 dX2_solveFor_96 ex28 ?_
              refine lv_iand hx hb dX2_solveFor_97 ?_
              obtain ⟨x30, ex30, hf⟩ := lt_e hf
              refine tp_i ex30 ?_
              refine lv_istore (lv' := [(7, .int x30), (0, .ref (ad 77)), (1, .int p0), (2, .int q2), (3, .int x3), (4, .int x14), (5, .int x15), (6, .int x16)]) hx hb dX2_solveFor_98 hl (by decide) rfl (fun ls hl => ?_)
              refine lv_iload hx hb dX2_solveFor_100 (lv_at hl 5 rfl) ?_
              refine lv_aload_n hx hb dX2_solveFor_102 rfl (lv_at hl 1 rfl) ?_
              refine lv_iload hx hb dX2_solveFor_103 (lv_at hl 7 rfl) ?_
              refine lv_iload_n hx hb dX2_solveFor_105 rfl (lv_at hl 2 rfl) ?_
              obtain ⟨q31, hq31, hf⟩ := bd_e hf
              refine k_iR (va_runV (C := RX2) (As := [.int x16, .int p0]) (rest := [.int x14]) ⟨hx, hb, hml, hown, hts⟩ (c_X2_lidsBy (l := l) (sz := H.size) (p0 := x16) (p1 := p0) hN h19 h20 h77 h78 hq31) (cwV 2 hts gX2_solveFor_X2_lidsBy rfl rfl rfl (by decide +kernel) ⟨Nat.le_of_ble_eq_true rfl, Nat.le_of_ble_eq_true rfl⟩) (preV_of hK hP (by omega) h77 rfl) rfl rfl hl.1 rfl (lv_room (Nat.le_of_ble_eq_true rfl)) dX2_solveFor_106 ⟨Nat.le_of_ble_eq_true rfl, Nat.le_of_ble_eq_true rfl⟩) hA hP hS (fun H locs hP hS hbz_q31 => ?_)
              refine va_mmin (own := RX2) hx hb (hml.trans hl.1.symm) hown k6 k7 k8 k9 (Nat.le_of_ble_eq_true rfl) (Nat.le_of_ble_eq_true rfl) (Nat.le_refl _) (Nat.le_refl _) dX2_solveFor_109 ?_
              obtain ⟨x32, ex32, hf⟩ := lt_e hf
              refine tp_i ex32 ?_
              refine lv_istore (lv' := [(4, .int x32), (7, .int x30), (0, .ref (ad 77)), (1, .int p0), (2, .int q2), (3, .int x3), (5, .int x15), (6, .int x16)]) hx hb dX2_solveFor_112 hl (by decide) rfl (fun ls hl => ?_)
              refine lv_iload hx hb dX2_solveFor_114 (lv_at hl 6 rfl) ?_
              refine lv_aload_n hx hb dX2_solveFor_116 rfl (lv_at hl 2 rfl) ?_
              refine r_get (own := RX2) (T := TX2) (n := 6) (ci := 2) (v := .ref (ad 79)) hx hb hts nX2 hown hK hP (by omega) h77 rfl 3 (by decide) k10 rfl dX2_solveFor_117 ?_
              refine lv_iload hx hb dX2_solveFor_120 (lv_at hl 1 rfl) ?_
              obtain ⟨i34, x33, ex33, hf⟩ := ri_e hf
              refine r_iald hx hb hK hP (by omega) h79 i34 dX2_solveFor_122 ex33 ?_
              refine lv_aload_n hx hb dX2_solveFor_123 rfl (lv_at hl 2 rfl) ?_
              refine r_get (own := RX2) (T := TX2) (n := 6) (ci := 2) (v := .ref (ad 79)) hx hb hts nX2 hown hK hP (by omega) h77 rfl 3 (by decide) k10 rfl dX2_solveFor_124 ?_
              refine lv_iload_n hx hb dX2_solveFor_127 rfl (lv_at hl 3 rfl) ?_
              refine lv_iload hx hb dX2_solveFor_128 (lv_at hl 1 rfl) ?_
              refine lv_ixor hx hb dX2_solveFor_130 ?_
              obtain ⟨i36, x35, ex35, hf⟩ := ri_e hf
              refine r_iald hx hb hK hP (by omega) h79 i36 dX2_solveFor_131 ex35 ?_
              refine lv_iadd hx hb dX2_solveFor_132 ?_
              refine va_mmin (own := RX2) hx hb (hml.trans hl.1.symm) hown k6 k7 k8 k9 (Nat.le_of_ble_eq_true rfl) (Nat.le_of_ble_eq_true rfl) (Nat.le_refl _) (Nat.le_refl _) dX2_solveFor_133 ?_
              obtain ⟨x37, ex37, hf⟩ := lt_e hf
              refine tp_i ex37 ?_
              refine lv_istore (lv' := [(5, .int x37), (4, .int x32), (7, .int x30), (0, .ref (ad 77)), (1, .int p0), (2, .int q2), (3, .int x3), (6, .int x16)]) hx hb dX2_solveFor_136 hl (by decide) rfl (fun ls hl => ?_)
              refine lv_aload_n hx hb dX2_solveFor_138 rfl (lv_at hl 3 rfl) ?_
              refine r_get (own := RX2) (T := TX2) (n := 6) (ci := 2) (v := .ref (ad 80)) hx hb hts nX2 hown hK hP (by omega) h77 rfl 4 (by decide) k0 rfl dX2_solveFor_139 ?_
              refine lv_iload_n hx hb dX2_solveFor_142 rfl (lv_at hl 6 rfl) ?_
              refine lv_iload hx hb dX2_solveFor_143 (lv_at hl 7 rfl) ?_
              refine lv_iadd hx hb dX2_solveFor_145 ?_
              refine lv_aload_n hx hb dX2_solveFor_146 rfl (lv_at hl 3 rfl) ?_
              refine lv_iload hx hb dX2_solveFor_147 (lv_at hl 7 rfl) ?_
              refine lv_iload_n hx hb dX2_solveFor_149 rfl (lv_at hl 4 rfl) ?_
              obtain ⟨q38, hq38, hf⟩ := bd_e hf
              refine k_iR (va_runV (C := RX2) (As := [.int x16, .int p0]) (rest := [.int (x3 + x16), .ref (ad 80)]) ⟨hx, hb, hml, hown, hts⟩ (c_X2_minutesBy (l := l) (sz := H.size) (p0 := x16) (p1 := p0) hN h5 h19 h20 h77 h80 hq38) (cwV 2 hts gX2_solveFor_X2_minutesBy rfl rfl rfl (by decide +kernel) ⟨Nat.le_of_ble_eq_true rfl, Nat.le_of_ble_eq_true rfl⟩) (preV_of hK hP (by omega) h77 rfl) rfl rfl hl.1 rfl (lv_room (Nat.le_of_ble_eq_true rfl)) dX2_solveFor_150 ⟨Nat.le_of_ble_eq_true rfl, Nat.le_of_ble_eq_true rfl⟩) hA hP hS (fun H locs hP hS hbz_q38 => ?_)
              obtain ⟨i40, f39, ef39, hf⟩ := wi_e hf
              refine r_iast hx hb hK hI hAd hP hS (by omega) h80 i40 dX2_solveFor_153 ef39 (fun C H locs hP hS he hn => ?_)
              have hag : ∀ i : Nat, i ≠ 78 ∧ i ≠ 79 ∧ i ≠ 80 → C i = C0 i := fun i h => (he i (by omega)).trans (hag i h)
              have h5 := (he 5 (by decide)).trans h5
              have h6 := (he 6 (by decide)).trans h6
              have h8 := (he 8 (by decide)).trans h8
              have h11 := (he 11 (by decide)).trans h11
              have h19 := (he 19 (by decide)).trans h19
              have h20 := (he 20 (by decide)).trans h20
              have h77 := (he 77 (by decide)).trans h77
              have h78 := (he 78 (by decide)).trans h78
              have h79 := (he 79 (by decide)).trans h79
              have h80 : C 80 = aI g hn3 f39 := hn
              obtain rfl := Option.some.inj hf
              exact jnq25 C H locs ls hP hS hag h5 h6 h8 h11 h19 h20 h77 h78 h79 h80 (lv_sub hl [3, 4, 5, 6, 1, 0, 7] rfl)
    refine key65 _ (fun x18 x19 x20 f21 C H locs ls hP hS hag h5 h6 h8 h11 h19 h20 h77 h78 h79 h80 hl hf => ?_) FU 1000000 1000000 0 f7 C H locs ls hP hS hag h5 h6 h8 h11 h19 h20 h77 h78 h79 h80 (lv_sub hl [3, 4, 5, 6, 2, 1, 0] rfl) hf
    refine lv_aload_n hx hb dX2_solveFor_160 rfl (lv_at hl 0 rfl) ?_
    refine r_get (own := RX2) (T := TX2) (n := 6) (ci := 2) (v := .ref (ad 78)) hx hb hts nX2 hown hK hP (by omega) h77 rfl 2 (by decide) k11 rfl dX2_solveFor_161 ?_
    refine lv_iload_n hx hb dX2_solveFor_164 rfl (lv_at hl 1 rfl) ?_
    refine lv_iload_n hx hb dX2_solveFor_165 rfl (lv_at hl 2 rfl) ?_
    obtain ⟨q41, htq41, hf⟩ := bd_e hf
    have jnq41 : ∀ (C : Nat → va_E) (H : Heap) (locs : List Loc) (ls : Array Slot), va_P D vwCl (wd N ad C) H → va_S (Aw N ad s.heap.size) s.heap H locs → (∀ i : Nat, i ≠ 78 ∧ i ≠ 79 ∧ i ≠ 80 → C i = C0 i) → C 5 = .inr (7, [.ref (ad 6), .ref (ad 7), .ref (ad 8), .ref (ad 9), .ref (ad 10), .ref (ad 11), .ref (ad 12), .ref (ad 13), .ref (ad 14), .ref (ad 15), .ref (ad 16), .ref (ad 17), .ref (ad 18), .int t_there, .int t_lift, .int t_none]) → C 6 = aI g 12 t_down → C 8 = aI g 12 t_pac → C 11 = aI g 12 t_lik → C 19 = .inr (9, [.ref (ad 5), .ref (ad 20), .int w_src]) → C 20 = aI g 12 w_over → C 77 = .inr (2, [.ref (ad 5), .ref (ad 19), .ref (ad 78), .ref (ad 79), .ref (ad 80), .int h_solved]) → C 78 = aI g hn1 h_few → C 79 = aI g hn2 h_sum → C 80 = aI g hn3 f21 → lv_has ls 8 [(0, .ref (ad 77)), (1, .int p0), (2, .int q2), (3, .int x3), (4, .int x18), (5, .int x19), (6, .int x20)] → W p l e (headSpec wsX2_solveFor rmX2_solveFor).room s m args below meth c H locs 0 0 QQ (F0 m 175 ls [.int q41, .int p0, .ref (ad 78)]) := by
      intro C H locs ls hP hS hag h5 h6 h8 h11 h19 h20 h77 h78 h79 h80 hl
      obtain ⟨i43, f42, ef42, hf⟩ := wi_e hf
      refine r_iast hx hb hK hI hAd hP hS (by omega) h78 i43 dX2_solveFor_175 ef42 (fun C H locs hP hS he hn => ?_)
      have hag : ∀ i : Nat, i ≠ 78 ∧ i ≠ 79 ∧ i ≠ 80 → C i = C0 i := fun i h => (he i (by omega)).trans (hag i h)
      have h5 := (he 5 (by decide)).trans h5
      have h6 := (he 6 (by decide)).trans h6
      have h8 := (he 8 (by decide)).trans h8
      have h11 := (he 11 (by decide)).trans h11
      have h19 := (he 19 (by decide)).trans h19
      have h20 := (he 20 (by decide)).trans h20
      have h77 := (he 77 (by decide)).trans h77
      have h79 := (he 79 (by decide)).trans h79
      have h80 := (he 80 (by decide)).trans h80
      have h78 : C 78 = aI g hn1 f42 := hn
      refine lv_aload_n hx hb dX2_solveFor_176 rfl (lv_at hl 0 rfl) ?_
      refine r_get (own := RX2) (T := TX2) (n := 6) (ci := 2) (v := .ref (ad 79)) hx hb hts nX2 hown hK hP (by omega) h77 rfl 3 (by decide) k10 rfl dX2_solveFor_177 ?_
      refine lv_iload_n hx hb dX2_solveFor_180 rfl (lv_at hl 1 rfl) ?_
      refine lv_iload_n hx hb dX2_solveFor_181 rfl (lv_at hl 2 rfl) ?_
      obtain ⟨q44, htq44, hf⟩ := bd_e hf
      have jnq44 : ∀ (C : Nat → va_E) (H : Heap) (locs : List Loc) (ls : Array Slot), va_P D vwCl (wd N ad C) H → va_S (Aw N ad s.heap.size) s.heap H locs → (∀ i : Nat, i ≠ 78 ∧ i ≠ 79 ∧ i ≠ 80 → C i = C0 i) → C 5 = .inr (7, [.ref (ad 6), .ref (ad 7), .ref (ad 8), .ref (ad 9), .ref (ad 10), .ref (ad 11), .ref (ad 12), .ref (ad 13), .ref (ad 14), .ref (ad 15), .ref (ad 16), .ref (ad 17), .ref (ad 18), .int t_there, .int t_lift, .int t_none]) → C 6 = aI g 12 t_down → C 8 = aI g 12 t_pac → C 11 = aI g 12 t_lik → C 19 = .inr (9, [.ref (ad 5), .ref (ad 20), .int w_src]) → C 20 = aI g 12 w_over → C 77 = .inr (2, [.ref (ad 5), .ref (ad 19), .ref (ad 78), .ref (ad 79), .ref (ad 80), .int h_solved]) → C 78 = aI g hn1 f42 → C 79 = aI g hn2 h_sum → C 80 = aI g hn3 f21 → lv_has ls 8 [(0, .ref (ad 77)), (1, .int p0), (2, .int q2), (3, .int x3), (4, .int x18), (5, .int x19), (6, .int x20)] → W p l e (headSpec wsX2_solveFor rmX2_solveFor).room s m args below meth c H locs 0 0 QQ (F0 m 200 ls [.int q44, .int p0, .ref (ad 79)]) := by
        intro C H locs ls hP hS hag h5 h6 h8 h11 h19 h20 h77 h78 h79 h80 hl
        obtain ⟨i46, f45, ef45, hf⟩ := wi_e hf
        refine r_iast hx hb hK hI hAd hP hS (by omega) h79 i46 dX2_solveFor_200 ef45 (fun C H locs hP hS he hn => ?_)
        have hag : ∀ i : Nat, i ≠ 78 ∧ i ≠ 79 ∧ i ≠ 80 → C i = C0 i := fun i h => (he i (by omega)).trans (hag i h)
        have h5 := (he 5 (by decide)).trans h5
        have h6 := (he 6 (by decide)).trans h6
        have h8 := (he 8 (by decide)).trans h8
        have h11 := (he 11 (by decide)).trans h11
        have h19 := (he 19 (by decide)).trans h19
        have h20 := (he 20 (by decide)).trans h20
        have h77 := (he 77 (by decide)).trans h77
        have h78 := (he 78 (by decide)).trans h78
        have h80 := (he 80 (by decide)).trans h80
        have h79 : C 79 = aI g hn2 f45 := hn
        refine lv_iload_n hx hb dX2_solveFor_201 rfl (lv_at hl 2 rfl) ?_
        refine lv_if_ne (tgt := 210) hx hb dX2_solveFor_202 (by decide) (fun c47 => ?_) (fun c47 => ?_)
        · have hf := ie_e c47 hf
          obtain rfl := Option.some.inj hf
          rw [← hQ]
          exact e_vW hx hb hr hP hS ⟨hag, h78, h79, h80⟩ hlocks dX2_solveFor_210
        · have hf := it_e c47 hf
          refine lv_aload_n hx hb dX2_solveFor_205 rfl (lv_at hl 0 rfl) ?_
          refine lv_iload_n hx hb dX2_solveFor_206 rfl (lv_at hl 3 rfl) ?_
          obtain ⟨q48, hq48, hf⟩ := bd_e hf
          refine k_vW (va_runV (C := RX2) (As := [.int x3]) (rest := []) ⟨hx, hb, hml, hown, hts⟩ (c_X2_walkToLids (l := l) (sz := H.size) (p0 := x3) hN hI h5 h6 h8 h77 h80 hq48) (cwV 1 hts gX2_solveFor_X2_walkToLids rfl rfl rfl (by decide +kernel) ⟨Nat.le_of_ble_eq_true rfl, Nat.le_of_ble_eq_true rfl⟩) (preV_of hK hP (by omega) h77 rfl) rfl rfl hl.1 rfl (lv_room (Nat.le_of_ble_eq_true rfl)) dX2_solveFor_207 ⟨Nat.le_of_ble_eq_true rfl, Nat.le_of_ble_eq_true rfl⟩) hA hAd hS (fun C H locs hP hS hpo => ?_)
          obtain ⟨he, h80⟩ := hpo
          have hag : ∀ i : Nat, i ≠ 78 ∧ i ≠ 79 ∧ i ≠ 80 → C i = C0 i := fun i h => (he i (by omega)).trans (hag i h)
          have h5 := (he 5 (by decide)).trans h5
          have h6 := (he 6 (by decide)).trans h6
          have h8 := (he 8 (by decide)).trans h8
          have h11 := (he 11 (by decide)).trans h11
          have h19 := (he 19 (by decide)).trans h19
          have h20 := (he 20 (by decide)).trans h20
          have h77 := (he 77 (by decide)).trans h77
          have h78 := (he 78 (by decide)).trans h78
          have h79 := (he 79 (by decide)).trans h79
          obtain rfl := Option.some.inj hf
          rw [← hQ]
          exact e_vW hx hb hr hP hS ⟨hag, h78, h79, h80⟩ hlocks dX2_solveFor_210
      clear hf
      have hf := htq44
      refine lv_if_eq (tgt := 189) hx hb dX2_solveFor_182 (by decide) (fun c49 => ?_) (fun c49 => ?_)
      · have hf := it_e c49 hf
        refine lv_iload hx hb dX2_solveFor_189 (lv_at hl 5 rfl) ?_
        refine lv_aload_n hx hb dX2_solveFor_191 rfl (lv_at hl 0 rfl) ?_
        refine r_get (own := RX2) (T := TX2) (n := 6) (ci := 2) (v := .ref (ad 19)) hx hb hts nX2 hown hK hP (by omega) h77 rfl 1 (by decide) k3 rfl dX2_solveFor_192 ?_
        refine lv_iload_n hx hb dX2_solveFor_195 rfl (lv_at hl 1 rfl) ?_
        obtain ⟨q50, hq50, hf⟩ := bd_e hf
        refine k_iR (va_runV (C := RX9) (As := [.int p0]) (rest := [.int x19, .int p0, .ref (ad 79)]) ⟨hx, hb, hml, hown, hts⟩ (c_X9_likelyOf (l := l) (sz := H.size) (p0 := p0) hN h5 h11 h19 hq50) (cwV 1 hts gX2_solveFor_X9_likelyOf rfl rfl rfl (by decide +kernel) ⟨Nat.le_of_ble_eq_true rfl, Nat.le_of_ble_eq_true rfl⟩) (preV_of hK hP (by omega) h19 rfl) rfl rfl hl.1 rfl (lv_room (Nat.le_of_ble_eq_true rfl)) dX2_solveFor_196 ⟨Nat.le_of_ble_eq_true rfl, Nat.le_of_ble_eq_true rfl⟩) hA hP hS (fun H locs hP hS hbz_q50 => ?_)
        refine lv_iadd hx hb dX2_solveFor_199 ?_
        obtain rfl := Option.some.inj hf
        exact jnq44 C H locs ls hP hS hag h5 h6 h8 h11 h19 h20 h77 h78 h79 h80 (lv_sub hl [0, 1, 2, 3, 4, 5, 6] rfl)
      · have hf := ie_e c49 hf
        refine lv_iconst (v := 0) hx hb dX2_solveFor_185 (by decide) ?_
        refine lv_goto (tgt := 200) hx hb dX2_solveFor_186 (by decide) ?_
        obtain rfl := Option.some.inj hf
        exact jnq44 C H locs ls hP hS hag h5 h6 h8 h11 h19 h20 h77 h78 h79 h80 (lv_sub hl [0, 1, 2, 3, 4, 5, 6] rfl)
    clear hf
    have hf := htq41
    refine lv_if_eq (tgt := 173) hx hb dX2_solveFor_166 (by decide) (fun c51 => ?_) (fun c51 => ?_)
    · have hf := it_e c51 hf
      refine lv_iload hx hb dX2_solveFor_173 (lv_at hl 4 rfl) ?_
      obtain rfl := Option.some.inj hf
      exact jnq41 C H locs ls hP hS hag h5 h6 h8 h11 h19 h20 h77 h78 h79 h80 (lv_sub hl [0, 1, 2, 3, 4, 5, 6] rfl)
    · have hf := ie_e c51 hf
      refine lv_iconst (v := 0) hx hb dX2_solveFor_169 (by decide) ?_
      refine lv_goto (tgt := 175) hx hb dX2_solveFor_170 (by decide) ?_
      obtain rfl := Option.some.inj hf
      exact jnq41 C H locs ls hP hS hag h5 h6 h8 h11 h19 h20 h77 h78 h79 h80 (lv_sub hl [0, 1, 2, 3, 4, 5, 6] rfl)
  clear hf
  have hf := htq2
  refine lv_icmp_gt (tgt := 12) hx hb dX2_solveFor_5 (by decide) (fun c52 => ?_) (fun c52 => ?_)
  · have hf := it_e c52 hf
    refine lv_iconst (v := 0) hx hb dX2_solveFor_12 (by decide) ?_
    obtain rfl := Option.some.inj hf
    exact jnq2 C H locs ls hP hS hag h5 h6 h8 h11 h19 h20 h77 h78 h79 h80 (lv_sub hl [0, 1] rfl)
  · have hf := ie_e c52 hf
    refine lv_iconst (v := 1) hx hb dX2_solveFor_8 (by decide) ?_
    refine lv_goto (tgt := 13) hx hb dX2_solveFor_9 (by decide) ?_
    obtain rfl := Option.some.inj hf
    exact jnq2 C H locs ls hP hS hag h5 h6 h8 h11 h19 h20 h77 h78 h79 h80 (lv_sub hl [0, 1] rfl)

def LX2_solve_28 (t_down : Nat → Int32) (t_pac : Nat → Int32) (t_lik : Nat → Int32) (t_lift : Int32) (w_src : Int32) (w_over : Nat → Int32) (q2 : (Nat → Int32) × (Nat → Int32) × (Nat → Int32) × Nat × Nat × Nat) (ko : Int32 → (Nat → Int32) → (Nat → Int32) → (Nat → Int32) → Option (Int32 × (Nat → Int32) × (Nat → Int32) × (Nat → Int32) × Nat × Nat × Nat)) : Nat → Int32 → (Nat → Int32) → (Nat → Int32) → (Nat → Int32) → Option (Int32 × (Nat → Int32) × (Nat → Int32) × (Nat → Int32) × Nat × Nat × Nat)
  | 0, _, _, _, _ => none
  | n + 1, x4, f5, f6, f7 =>
    if w_src < x4 then
      ko x4 f5 f6 f7
    else
      ri f5 q2.2.2.2.1 (x4) fun x13 =>
      (if x13 = (-1) then
        some (f5, f6, f7)
      else
        (f_X2_solveFor x4 t_down t_pac t_lik t_lift w_over f5 f7 f6 q2.2.2.2.1 q2.2.2.2.2.1 q2.2.2.2.2.2).bind fun q18 =>
        some (q18.1, q18.2.2, q18.2.1) : Option ((Nat → Int32) × (Nat → Int32) × (Nat → Int32))).bind fun q15 =>
      lt (x4 + 1 : Int32) fun x16 =>
      LX2_solve_28 t_down t_pac t_lik t_lift w_src w_over q2 ko n x16 q15.1 q15.2.1 q15.2.2
theorem LX2_solve_28_z (t_down : Nat → Int32) (t_pac : Nat → Int32) (t_lik : Nat → Int32) (t_lift : Int32) (w_src : Int32) (w_over : Nat → Int32) (q2 : (Nat → Int32) × (Nat → Int32) × (Nat → Int32) × Nat × Nat × Nat) (ko : Int32 → (Nat → Int32) → (Nat → Int32) → (Nat → Int32) → Option (Int32 × (Nat → Int32) × (Nat → Int32) × (Nat → Int32) × Nat × Nat × Nat)) (x4 : Int32) (f5 : Nat → Int32) (f6 : Nat → Int32) (f7 : Nat → Int32) : LX2_solve_28 t_down t_pac t_lik t_lift w_src w_over q2 ko 0 x4 f5 f6 f7 = none := rfl
theorem LX2_solve_28_s (t_down : Nat → Int32) (t_pac : Nat → Int32) (t_lik : Nat → Int32) (t_lift : Int32) (w_src : Int32) (w_over : Nat → Int32) (q2 : (Nat → Int32) × (Nat → Int32) × (Nat → Int32) × Nat × Nat × Nat) (ko : Int32 → (Nat → Int32) → (Nat → Int32) → (Nat → Int32) → Option (Int32 × (Nat → Int32) × (Nat → Int32) × (Nat → Int32) × Nat × Nat × Nat)) (n : Nat) (x4 : Int32) (f5 : Nat → Int32) (f6 : Nat → Int32) (f7 : Nat → Int32) : LX2_solve_28 t_down t_pac t_lik t_lift w_src w_over q2 ko (n + 1) x4 f5 f6 f7 =
    if w_src < x4 then
      ko x4 f5 f6 f7
    else
      ri f5 q2.2.2.2.1 (x4) fun x13 =>
      (if x13 = (-1) then
        some (f5, f6, f7)
      else
        (f_X2_solveFor x4 t_down t_pac t_lik t_lift w_over f5 f7 f6 q2.2.2.2.1 q2.2.2.2.2.1 q2.2.2.2.2.2).bind fun q18 =>
        some (q18.1, q18.2.2, q18.2.1) : Option ((Nat → Int32) × (Nat → Int32) × (Nat → Int32))).bind fun q15 =>
      lt (x4 + 1 : Int32) fun x16 =>
      LX2_solve_28 t_down t_pac t_lik t_lift w_src w_over q2 ko n x16 q15.1 q15.2.1 q15.2.2 := rfl
def f_X2_solve (t_down : Nat → Int32) (t_pac : Nat → Int32) (t_lik : Nat → Int32) (t_lift : Int32) (w_src : Int32) (w_over : Nat → Int32) (h_solved : Int32) (h_few : Nat → Int32) (h_sum : Nat → Int32) (h_min : Nat → Int32) (hn1 : Nat) (hn2 : Nat) (hn3 : Nat) : Option (Int32 × (Nat → Int32) × (Nat → Int32) × (Nat → Int32) × Nat × Nat × Nat) :=
  if h_solved = 0 then
    (f_X2_makeRoomFor w_src h_solved h_few h_sum h_min hn1 hn2 hn3).bind fun q2 =>
    (f_X2_markWhatMayBeLeft w_src w_over q2.1 q2.2.2.2.1).bind fun q3 =>
    LX2_solve_28 t_down t_pac t_lik t_lift w_src w_over q2 (fun x8 f9 f10 f11 =>
      some (1, f9, f11, f10, q2.2.2.2.1, q2.2.2.2.2.1, q2.2.2.2.2.2)) FU 0 q3 q2.2.2.1 q2.2.1
  else
    some (h_solved, h_few, h_sum, h_min, hn1, hn2, hn3)
abbrev rmX2_solve : Room := { frames := 4, cells := 3, slots := 57344, locals := 94 }
set_option maxHeartbeats 4000000 in
set_option maxRecDepth 100000 in
theorem c_X2_solve {l : Launch} {D : va_G} {g : Nat → ClassId} {N : Nat} {ad : Nat → Nat} {C : Nat → va_E} {sz : Nat} {t_there : Int32} {t_lift : Int32} {t_none : Int32} {t_down : Nat → Int32} {t_pac : Nat → Int32} {t_lik : Nat → Int32} {w_src : Int32} {w_over : Nat → Int32} {h_solved : Int32} {hn1 : Nat} {h_few : Nat → Int32} {hn2 : Nat} {h_sum : Nat → Int32} {hn3 : Nat} {h_min : Nat → Int32}  {rr : Int32 × (Nat → Int32) × (Nat → Int32) × (Nat → Int32) × Nat × Nat × Nat} (hN : 86 ≤ N) (hI : Inj N ad) (h5 : C 5 = .inr (7, [.ref (ad 6), .ref (ad 7), .ref (ad 8), .ref (ad 9), .ref (ad 10), .ref (ad 11), .ref (ad 12), .ref (ad 13), .ref (ad 14), .ref (ad 15), .ref (ad 16), .ref (ad 17), .ref (ad 18), .int t_there, .int t_lift, .int t_none])) (h6 : C 6 = aI g 12 t_down) (h8 : C 8 = aI g 12 t_pac) (h11 : C 11 = aI g 12 t_lik) (h19 : C 19 = .inr (9, [.ref (ad 5), .ref (ad 20), .int w_src])) (h20 : C 20 = aI g 12 w_over) (h77 : C 77 = .inr (2, [.ref (ad 5), .ref (ad 19), .ref (ad 78), .ref (ad 79), .ref (ad 80), .int h_solved])) (h78 : C 78 = aI g hn1 h_few) (h79 : C 79 = aI g hn2 h_sum) (h80 : C 80 = aI g hn3 h_min) (hf : f_X2_solve t_down t_pac t_lik t_lift w_src w_over h_solved h_few h_sum h_min hn1 hn2 hn3 = some rr) : Met l yX2_solve wsX2_solve rmX2_solve (PcW D g N ad C sz [.ref (ad 77)]) (QvA D N ad sz (fun ad' C' => (∀ i : Nat, i ≠ 78 → i ≠ 79 → i ≠ 80 → ad' i = ad i) ∧ (∀ i : Nat, i ≠ 77 ∧ i ≠ 78 ∧ i ≠ 79 ∧ i ≠ 80 → C' i = C i) ∧ (C' 77 = .inr (2, [.ref (ad' 5), .ref (ad' 19), .ref (ad' 78), .ref (ad' 79), .ref (ad' 80), .int rr.1])) ∧ (C' 78 = aI g rr.2.2.2.2.1 rr.2.1) ∧ (C' 79 = aI g rr.2.2.2.2.2.1 rr.2.2.1) ∧ (C' 80 = aI g rr.2.2.2.2.2.2 rr.2.2.2.1))) 3 57344 (Aw N ad sz) := by
  refine Met.ofW (cc := cX2_solve) (maxL := 3) (ret := none) (by decide) rfl ?_
  intro p e s m args below meth c s₁ B hml hv
  obtain ⟨hav, hsz, hK, hP⟩ := hv
  subst hsz
  have hx := B.exec
  have hb := B.bytes
  have hr := B.returns
  have hts := atoms_spec (ws := wsX2_solve) B.pre
  have hown : s.vm.findClass RX2 = some m.cls := findClass_of_methodNamed B.named
  have hlocks := B.notSynchronized
  generalize hQ : MQ below (QvA D N ad s.heap.size (fun ad' C' => (∀ i : Nat, i ≠ 78 → i ≠ 79 → i ≠ 80 → ad' i = ad i) ∧ (∀ i : Nat, i ≠ 77 ∧ i ≠ 78 ∧ i ≠ 79 ∧ i ≠ 80 → C' i = C i) ∧ (C' 77 = .inr (2, [.ref (ad' 5), .ref (ad' 19), .ref (ad' 78), .ref (ad' 79), .ref (ad' 80), .int rr.1])) ∧ (C' 78 = aI g rr.2.2.2.2.1 rr.2.1) ∧ (C' 79 = aI g rr.2.2.2.2.2.1 rr.2.2.1) ∧ (C' 80 = aI g rr.2.2.2.2.2.2 rr.2.2.2.1))) args s 3 57344 (Aw N ad s.heap.size) = QQ
  obtain ⟨ad0, had0⟩ : ∃ z : Nat → Nat, z = ad := ⟨_, rfl⟩
  rw [← had0] at hQ
  have hadT : ∀ i : Nat, i ≠ 78 → i ≠ 79 → i ≠ 80 → ad i = ad0 i := fun i _ _ _ => by rw [had0]
  have hS : va_S (Aw N ad0 s.heap.size) s.heap s.heap [] := va_S.rf
  have hA : ∀ q, s.heap.size ≤ q → (Aw N ad0 s.heap.size) q := fun q h => Or.inr h
  have hAd : ∀ j : Nat, j < N → (Aw N ad0 s.heap.size) (ad j) := fun j h => Or.inl ⟨j, h, by rw [had0]⟩
  obtain ⟨C0, hC0⟩ : ∃ C0 : Nat → va_E, C0 = C := ⟨_, rfl⟩
  have hag : ∀ i : Nat, i ≠ 77 ∧ i ≠ 78 ∧ i ≠ 79 ∧ i ≠ 80 → C i = C0 i := fun i _ => by rw [hC0]
  rw [← hC0] at hQ
  have k0 := hts (.fieldLink RX2 29 "UpDrain$Hunt" "solved" "Z") (List.mem_of_getElem? (i := 1) rfl)
  have nX2 : ∀ w ∈ u_ws RX2 TX2 6, w ∈ wsX2_solve := fun _ h => List.mem_cons_of_mem _ (List.mem_append_left _ (List.mem_append_left _ (List.mem_append_right _ h)))
  have k2 := hts (.fieldLink RX2 25 "UpDrain$Hunt" "ways" "LUpDrain$Ways;") (List.mem_of_getElem? (i := 2) rfl)
  have k3 := nf_52 (A := args) hK
  have nX9 : ∀ w ∈ u_ws RX9 TX9 3, w ∈ wsX2_solve := fun _ h => List.mem_cons_of_mem _ (List.mem_append_left _ (List.mem_append_right _ h))
  have k5 := hts (.fieldLink RX2 9 "UpDrain$Hunt" "fewestLids" "[I") (List.mem_of_getElem? (i := 3) rfl)
  have hE := lg_entry_eq m [.ref (ad 77)] 3
  rw [← hav] at hE
  rw [hE]
  have hl := lv_entry [.ref (ad 77)] (n := 3) (Nat.le_of_ble_eq_true rfl)
  generalize (lg_sl [.ref (ad 77)] ++ List.replicate (3 - (lg_sl [.ref (ad 77)]).length) Slot.unset).toArray = ls at hl ⊢
  have hl : lv_has ls 3 [(0, .ref (ad 77))] := hl
  clear hE
  unfold f_X2_solve at hf
  suffices hgo : ∀ (H : Heap) (locs : List Loc), va_P D vwCl (wd N ad C) H → va_S (Aw N ad0 s.heap.size) s.heap H locs → W p l e (headSpec wsX2_solve rmX2_solve).room s m args below meth c H locs 0 0 QQ (F0 m 0 ls []) from hgo s.heap [] hP hS
  clear hS hP
  intro H locs hP hS
  refine lv_aload_n hx hb dX2_solve_0 rfl (lv_at hl 0 rfl) ?_
  refine r_get (own := RX2) (T := TX2) (n := 6) (ci := 2) (v := .int h_solved) hx hb hts nX2 hown hK hP (by omega) h77 rfl 5 (by decide) k0 rfl dX2_solve_1 ?_
  refine lv_if_eq (tgt := 8) hx hb dX2_solve_4 (by decide) (fun c1 => ?_) (fun c1 => ?_)
  · have hf := it_e c1 hf
    refine lv_aload_n hx hb dX2_solve_8 rfl (lv_at hl 0 rfl) ?_
    refine r_get (own := RX2) (T := TX2) (n := 6) (ci := 2) (v := .ref (ad 19)) hx hb hts nX2 hown hK hP (by omega) h77 rfl 1 (by decide) k2 rfl dX2_solve_9 ?_
    refine r_getN (own := RX2) (T := TX9) (n := 3) (ci := 9) (v := .int w_src) hx hb hts nX9 hown hK hP (by omega) h19 rfl 2 (by decide) k3 rfl dX2_solve_12 ?_
    refine lv_istore_n (lv' := [(1, .int w_src), (0, .ref (ad 77))]) hx hb dX2_solve_15 rfl hl (by decide) rfl (fun ls hl => ?_)
    refine lv_aload_n hx hb dX2_solve_16 rfl (lv_at hl 1 rfl) ?_
    refine lv_iload_n hx hb dX2_solve_17 rfl (lv_at hl 0 rfl) ?_
    obtain ⟨q2, hq2, hf⟩ := bd_e hf
    refine k_vA (va_runV (C := RX2) (As := [.int w_src]) (rest := []) ⟨hx, hb, hml, hown, hts⟩ (c_X2_makeRoomFor (l := l) (sz := H.size) (p0 := w_src) hN hI h77 h78 h79 h80 hq2) (cwV 1 hts gX2_solve_X2_makeRoomFor rfl rfl rfl (by decide +kernel) ⟨Nat.le_of_ble_eq_true rfl, Nat.le_of_ble_eq_true rfl⟩) (preV_of hK hP (by omega) h77 rfl) rfl rfl hl.1 rfl (lv_room (Nat.le_of_ble_eq_true rfl)) dX2_solve_18 ⟨Nat.le_of_ble_eq_true rfl, Nat.le_of_ble_eq_true rfl⟩) hA hAd hS (fun ad C H locs hI hAd hP hS hpo => ?_)
    refine W.widen (k := 3) (n := 57344) (Nat.le_refl _) (Nat.le_refl _) ?_
    obtain ⟨had, he, h77, h78, h79, h80⟩ := hpo
    have hadT : ∀ i : Nat, i ≠ 78 → i ≠ 79 → i ≠ 80 → ad i = ad0 i := fun i h1 h2 h3 => (had i h1 h2 h3).trans (hadT i h1 h2 h3)
    have hag : ∀ i : Nat, i ≠ 77 ∧ i ≠ 78 ∧ i ≠ 79 ∧ i ≠ 80 → C i = C0 i := fun i h => (he i (by omega)).trans (hag i h)
    have h5 : C 5 = .inr (7, [.ref (ad 6), .ref (ad 7), .ref (ad 8), .ref (ad 9), .ref (ad 10), .ref (ad 11), .ref (ad 12), .ref (ad 13), .ref (ad 14), .ref (ad 15), .ref (ad 16), .ref (ad 17), .ref (ad 18), .int t_there, .int t_lift, .int t_none]) := by rw [had 6 (by decide) (by decide) (by decide), had 7 (by decide) (by decide) (by decide), had 8 (by decide) (by decide) (by decide), had 9 (by decide) (by decide) (by decide), had 10 (by decide) (by decide) (by decide), had 11 (by decide) (by decide) (by decide), had 12 (by decide) (by decide) (by decide), had 13 (by decide) (by decide) (by decide), had 14 (by decide) (by decide) (by decide), had 15 (by decide) (by decide) (by decide), had 16 (by decide) (by decide) (by decide), had 17 (by decide) (by decide) (by decide), had 18 (by decide) (by decide) (by decide)]; exact (he 5 (by decide)).trans h5
    have h6 := (he 6 (by decide)).trans h6
    have h8 := (he 8 (by decide)).trans h8
    have h11 := (he 11 (by decide)).trans h11
    have h19 : C 19 = .inr (9, [.ref (ad 5), .ref (ad 20), .int w_src]) := by rw [had 5 (by decide) (by decide) (by decide), had 20 (by decide) (by decide) (by decide)]; exact (he 19 (by decide)).trans h19
    have h20 := (he 20 (by decide)).trans h20
    have hl : lv_has ls 3 [(1, .int w_src), (0, .ref (ad 77))] := by rw [had 77 (by decide) (by decide) (by decide)]; exact hl
    refine lv_aload_n hx hb dX2_solve_21 rfl (lv_at hl 1 rfl) ?_
    refine lv_iload_n hx hb dX2_solve_22 rfl (lv_at hl 0 rfl) ?_
    obtain ⟨q3, hq3, hf⟩ := bd_e hf
    refine k_vW (va_runV (C := RX2) (As := [.int w_src]) (rest := []) ⟨hx, hb, hml, hown, hts⟩ (c_X2_markWhatMayBeLeft (l := l) (sz := H.size) (p0 := w_src) hN hI h19 h20 h77 h78 hq3) (cwV 1 hts gX2_solve_X2_markWhatMayBeLeft rfl rfl rfl (by decide +kernel) ⟨Nat.le_of_ble_eq_true rfl, Nat.le_of_ble_eq_true rfl⟩) (preV_of hK hP (by omega) h77 rfl) rfl rfl hl.1 rfl (lv_room (Nat.le_of_ble_eq_true rfl)) dX2_solve_23 ⟨Nat.le_of_ble_eq_true rfl, Nat.le_of_ble_eq_true rfl⟩) hA hAd hS (fun C H locs hP hS hpo => ?_)
    obtain ⟨he, h78⟩ := hpo
    have hag : ∀ i : Nat, i ≠ 77 ∧ i ≠ 78 ∧ i ≠ 79 ∧ i ≠ 80 → C i = C0 i := fun i h => (he i (by omega)).trans (hag i h)
    have h5 := (he 5 (by decide)).trans h5
    have h6 := (he 6 (by decide)).trans h6
    have h8 := (he 8 (by decide)).trans h8
    have h11 := (he 11 (by decide)).trans h11
    have h19 := (he 19 (by decide)).trans h19
    have h20 := (he 20 (by decide)).trans h20
    have h77 := (he 77 (by decide)).trans h77
    have h79 := (he 79 (by decide)).trans h79
    have h80 := (he 80 (by decide)).trans h80
    refine lv_iconst (v := 0) hx hb dX2_solve_26 (by decide) ?_
    refine lv_istore_n (lv' := [(2, .int 0), (1, .int w_src), (0, .ref (ad 77))]) hx hb dX2_solve_27 rfl hl (by decide) rfl (fun ls hl => ?_)
    have key28 : ∀ (ko : Int32 → (Nat → Int32) → (Nat → Int32) → (Nat → Int32) → Option (Int32 × (Nat → Int32) × (Nat → Int32) × (Nat → Int32) × Nat × Nat × Nat)), (∀ (x8 : Int32) (f9 : Nat → Int32) (f10 : Nat → Int32) (f11 : Nat → Int32) (C : Nat → va_E) (H : Heap) (locs : List Loc) (ls : Array Slot), va_P D vwCl (wd N ad C) H → va_S (Aw N ad0 s.heap.size) s.heap H locs → (∀ i : Nat, i ≠ 77 ∧ i ≠ 78 ∧ i ≠ 79 ∧ i ≠ 80 → C i = C0 i) → C 5 = .inr (7, [.ref (ad 6), .ref (ad 7), .ref (ad 8), .ref (ad 9), .ref (ad 10), .ref (ad 11), .ref (ad 12), .ref (ad 13), .ref (ad 14), .ref (ad 15), .ref (ad 16), .ref (ad 17), .ref (ad 18), .int t_there, .int t_lift, .int t_none]) → C 6 = aI g 12 t_down → C 8 = aI g 12 t_pac → C 11 = aI g 12 t_lik → C 19 = .inr (9, [.ref (ad 5), .ref (ad 20), .int w_src]) → C 20 = aI g 12 w_over → C 77 = .inr (2, [.ref (ad 5), .ref (ad 19), .ref (ad 78), .ref (ad 79), .ref (ad 80), .int h_solved]) → C 78 = aI g q2.2.2.2.1 f9 → C 79 = aI g q2.2.2.2.2.1 f11 → C 80 = aI g q2.2.2.2.2.2 f10 → lv_has ls 3 [(0, .ref (ad 77)), (1, .int w_src), (2, .int x8)] → ko x8 f9 f10 f11 = some rr → W p l e (headSpec wsX2_solve rmX2_solve).room s m args below meth c H locs 3 57344 QQ (F0 m 54 ls [])) → ∀ (n : Nat) (x4 : Int32) (f5 : Nat → Int32) (f6 : Nat → Int32) (f7 : Nat → Int32) (C : Nat → va_E) (H : Heap) (locs : List Loc) (ls : Array Slot), va_P D vwCl (wd N ad C) H → va_S (Aw N ad0 s.heap.size) s.heap H locs → (∀ i : Nat, i ≠ 77 ∧ i ≠ 78 ∧ i ≠ 79 ∧ i ≠ 80 → C i = C0 i) → C 5 = .inr (7, [.ref (ad 6), .ref (ad 7), .ref (ad 8), .ref (ad 9), .ref (ad 10), .ref (ad 11), .ref (ad 12), .ref (ad 13), .ref (ad 14), .ref (ad 15), .ref (ad 16), .ref (ad 17), .ref (ad 18), .int t_there, .int t_lift, .int t_none]) → C 6 = aI g 12 t_down → C 8 = aI g 12 t_pac → C 11 = aI g 12 t_lik → C 19 = .inr (9, [.ref (ad 5), .ref (ad 20), .int w_src]) → C 20 = aI g 12 w_over → C 77 = .inr (2, [.ref (ad 5), .ref (ad 19), .ref (ad 78), .ref (ad 79), .ref (ad 80), .int h_solved]) → C 78 = aI g q2.2.2.2.1 f5 → C 79 = aI g q2.2.2.2.2.1 f7 → C 80 = aI g q2.2.2.2.2.2 f6 → lv_has ls 3 [(0, .ref (ad 77)), (1, .int w_src), (2, .int x4)] → LX2_solve_28 t_down t_pac t_lik t_lift w_src w_over q2 ko n x4 f5 f6 f7 = some rr → W p l e (headSpec wsX2_solve rmX2_solve).room s m args below meth c H locs 3 57344 QQ (F0 m 28 ls []) := by
      intro ko hko n
      induction n with
      | zero =>
        intro x4 f5 f6 f7 C H locs ls hP hS hag h5 h6 h8 h11 h19 h20 h77 h78 h79 h80 hl hf
        rw [LX2_solve_28_z] at hf
        cases hf
      | succ n ih =>
        intro x4 f5 f6 f7 C H locs ls hP hS hag h5 h6 h8 h11 h19 h20 h77 h78 h79 h80 hl hf
        rw [LX2_solve_28_s] at hf
        refine lv_iload_n hx hb dX2_solve_28 rfl (lv_at hl 2 rfl) ?_
        refine lv_iload_n hx hb dX2_solve_29 rfl (lv_at hl 1 rfl) ?_
        refine lv_icmp_gt (tgt := 54) hx hb dX2_solve_30 (by decide) (fun c12 => ?_) (fun c12 => ?_)
        · have hf := it_e c12 hf
          exact hko x4 f5 f6 f7 C H locs ls hP hS hag h5 h6 h8 h11 h19 h20 h77 h78 h79 h80 (lv_sub hl [0, 1, 2] rfl) hf
        · have hf := ie_e c12 hf
          refine lv_aload_n hx hb dX2_solve_33 rfl (lv_at hl 0 rfl) ?_
          refine r_get (own := RX2) (T := TX2) (n := 6) (ci := 2) (v := .ref (ad 78)) hx hb hts nX2 hown hK hP (by omega) h77 rfl 2 (by decide) k5 rfl dX2_solve_34 ?_
          refine lv_iload_n hx hb dX2_solve_37 rfl (lv_at hl 2 rfl) ?_
          obtain ⟨i14, x13, ex13, hf⟩ := ri_e hf
          refine r_iald hx hb hK hP (by omega) h78 i14 dX2_solve_38 ex13 ?_
          refine lv_iconst (v := (-1)) hx hb dX2_solve_39 (by decide) ?_
          obtain ⟨q15, htq15, hf⟩ := bd_e hf
          have jnq15 : ∀ (C : Nat → va_E) (H : Heap) (locs : List Loc) (ls : Array Slot), va_P D vwCl (wd N ad C) H → va_S (Aw N ad0 s.heap.size) s.heap H locs → (∀ i : Nat, i ≠ 77 ∧ i ≠ 78 ∧ i ≠ 79 ∧ i ≠ 80 → C i = C0 i) → C 5 = .inr (7, [.ref (ad 6), .ref (ad 7), .ref (ad 8), .ref (ad 9), .ref (ad 10), .ref (ad 11), .ref (ad 12), .ref (ad 13), .ref (ad 14), .ref (ad 15), .ref (ad 16), .ref (ad 17), .ref (ad 18), .int t_there, .int t_lift, .int t_none]) → C 6 = aI g 12 t_down → C 8 = aI g 12 t_pac → C 11 = aI g 12 t_lik → C 19 = .inr (9, [.ref (ad 5), .ref (ad 20), .int w_src]) → C 20 = aI g 12 w_over → C 77 = .inr (2, [.ref (ad 5), .ref (ad 19), .ref (ad 78), .ref (ad 79), .ref (ad 80), .int h_solved]) → C 78 = aI g q2.2.2.2.1 q15.1 → C 79 = aI g q2.2.2.2.2.1 q15.2.2 → C 80 = aI g q2.2.2.2.2.2 q15.2.1 → lv_has ls 3 [(0, .ref (ad 77)), (1, .int w_src), (2, .int x4)] → W p l e (headSpec wsX2_solve rmX2_solve).room s m args below meth c H locs 3 57344 QQ (F0 m 48 ls []) := by
            intro C H locs ls hP hS hag h5 h6 h8 h11 h19 h20 h77 h78 h79 h80 hl
            obtain ⟨x16, ex16, hf⟩ := lt_e hf
            refine lv_iinc (v := x16) (lv' := [(2, .int x16), (0, .ref (ad 77)), (1, .int w_src)]) hx hb dX2_solve_48 hl (k := 2) rfl (by rw [ex16]; rfl) (by decide) rfl (fun ls hl => ?_)
            refine lv_goto (tgt := 28) hx hb dX2_solve_51 (by decide) ?_
            exact ih x16 q15.1 q15.2.1 q15.2.2 C H locs ls hP hS hag h5 h6 h8 h11 h19 h20 h77 h78 h79 h80 (lv_sub hl [1, 2, 0] rfl) hf
          clear hf
          have hf := htq15
          refine lv_icmp_eq (tgt := 48) hx hb dX2_solve_40 (by decide) (fun c17 => ?_) (fun c17 => ?_)
          · have hf := it_e c17 hf
            obtain rfl := Option.some.inj hf
            exact jnq15 C H locs ls hP hS hag h5 h6 h8 h11 h19 h20 h77 h78 h79 h80 (lv_sub hl [0, 1, 2] rfl)
          · have hf := ie_e c17 hf
            refine lv_aload_n hx hb dX2_solve_43 rfl (lv_at hl 0 rfl) ?_
            refine lv_iload_n hx hb dX2_solve_44 rfl (lv_at hl 2 rfl) ?_
            obtain ⟨q18, hq18, hf⟩ := bd_e hf
            refine k_vW (va_runV (C := RX2) (As := [.int x4]) (rest := []) ⟨hx, hb, hml, hown, hts⟩ (c_X2_solveFor (l := l) (sz := H.size) (p0 := x4) hN hI h5 h6 h8 h11 h19 h20 h77 h78 h79 h80 hq18) (cwV 1 hts gX2_solve_X2_solveFor rfl rfl rfl (by decide +kernel) ⟨Nat.le_of_ble_eq_true rfl, Nat.le_of_ble_eq_true rfl⟩) (preV_of hK hP (by omega) h77 rfl) rfl rfl hl.1 rfl (lv_room (Nat.le_of_ble_eq_true rfl)) dX2_solve_45 ⟨Nat.le_of_ble_eq_true rfl, Nat.le_of_ble_eq_true rfl⟩) hA hAd hS (fun C H locs hP hS hpo => ?_)
            obtain ⟨he, h78, h79, h80⟩ := hpo
            have hag : ∀ i : Nat, i ≠ 77 ∧ i ≠ 78 ∧ i ≠ 79 ∧ i ≠ 80 → C i = C0 i := fun i h => (he i (by omega)).trans (hag i h)
            have h5 := (he 5 (by decide)).trans h5
            have h6 := (he 6 (by decide)).trans h6
            have h8 := (he 8 (by decide)).trans h8
            have h11 := (he 11 (by decide)).trans h11
            have h19 := (he 19 (by decide)).trans h19
            have h20 := (he 20 (by decide)).trans h20
            have h77 := (he 77 (by decide)).trans h77
            obtain rfl := Option.some.inj hf
            exact jnq15 C H locs ls hP hS hag h5 h6 h8 h11 h19 h20 h77 h78 h79 h80 (lv_sub hl [0, 1, 2] rfl)
    refine key28 _ (fun x8 f9 f10 f11 C H locs ls hP hS hag h5 h6 h8 h11 h19 h20 h77 h78 h79 h80 hl hf => ?_) FU 0 q3 q2.2.2.1 q2.2.1 C H locs ls hP hS hag h5 h6 h8 h11 h19 h20 h77 h78 h79 h80 (lv_sub hl [2, 1, 0] rfl) hf
    refine lv_aload_n hx hb dX2_solve_54 rfl (lv_at hl 0 rfl) ?_
    refine lv_iconst (v := 1) hx hb dX2_solve_55 (by decide) ?_
    refine r_put (own := RX2) (T := TX2) (n := 6) (ci := 2) (v := .int 1) hx hb hts nX2 tyX2 tyX2_ok nmX2 hown hK hI hAd hP hS (by omega) h77 rfl 5 (by decide) k0 rfl (bz_n bz1) (bz_f bz1) (Nat.le_of_ble_eq_true rfl) dX2_solve_56 (fun C H locs hP hS he hn => ?_)
    have hag : ∀ i : Nat, i ≠ 77 ∧ i ≠ 78 ∧ i ≠ 79 ∧ i ≠ 80 → C i = C0 i := fun i h => (he i (by omega)).trans (hag i h)
    have h5 := (he 5 (by decide)).trans h5
    have h6 := (he 6 (by decide)).trans h6
    have h8 := (he 8 (by decide)).trans h8
    have h11 := (he 11 (by decide)).trans h11
    have h19 := (he 19 (by decide)).trans h19
    have h20 := (he 20 (by decide)).trans h20
    have h78 := (he 78 (by decide)).trans h78
    have h79 := (he 79 (by decide)).trans h79
    have h80 := (he 80 (by decide)).trans h80
    have h77 : C 77 = .inr (2, [.ref (ad 5), .ref (ad 19), .ref (ad 78), .ref (ad 79), .ref (ad 80), .int 1]) := hn
    obtain rfl := Option.some.inj hf
    rw [← hQ]
    exact e_vA hx hb hr hI hAd hP hS ⟨hadT, hag, h77, h78, h79, h80⟩ hlocks dX2_solve_59
  · have hf := ie_e c1 hf
    obtain rfl := Option.some.inj hf
    rw [← hQ]
    refine W.widen (k := 3) (n := 57344) (by omega) (by omega) ?_
    exact e_vA hx hb hr hI hAd hP hS ⟨hadT, hag, h77, h78, h79, h80⟩ hlocks dX2_solve_7

def LX2_firstOfFewest_10 (w_src : Int32) (w_over : Nat → Int32) (h_few : Nat → Int32) (hn1 : Nat) (ko : Int32 → Option (Int32)) : Nat → Int32 → Option (Int32)
  | 0, _ => none
  | n + 1, x1 =>
    if 12 ≤ x1 then
      ko x1
    else
      (f_X2_splits x1 w_src w_over).bind fun q4 =>
      if q4 = 0 then
        lt (x1 + 1 : Int32) fun x6 =>
        LX2_firstOfFewest_10 w_src w_over h_few hn1 ko n x6
      else
        (f_X2_lidsBy x1 w_src w_over h_few hn1).bind fun q7 =>
        ri h_few hn1 (w_src) fun x8 =>
        if q7 = x8 then
          some (x1)
        else
          lt (x1 + 1 : Int32) fun x11 =>
          LX2_firstOfFewest_10 w_src w_over h_few hn1 ko n x11
theorem LX2_firstOfFewest_10_z (w_src : Int32) (w_over : Nat → Int32) (h_few : Nat → Int32) (hn1 : Nat) (ko : Int32 → Option (Int32)) (x1 : Int32) : LX2_firstOfFewest_10 w_src w_over h_few hn1 ko 0 x1 = none := rfl
theorem LX2_firstOfFewest_10_s (w_src : Int32) (w_over : Nat → Int32) (h_few : Nat → Int32) (hn1 : Nat) (ko : Int32 → Option (Int32)) (n : Nat) (x1 : Int32) : LX2_firstOfFewest_10 w_src w_over h_few hn1 ko (n + 1) x1 =
    if 12 ≤ x1 then
      ko x1
    else
      (f_X2_splits x1 w_src w_over).bind fun q4 =>
      if q4 = 0 then
        lt (x1 + 1 : Int32) fun x6 =>
        LX2_firstOfFewest_10 w_src w_over h_few hn1 ko n x6
      else
        (f_X2_lidsBy x1 w_src w_over h_few hn1).bind fun q7 =>
        ri h_few hn1 (w_src) fun x8 =>
        if q7 = x8 then
          some (x1)
        else
          lt (x1 + 1 : Int32) fun x11 =>
          LX2_firstOfFewest_10 w_src w_over h_few hn1 ko n x11 := rfl
def f_X2_firstOfFewest (w_src : Int32) (w_over : Nat → Int32) (h_few : Nat → Int32) (hn1 : Nat) : Option (Int32) :=
  LX2_firstOfFewest_10 w_src w_over h_few hn1 (fun x2 =>
    some ((-1))) FU 0
abbrev rmX2_firstOfFewest : Room := { frames := 2, cells := 0, slots := 0, locals := 44 }
set_option maxHeartbeats 4000000 in
set_option maxRecDepth 100000 in
theorem c_X2_firstOfFewest {l : Launch} {D : va_G} {g : Nat → ClassId} {N : Nat} {ad : Nat → Nat} {C : Nat → va_E} {sz : Nat} {w_src : Int32} {w_over : Nat → Int32} {h_solved : Int32} {hn1 : Nat} {h_few : Nat → Int32}  {rr : Int32} (hN : 86 ≤ N) (h19 : C 19 = .inr (9, [.ref (ad 5), .ref (ad 20), .int w_src])) (h20 : C 20 = aI g 12 w_over) (h77 : C 77 = .inr (2, [.ref (ad 5), .ref (ad 19), .ref (ad 78), .ref (ad 79), .ref (ad 80), .int h_solved])) (h78 : C 78 = aI g hn1 h_few) (hf : f_X2_firstOfFewest w_src w_over h_few hn1 = some rr) : Met l yX2_firstOfFewest wsX2_firstOfFewest rmX2_firstOfFewest (PcW D g N ad C sz [.ref (ad 77)]) (QiR sz tP rr) 0 0 (An sz) := by
  refine Met.ofW (cc := cX2_firstOfFewest) (maxL := 3) (ret := (some .int)) (by decide) rfl ?_
  intro p e s m args below meth c s₁ B hml hv
  obtain ⟨hav, hsz, hK, hP⟩ := hv
  subst hsz
  have hx := B.exec
  have hb := B.bytes
  have hr := B.returns
  have hts := atoms_spec (ws := wsX2_firstOfFewest) B.pre
  have hown : s.vm.findClass RX2 = some m.cls := findClass_of_methodNamed B.named
  have hlocks := B.notSynchronized
  generalize hQ : MQ below (QiR s.heap.size tP rr) args s 0 0 (An s.heap.size) = QQ
  have hS : va_S (An s.heap.size) s.heap s.heap [] := va_S.rf
  have hA : ∀ q, s.heap.size ≤ q → (An s.heap.size) q := fun q h => h
  have k0 := hts (.fieldLink RX2 25 "UpDrain$Hunt" "ways" "LUpDrain$Ways;") (List.mem_of_getElem? (i := 1) rfl)
  have nX2 : ∀ w ∈ u_ws RX2 TX2 6, w ∈ wsX2_firstOfFewest := fun _ h => List.mem_cons_of_mem _ (List.mem_append_left _ (List.mem_append_right _ h))
  have k2 := nf_52 (A := args) hK
  have nX9 : ∀ w ∈ u_ws RX9 TX9 3, w ∈ wsX2_firstOfFewest := fun _ h => List.mem_cons_of_mem _ (List.mem_append_right _ h)
  have k4 := hts (.fieldLink RX2 9 "UpDrain$Hunt" "fewestLids" "[I") (List.mem_of_getElem? (i := 2) rfl)
  have hE := lg_entry_eq m [.ref (ad 77)] 3
  rw [← hav] at hE
  rw [hE]
  have hl := lv_entry [.ref (ad 77)] (n := 3) (Nat.le_of_ble_eq_true rfl)
  generalize (lg_sl [.ref (ad 77)] ++ List.replicate (3 - (lg_sl [.ref (ad 77)]).length) Slot.unset).toArray = ls at hl ⊢
  have hl : lv_has ls 3 [(0, .ref (ad 77))] := hl
  clear hE
  unfold f_X2_firstOfFewest at hf
  suffices hgo : ∀ (H : Heap) (locs : List Loc), va_P D vwCl (wd N ad C) H → va_S (An s.heap.size) s.heap H locs → W p l e (headSpec wsX2_firstOfFewest rmX2_firstOfFewest).room s m args below meth c H locs 0 0 QQ (F0 m 0 ls []) from hgo s.heap [] hP hS
  clear hS hP
  intro H locs hP hS
  refine lv_aload_n hx hb dX2_firstOfFewest_0 rfl (lv_at hl 0 rfl) ?_
  refine r_get (own := RX2) (T := TX2) (n := 6) (ci := 2) (v := .ref (ad 19)) hx hb hts nX2 hown hK hP (by omega) h77 rfl 1 (by decide) k0 rfl dX2_firstOfFewest_1 ?_
  refine r_getN (own := RX2) (T := TX9) (n := 3) (ci := 9) (v := .int w_src) hx hb hts nX9 hown hK hP (by omega) h19 rfl 2 (by decide) k2 rfl dX2_firstOfFewest_4 ?_
  refine lv_istore_n (lv' := [(1, .int w_src), (0, .ref (ad 77))]) hx hb dX2_firstOfFewest_7 rfl hl (by decide) rfl (fun ls hl => ?_)
  refine lv_iconst (v := 0) hx hb dX2_firstOfFewest_8 (by decide) ?_
  refine lv_istore_n (lv' := [(2, .int 0), (1, .int w_src), (0, .ref (ad 77))]) hx hb dX2_firstOfFewest_9 rfl hl (by decide) rfl (fun ls hl => ?_)
  have key10 : ∀ (ko : Int32 → Option (Int32)), (∀ (x2 : Int32) (C : Nat → va_E) (H : Heap) (locs : List Loc) (ls : Array Slot), va_P D vwCl (wd N ad C) H → va_S (An s.heap.size) s.heap H locs → C 19 = .inr (9, [.ref (ad 5), .ref (ad 20), .int w_src]) → C 20 = aI g 12 w_over → C 77 = .inr (2, [.ref (ad 5), .ref (ad 19), .ref (ad 78), .ref (ad 79), .ref (ad 80), .int h_solved]) → C 78 = aI g hn1 h_few → lv_has ls 3 [(0, .ref (ad 77)), (1, .int w_src), (2, .int x2)] → ko x2 = some rr → W p l e (headSpec wsX2_firstOfFewest rmX2_firstOfFewest).room s m args below meth c H locs 0 0 QQ (F0 m 48 ls [])) → ∀ (n : Nat) (x1 : Int32) (C : Nat → va_E) (H : Heap) (locs : List Loc) (ls : Array Slot), va_P D vwCl (wd N ad C) H → va_S (An s.heap.size) s.heap H locs → C 19 = .inr (9, [.ref (ad 5), .ref (ad 20), .int w_src]) → C 20 = aI g 12 w_over → C 77 = .inr (2, [.ref (ad 5), .ref (ad 19), .ref (ad 78), .ref (ad 79), .ref (ad 80), .int h_solved]) → C 78 = aI g hn1 h_few → lv_has ls 3 [(0, .ref (ad 77)), (1, .int w_src), (2, .int x1)] → LX2_firstOfFewest_10 w_src w_over h_few hn1 ko n x1 = some rr → W p l e (headSpec wsX2_firstOfFewest rmX2_firstOfFewest).room s m args below meth c H locs 0 0 QQ (F0 m 10 ls []) := by
    intro ko hko n
    induction n with
    | zero =>
      intro x1 C H locs ls hP hS h19 h20 h77 h78 hl hf
      rw [LX2_firstOfFewest_10_z] at hf
      cases hf
    | succ n ih =>
      intro x1 C H locs ls hP hS h19 h20 h77 h78 hl hf
      rw [LX2_firstOfFewest_10_s] at hf
      refine lv_iload_n hx hb dX2_firstOfFewest_10 rfl (lv_at hl 2 rfl) ?_
      refine lv_bipush (v := 12) hx hb dX2_firstOfFewest_11 (by decide) ?_
      refine lv_icmp_ge (tgt := 48) hx hb dX2_firstOfFewest_13 (by decide) (fun c3 => ?_) (fun c3 => ?_)
      · have hf := it_e c3 hf
        exact hko x1 C H locs ls hP hS h19 h20 h77 h78 (lv_sub hl [0, 1, 2] rfl) hf
      · have hf := ie_e c3 hf
        refine lv_aload_n hx hb dX2_firstOfFewest_16 rfl (lv_at hl 0 rfl) ?_
        refine lv_iload_n hx hb dX2_firstOfFewest_17 rfl (lv_at hl 2 rfl) ?_
        refine lv_iload_n hx hb dX2_firstOfFewest_18 rfl (lv_at hl 1 rfl) ?_
        obtain ⟨q4, hq4, hf⟩ := bd_e hf
        refine k_iR (va_runV (C := RX2) (As := [.int x1, .int w_src]) (rest := []) ⟨hx, hb, hml, hown, hts⟩ (c_X2_splits (l := l) (sz := H.size) (p0 := x1) (p1 := w_src) hN h19 h20 h77 hq4) (cwV 2 hts gX2_firstOfFewest_X2_splits rfl rfl rfl (by decide +kernel) ⟨Nat.le_of_ble_eq_true rfl, Nat.le_of_ble_eq_true rfl⟩) (preV_of hK hP (by omega) h77 rfl) rfl rfl hl.1 rfl (lv_room (Nat.le_of_ble_eq_true rfl)) dX2_firstOfFewest_19 ⟨Nat.le_of_ble_eq_true rfl, Nat.le_of_ble_eq_true rfl⟩) hA hP hS (fun H locs hP hS hbz_q4 => ?_)
        refine lv_if_eq (tgt := 42) hx hb dX2_firstOfFewest_22 (by decide) (fun c5 => ?_) (fun c5 => ?_)
        · have hf := it_e c5 hf
          obtain ⟨x6, ex6, hf⟩ := lt_e hf
          refine lv_iinc (v := x6) (lv' := [(2, .int x6), (0, .ref (ad 77)), (1, .int w_src)]) hx hb dX2_firstOfFewest_42 hl (k := 2) rfl (by rw [ex6]; rfl) (by decide) rfl (fun ls hl => ?_)
          refine lv_goto (tgt := 10) hx hb dX2_firstOfFewest_45 (by decide) ?_
          exact ih x6 C H locs ls hP hS h19 h20 h77 h78 (lv_sub hl [1, 2, 0] rfl) hf
        · have hf := ie_e c5 hf
          refine lv_aload_n hx hb dX2_firstOfFewest_25 rfl (lv_at hl 0 rfl) ?_
          refine lv_iload_n hx hb dX2_firstOfFewest_26 rfl (lv_at hl 2 rfl) ?_
          refine lv_iload_n hx hb dX2_firstOfFewest_27 rfl (lv_at hl 1 rfl) ?_
          obtain ⟨q7, hq7, hf⟩ := bd_e hf
          refine k_iR (va_runV (C := RX2) (As := [.int x1, .int w_src]) (rest := []) ⟨hx, hb, hml, hown, hts⟩ (c_X2_lidsBy (l := l) (sz := H.size) (p0 := x1) (p1 := w_src) hN h19 h20 h77 h78 hq7) (cwV 2 hts gX2_firstOfFewest_X2_lidsBy rfl rfl rfl (by decide +kernel) ⟨Nat.le_of_ble_eq_true rfl, Nat.le_of_ble_eq_true rfl⟩) (preV_of hK hP (by omega) h77 rfl) rfl rfl hl.1 rfl (lv_room (Nat.le_of_ble_eq_true rfl)) dX2_firstOfFewest_28 ⟨Nat.le_of_ble_eq_true rfl, Nat.le_of_ble_eq_true rfl⟩) hA hP hS (fun H locs hP hS hbz_q7 => ?_)
          refine lv_aload_n hx hb dX2_firstOfFewest_31 rfl (lv_at hl 0 rfl) ?_
          refine r_get (own := RX2) (T := TX2) (n := 6) (ci := 2) (v := .ref (ad 78)) hx hb hts nX2 hown hK hP (by omega) h77 rfl 2 (by decide) k4 rfl dX2_firstOfFewest_32 ?_
          refine lv_iload_n hx hb dX2_firstOfFewest_35 rfl (lv_at hl 1 rfl) ?_
          obtain ⟨i9, x8, ex8, hf⟩ := ri_e hf
          refine r_iald hx hb hK hP (by omega) h78 i9 dX2_firstOfFewest_36 ex8 ?_
          refine lv_icmp_ne (tgt := 42) hx hb dX2_firstOfFewest_37 (by decide) (fun c10 => ?_) (fun c10 => ?_)
          · have hf := ie_e c10 hf
            obtain ⟨x11, ex11, hf⟩ := lt_e hf
            refine lv_iinc (v := x11) (lv' := [(2, .int x11), (0, .ref (ad 77)), (1, .int w_src)]) hx hb dX2_firstOfFewest_42 hl (k := 2) rfl (by rw [ex11]; rfl) (by decide) rfl (fun ls hl => ?_)
            refine lv_goto (tgt := 10) hx hb dX2_firstOfFewest_45 (by decide) ?_
            exact ih x11 C H locs ls hP hS h19 h20 h77 h78 (lv_sub hl [1, 2, 0] rfl) hf
          · have hf := it_e c10 hf
            refine lv_iload_n hx hb dX2_firstOfFewest_40 rfl (lv_at hl 2 rfl) ?_
            obtain rfl := Option.some.inj hf
            rw [← hQ]
            exact e_iR hx hb hr rfl (tP_i _) hS hlocks dX2_firstOfFewest_41
  refine key10 _ (fun x2 C H locs ls hP hS h19 h20 h77 h78 hl hf => ?_) FU 0 C H locs ls hP hS h19 h20 h77 h78 (lv_sub hl [2, 1, 0] rfl) hf
  refine lv_iconst (v := (-1)) hx hb dX2_firstOfFewest_48 (by decide) ?_
  obtain rfl := Option.some.inj hf
  rw [← hQ]
  exact e_iR hx hb hr rfl (tP_i _) hS hlocks dX2_firstOfFewest_49

def LX2_nextLid_2 (p0 : Int32) (p1 : Int32) (t_down : Nat → Int32) (t_pac : Nat → Int32) (t_lift : Int32) (w_over : Nat → Int32) (h_min : Nat → Int32) (hn3 : Nat) (ko : Int32 → Option (Int32)) : Nat → Int32 → Option (Int32)
  | 0, _ => none
  | n + 1, x1 =>
    if 12 ≤ x1 then
      ko x1
    else
      (f_X2_splits x1 p1 w_over).bind fun q4 =>
      if q4 = 0 then
        lt (x1 + 1 : Int32) fun x6 =>
        LX2_nextLid_2 p0 p1 t_down t_pac t_lift w_over h_min hn3 ko n x6
      else
        (f_X9_minutesBetween p0 x1 t_down t_pac).bind fun q7 =>
        (f_X2_minutesBy x1 p1 t_lift w_over h_min hn3).bind fun q8 =>
        lt ((q7 + q8) : Int32) fun x9 =>
        ri h_min hn3 (((p1 * 12) + p0)) fun x10 =>
        if x9 = x10 then
          some (x1)
        else
          lt (x1 + 1 : Int32) fun x13 =>
          LX2_nextLid_2 p0 p1 t_down t_pac t_lift w_over h_min hn3 ko n x13
theorem LX2_nextLid_2_z (p0 : Int32) (p1 : Int32) (t_down : Nat → Int32) (t_pac : Nat → Int32) (t_lift : Int32) (w_over : Nat → Int32) (h_min : Nat → Int32) (hn3 : Nat) (ko : Int32 → Option (Int32)) (x1 : Int32) : LX2_nextLid_2 p0 p1 t_down t_pac t_lift w_over h_min hn3 ko 0 x1 = none := rfl
theorem LX2_nextLid_2_s (p0 : Int32) (p1 : Int32) (t_down : Nat → Int32) (t_pac : Nat → Int32) (t_lift : Int32) (w_over : Nat → Int32) (h_min : Nat → Int32) (hn3 : Nat) (ko : Int32 → Option (Int32)) (n : Nat) (x1 : Int32) : LX2_nextLid_2 p0 p1 t_down t_pac t_lift w_over h_min hn3 ko (n + 1) x1 =
    if 12 ≤ x1 then
      ko x1
    else
      (f_X2_splits x1 p1 w_over).bind fun q4 =>
      if q4 = 0 then
        lt (x1 + 1 : Int32) fun x6 =>
        LX2_nextLid_2 p0 p1 t_down t_pac t_lift w_over h_min hn3 ko n x6
      else
        (f_X9_minutesBetween p0 x1 t_down t_pac).bind fun q7 =>
        (f_X2_minutesBy x1 p1 t_lift w_over h_min hn3).bind fun q8 =>
        lt ((q7 + q8) : Int32) fun x9 =>
        ri h_min hn3 (((p1 * 12) + p0)) fun x10 =>
        if x9 = x10 then
          some (x1)
        else
          lt (x1 + 1 : Int32) fun x13 =>
          LX2_nextLid_2 p0 p1 t_down t_pac t_lift w_over h_min hn3 ko n x13 := rfl
def f_X2_nextLid (p0 : Int32) (p1 : Int32) (t_down : Nat → Int32) (t_pac : Nat → Int32) (t_lift : Int32) (w_over : Nat → Int32) (h_min : Nat → Int32) (hn3 : Nat) : Option (Int32) :=
  LX2_nextLid_2 p0 p1 t_down t_pac t_lift w_over h_min hn3 (fun x2 =>
    some ((-1))) FU 0
abbrev rmX2_nextLid : Room := { frames := 2, cells := 0, slots := 0, locals := 46 }
set_option maxHeartbeats 4000000 in
set_option maxRecDepth 100000 in
theorem c_X2_nextLid {l : Launch} {D : va_G} {g : Nat → ClassId} {N : Nat} {ad : Nat → Nat} {C : Nat → va_E} {sz : Nat} {t_there : Int32} {t_lift : Int32} {t_none : Int32} {t_down : Nat → Int32} {t_pac : Nat → Int32} {w_src : Int32} {w_over : Nat → Int32} {h_solved : Int32} {hn3 : Nat} {h_min : Nat → Int32} {p0 : Int32} {p1 : Int32} {rr : Int32} (hN : 86 ≤ N) (h5 : C 5 = .inr (7, [.ref (ad 6), .ref (ad 7), .ref (ad 8), .ref (ad 9), .ref (ad 10), .ref (ad 11), .ref (ad 12), .ref (ad 13), .ref (ad 14), .ref (ad 15), .ref (ad 16), .ref (ad 17), .ref (ad 18), .int t_there, .int t_lift, .int t_none])) (h6 : C 6 = aI g 12 t_down) (h8 : C 8 = aI g 12 t_pac) (h19 : C 19 = .inr (9, [.ref (ad 5), .ref (ad 20), .int w_src])) (h20 : C 20 = aI g 12 w_over) (h77 : C 77 = .inr (2, [.ref (ad 5), .ref (ad 19), .ref (ad 78), .ref (ad 79), .ref (ad 80), .int h_solved])) (h80 : C 80 = aI g hn3 h_min) (hf : f_X2_nextLid p0 p1 t_down t_pac t_lift w_over h_min hn3 = some rr) : Met l yX2_nextLid wsX2_nextLid rmX2_nextLid (PcW D g N ad C sz [.ref (ad 77), .int p0, .int p1]) (QiR sz tP rr) 0 0 (An sz) := by
  refine Met.ofW (cc := cX2_nextLid) (maxL := 5) (ret := (some .int)) (by decide) rfl ?_
  intro p e s m args below meth c s₁ B hml hv
  obtain ⟨hav, hsz, hK, hP⟩ := hv
  subst hsz
  have hx := B.exec
  have hb := B.bytes
  have hr := B.returns
  have hts := atoms_spec (ws := wsX2_nextLid) B.pre
  have hown : s.vm.findClass RX2 = some m.cls := findClass_of_methodNamed B.named
  have hlocks := B.notSynchronized
  generalize hQ : MQ below (QiR s.heap.size tP rr) args s 0 0 (An s.heap.size) = QQ
  have hS : va_S (An s.heap.size) s.heap s.heap [] := va_S.rf
  have hA : ∀ q, s.heap.size ≤ q → (An s.heap.size) q := fun q h => h
  have k0 := hts (.fieldLink RX2 25 "UpDrain$Hunt" "ways" "LUpDrain$Ways;") (List.mem_of_getElem? (i := 1) rfl)
  have nX2 : ∀ w ∈ u_ws RX2 TX2 6, w ∈ wsX2_nextLid := fun _ h => List.mem_cons_of_mem _ (List.mem_append_left _ (List.mem_append_left _ (List.mem_append_right _ h)))
  have k2 := hts (.fieldLink RX2 18 "UpDrain$Hunt" "leastMinutes" "[I") (List.mem_of_getElem? (i := 2) rfl)
  have hE := lg_entry_eq m [.ref (ad 77), .int p0, .int p1] 5
  rw [← hav] at hE
  rw [hE]
  have hl := lv_entry [.ref (ad 77), .int p0, .int p1] (n := 5) (Nat.le_of_ble_eq_true rfl)
  generalize (lg_sl [.ref (ad 77), .int p0, .int p1] ++ List.replicate (5 - (lg_sl [.ref (ad 77), .int p0, .int p1]).length) Slot.unset).toArray = ls at hl ⊢
  have hl : lv_has ls 5 [(0, .ref (ad 77)), (1, .int p0), (2, .int p1)] := hl
  clear hE
  unfold f_X2_nextLid at hf
  suffices hgo : ∀ (H : Heap) (locs : List Loc), va_P D vwCl (wd N ad C) H → va_S (An s.heap.size) s.heap H locs → W p l e (headSpec wsX2_nextLid rmX2_nextLid).room s m args below meth c H locs 0 0 QQ (F0 m 0 ls []) from hgo s.heap [] hP hS
  clear hS hP
  intro H locs hP hS
  refine lv_iconst (v := 0) hx hb dX2_nextLid_0 (by decide) ?_
  refine lv_istore_n (lv' := [(3, .int 0), (0, .ref (ad 77)), (1, .int p0), (2, .int p1)]) hx hb dX2_nextLid_1 rfl hl (by decide) rfl (fun ls hl => ?_)
  have key2 : ∀ (ko : Int32 → Option (Int32)), (∀ (x2 : Int32) (C : Nat → va_E) (H : Heap) (locs : List Loc) (ls : Array Slot), va_P D vwCl (wd N ad C) H → va_S (An s.heap.size) s.heap H locs → C 5 = .inr (7, [.ref (ad 6), .ref (ad 7), .ref (ad 8), .ref (ad 9), .ref (ad 10), .ref (ad 11), .ref (ad 12), .ref (ad 13), .ref (ad 14), .ref (ad 15), .ref (ad 16), .ref (ad 17), .ref (ad 18), .int t_there, .int t_lift, .int t_none]) → C 6 = aI g 12 t_down → C 8 = aI g 12 t_pac → C 19 = .inr (9, [.ref (ad 5), .ref (ad 20), .int w_src]) → C 20 = aI g 12 w_over → C 77 = .inr (2, [.ref (ad 5), .ref (ad 19), .ref (ad 78), .ref (ad 79), .ref (ad 80), .int h_solved]) → C 80 = aI g hn3 h_min → lv_has ls 5 [(0, .ref (ad 77)), (1, .int p0), (2, .int p1), (3, .int x2)] → ko x2 = some rr → W p l e (headSpec wsX2_nextLid rmX2_nextLid).room s m args below meth c H locs 0 0 QQ (F0 m 59 ls [])) → ∀ (n : Nat) (x1 : Int32) (C : Nat → va_E) (H : Heap) (locs : List Loc) (ls : Array Slot), va_P D vwCl (wd N ad C) H → va_S (An s.heap.size) s.heap H locs → C 5 = .inr (7, [.ref (ad 6), .ref (ad 7), .ref (ad 8), .ref (ad 9), .ref (ad 10), .ref (ad 11), .ref (ad 12), .ref (ad 13), .ref (ad 14), .ref (ad 15), .ref (ad 16), .ref (ad 17), .ref (ad 18), .int t_there, .int t_lift, .int t_none]) → C 6 = aI g 12 t_down → C 8 = aI g 12 t_pac → C 19 = .inr (9, [.ref (ad 5), .ref (ad 20), .int w_src]) → C 20 = aI g 12 w_over → C 77 = .inr (2, [.ref (ad 5), .ref (ad 19), .ref (ad 78), .ref (ad 79), .ref (ad 80), .int h_solved]) → C 80 = aI g hn3 h_min → lv_has ls 5 [(0, .ref (ad 77)), (1, .int p0), (2, .int p1), (3, .int x1)] → LX2_nextLid_2 p0 p1 t_down t_pac t_lift w_over h_min hn3 ko n x1 = some rr → W p l e (headSpec wsX2_nextLid rmX2_nextLid).room s m args below meth c H locs 0 0 QQ (F0 m 2 ls []) := by
    intro ko hko n
    induction n with
    | zero =>
      intro x1 C H locs ls hP hS h5 h6 h8 h19 h20 h77 h80 hl hf
      rw [LX2_nextLid_2_z] at hf
      cases hf
    | succ n ih =>
      intro x1 C H locs ls hP hS h5 h6 h8 h19 h20 h77 h80 hl hf
      rw [LX2_nextLid_2_s] at hf
      refine lv_iload_n hx hb dX2_nextLid_2 rfl (lv_at hl 3 rfl) ?_
      refine lv_bipush (v := 12) hx hb dX2_nextLid_3 (by decide) ?_
      refine lv_icmp_ge (tgt := 59) hx hb dX2_nextLid_5 (by decide) (fun c3 => ?_) (fun c3 => ?_)
      · have hf := it_e c3 hf
        exact hko x1 C H locs ls hP hS h5 h6 h8 h19 h20 h77 h80 (lv_sub hl [0, 1, 2, 3] rfl) hf
      · have hf := ie_e c3 hf
        refine lv_aload_n hx hb dX2_nextLid_8 rfl (lv_at hl 0 rfl) ?_
        refine lv_iload_n hx hb dX2_nextLid_9 rfl (lv_at hl 3 rfl) ?_
        refine lv_iload_n hx hb dX2_nextLid_10 rfl (lv_at hl 2 rfl) ?_
        obtain ⟨q4, hq4, hf⟩ := bd_e hf
        refine k_iR (va_runV (C := RX2) (As := [.int x1, .int p1]) (rest := []) ⟨hx, hb, hml, hown, hts⟩ (c_X2_splits (l := l) (sz := H.size) (p0 := x1) (p1 := p1) hN h19 h20 h77 hq4) (cwV 2 hts gX2_nextLid_X2_splits rfl rfl rfl (by decide +kernel) ⟨Nat.le_of_ble_eq_true rfl, Nat.le_of_ble_eq_true rfl⟩) (preV_of hK hP (by omega) h77 rfl) rfl rfl hl.1 rfl (lv_room (Nat.le_of_ble_eq_true rfl)) dX2_nextLid_11 ⟨Nat.le_of_ble_eq_true rfl, Nat.le_of_ble_eq_true rfl⟩) hA hP hS (fun H locs hP hS hbz_q4 => ?_)
        refine lv_if_eq (tgt := 53) hx hb dX2_nextLid_14 (by decide) (fun c5 => ?_) (fun c5 => ?_)
        · have hf := it_e c5 hf
          obtain ⟨x6, ex6, hf⟩ := lt_e hf
          refine lv_iinc (v := x6) (lv' := [(3, .int x6), (0, .ref (ad 77)), (1, .int p0), (2, .int p1)]) hx hb dX2_nextLid_53 hl (k := 3) rfl (by rw [ex6]; rfl) (by decide) rfl (fun ls hl => ?_)
          refine lv_goto (tgt := 2) hx hb dX2_nextLid_56 (by decide) ?_
          exact ih x6 C H locs ls hP hS h5 h6 h8 h19 h20 h77 h80 (lv_sub hl [1, 2, 3, 0] rfl) hf
        · have hf := ie_e c5 hf
          refine lv_aload_n hx hb dX2_nextLid_17 rfl (lv_at hl 0 rfl) ?_
          refine r_get (own := RX2) (T := TX2) (n := 6) (ci := 2) (v := .ref (ad 19)) hx hb hts nX2 hown hK hP (by omega) h77 rfl 1 (by decide) k0 rfl dX2_nextLid_18 ?_
          refine lv_iload_n hx hb dX2_nextLid_21 rfl (lv_at hl 1 rfl) ?_
          refine lv_iload_n hx hb dX2_nextLid_22 rfl (lv_at hl 3 rfl) ?_
          obtain ⟨q7, hq7, hf⟩ := bd_e hf
          refine k_iR (va_runV (C := RX9) (As := [.int p0, .int x1]) (rest := []) ⟨hx, hb, hml, hown, hts⟩ (c_X9_minutesBetween (l := l) (sz := H.size) (p0 := p0) (p1 := x1) hN h5 h6 h8 h19 hq7) (cwV 2 hts gX2_nextLid_X9_minutesBetween rfl rfl rfl (by decide +kernel) ⟨Nat.le_of_ble_eq_true rfl, Nat.le_of_ble_eq_true rfl⟩) (preV_of hK hP (by omega) h19 rfl) rfl rfl hl.1 rfl (lv_room (Nat.le_of_ble_eq_true rfl)) dX2_nextLid_23 ⟨Nat.le_of_ble_eq_true rfl, Nat.le_of_ble_eq_true rfl⟩) hA hP hS (fun H locs hP hS hbz_q7 => ?_)
          refine lv_aload_n hx hb dX2_nextLid_26 rfl (lv_at hl 0 rfl) ?_
          refine lv_iload_n hx hb dX2_nextLid_27 rfl (lv_at hl 3 rfl) ?_
          refine lv_iload_n hx hb dX2_nextLid_28 rfl (lv_at hl 2 rfl) ?_
          obtain ⟨q8, hq8, hf⟩ := bd_e hf
          refine k_iR (va_runV (C := RX2) (As := [.int x1, .int p1]) (rest := [.int q7]) ⟨hx, hb, hml, hown, hts⟩ (c_X2_minutesBy (l := l) (sz := H.size) (p0 := x1) (p1 := p1) hN h5 h19 h20 h77 h80 hq8) (cwV 2 hts gX2_nextLid_X2_minutesBy rfl rfl rfl (by decide +kernel) ⟨Nat.le_of_ble_eq_true rfl, Nat.le_of_ble_eq_true rfl⟩) (preV_of hK hP (by omega) h77 rfl) rfl rfl hl.1 rfl (lv_room (Nat.le_of_ble_eq_true rfl)) dX2_nextLid_29 ⟨Nat.le_of_ble_eq_true rfl, Nat.le_of_ble_eq_true rfl⟩) hA hP hS (fun H locs hP hS hbz_q8 => ?_)
          refine lv_iadd hx hb dX2_nextLid_32 ?_
          obtain ⟨x9, ex9, hf⟩ := lt_e hf
          refine tp_i ex9 ?_
          refine lv_istore (lv' := [(4, .int x9), (0, .ref (ad 77)), (1, .int p0), (2, .int p1), (3, .int x1)]) hx hb dX2_nextLid_33 hl (by decide) rfl (fun ls hl => ?_)
          refine lv_iload hx hb dX2_nextLid_35 (lv_at hl 0 rfl) ?_
          refine lv_aload_n hx hb dX2_nextLid_37 rfl (lv_at hl 1 rfl) ?_
          refine r_get (own := RX2) (T := TX2) (n := 6) (ci := 2) (v := .ref (ad 80)) hx hb hts nX2 hown hK hP (by omega) h77 rfl 4 (by decide) k2 rfl dX2_nextLid_38 ?_
          refine lv_iload_n hx hb dX2_nextLid_41 rfl (lv_at hl 3 rfl) ?_
          refine lv_bipush (v := 12) hx hb dX2_nextLid_42 (by decide) ?_
          refine lv_imul hx hb dX2_nextLid_44 ?_
          refine lv_iload_n hx hb dX2_nextLid_45 rfl (lv_at hl 2 rfl) ?_
          refine lv_iadd hx hb dX2_nextLid_46 ?_
          obtain ⟨i11, x10, ex10, hf⟩ := ri_e hf
          refine r_iald hx hb hK hP (by omega) h80 i11 dX2_nextLid_47 ex10 ?_
          refine lv_icmp_ne (tgt := 53) hx hb dX2_nextLid_48 (by decide) (fun c12 => ?_) (fun c12 => ?_)
          · have hf := ie_e c12 hf
            obtain ⟨x13, ex13, hf⟩ := lt_e hf
            refine lv_iinc (v := x13) (lv' := [(3, .int x13), (4, .int x9), (0, .ref (ad 77)), (1, .int p0), (2, .int p1)]) hx hb dX2_nextLid_53 hl (k := 4) rfl (by rw [ex13]; rfl) (by decide) rfl (fun ls hl => ?_)
            refine lv_goto (tgt := 2) hx hb dX2_nextLid_56 (by decide) ?_
            exact ih x13 C H locs ls hP hS h5 h6 h8 h19 h20 h77 h80 (lv_sub hl [2, 3, 4, 0] rfl) hf
          · have hf := it_e c12 hf
            refine lv_iload_n hx hb dX2_nextLid_51 rfl (lv_at hl 4 rfl) ?_
            obtain rfl := Option.some.inj hf
            rw [← hQ]
            exact e_iR hx hb hr rfl (tP_i _) hS hlocks dX2_nextLid_52
  refine key2 _ (fun x2 C H locs ls hP hS h5 h6 h8 h19 h20 h77 h80 hl hf => ?_) FU 0 C H locs ls hP hS h5 h6 h8 h19 h20 h77 h80 (lv_sub hl [1, 2, 3, 0] rfl) hf
  refine lv_iconst (v := (-1)) hx hb dX2_nextLid_59 (by decide) ?_
  obtain rfl := Option.some.inj hf
  rw [← hQ]
  exact e_iR hx hb hr rfl (tP_i _) hS hlocks dX2_nextLid_60

def f_X3_lidOf (p0 : Int32) (p1 : Int32) : Option (Int32) :=
  some (((p0 >>> ((4 * p1) &&& 31)) &&& 15))
abbrev rmX3_lidOf : Room := { frames := 0, cells := 0, slots := 0, locals := 0 }
set_option maxHeartbeats 4000000 in
set_option maxRecDepth 100000 in
theorem c_X3_lidOf {l : Launch} {sz : Nat}  {p0 : Int32} {p1 : Int32} {rr : Int32} (hf : f_X3_lidOf p0 p1 = some rr) : Met l yX3_lidOf wsX3_lidOf rmX3_lidOf (PcS sz [.int p0, .int p1]) (QiR sz tP rr) 0 0 (An sz) := by
  refine Met.ofW (cc := cX3_lidOf) (maxL := 2) (ret := (some .int)) (by decide) rfl ?_
  intro p e s m args below meth c s₁ B hml hv
  obtain ⟨hav, hsz⟩ := hv
  subst hsz
  have hx := B.exec
  have hb := B.bytes
  have hr := B.returns
  have hts := atoms_spec (ws := wsX3_lidOf) B.pre
  have hown : s.vm.findClass RX3 = some m.cls := findClass_of_methodNamed B.named
  have hlocks := B.notSynchronized
  generalize hQ : MQ below (QiR s.heap.size tP rr) args s 0 0 (An s.heap.size) = QQ
  have hS : va_S (An s.heap.size) s.heap s.heap [] := va_S.rf
  have hA : ∀ q, s.heap.size ≤ q → (An s.heap.size) q := fun q h => h
  have hE := lg_entry_eq m [.int p0, .int p1] 2
  rw [← hav] at hE
  rw [hE]
  have hl := lv_entry [.int p0, .int p1] (n := 2) (Nat.le_of_ble_eq_true rfl)
  generalize (lg_sl [.int p0, .int p1] ++ List.replicate (2 - (lg_sl [.int p0, .int p1]).length) Slot.unset).toArray = ls at hl ⊢
  have hl : lv_has ls 2 [(0, .int p0), (1, .int p1)] := hl
  clear hE
  unfold f_X3_lidOf at hf
  suffices hgo : ∀ (H : Heap) (locs : List Loc), va_S (An s.heap.size) s.heap H locs → W p l e (headSpec wsX3_lidOf rmX3_lidOf).room s m args below meth c H locs 0 0 QQ (F0 m 0 ls []) from hgo s.heap [] hS
  clear hS
  intro H locs hS
  refine lv_iload_n hx hb dX3_lidOf_0 rfl (lv_at hl 0 rfl) ?_
  refine lv_iconst (v := 4) hx hb dX3_lidOf_1 (by decide) ?_
  refine lv_iload_n hx hb dX3_lidOf_2 rfl (lv_at hl 1 rfl) ?_
  refine lv_imul hx hb dX3_lidOf_3 ?_
  refine lv_ishr hx hb dX3_lidOf_4 ?_
  refine lv_bipush (v := 15) hx hb dX3_lidOf_5 (by decide) ?_
  refine lv_iand hx hb dX3_lidOf_7 ?_
  obtain rfl := Option.some.inj hf
  rw [← hQ]
  exact e_iR hx hb hr rfl (tP_i _) hS hlocks dX3_lidOf_8

def LX3_answersOf_6 (p0 : Int32) (p1 : Int32) (p2 : Int32) (p3 : Int32) (t_down : Nat → Int32) (t_pac : Nat → Int32) (w_over : Nat → Int32) (ko : Int32 → Int32 → Option (Int32)) : Nat → Int32 → Int32 → Option (Int32)
  | 0, _, _ => none
  | n + 1, x1, x2 =>
    if p2 ≤ x2 then
      ko x1 x2
    else
      (f_X3_lidOf p1 x2).bind fun q6 =>
      ri w_over 12 (q6) fun x7 =>
      (f_X10_has x7 p0).bind fun q9 =>
      (if q9 = 0 then
        some (0)
      else
        some ((1 <<< (x2 &&& 31))) : Option (Int32)).bind fun q10 =>
      lt ((x1 ||| q10) : Int32) fun x11 =>
      (f_X9_minutesBetween p0 q6 t_down t_pac).bind fun q12 =>
      if p3 < q12 then
        lt (x2 + 1 : Int32) fun x14 =>
        LX3_answersOf_6 p0 p1 p2 p3 t_down t_pac w_over ko n x11 x14
      else
        ko x11 x2
theorem LX3_answersOf_6_z (p0 : Int32) (p1 : Int32) (p2 : Int32) (p3 : Int32) (t_down : Nat → Int32) (t_pac : Nat → Int32) (w_over : Nat → Int32) (ko : Int32 → Int32 → Option (Int32)) (x1 : Int32) (x2 : Int32) : LX3_answersOf_6 p0 p1 p2 p3 t_down t_pac w_over ko 0 x1 x2 = none := rfl
theorem LX3_answersOf_6_s (p0 : Int32) (p1 : Int32) (p2 : Int32) (p3 : Int32) (t_down : Nat → Int32) (t_pac : Nat → Int32) (w_over : Nat → Int32) (ko : Int32 → Int32 → Option (Int32)) (n : Nat) (x1 : Int32) (x2 : Int32) : LX3_answersOf_6 p0 p1 p2 p3 t_down t_pac w_over ko (n + 1) x1 x2 =
    if p2 ≤ x2 then
      ko x1 x2
    else
      (f_X3_lidOf p1 x2).bind fun q6 =>
      ri w_over 12 (q6) fun x7 =>
      (f_X10_has x7 p0).bind fun q9 =>
      (if q9 = 0 then
        some (0)
      else
        some ((1 <<< (x2 &&& 31))) : Option (Int32)).bind fun q10 =>
      lt ((x1 ||| q10) : Int32) fun x11 =>
      (f_X9_minutesBetween p0 q6 t_down t_pac).bind fun q12 =>
      if p3 < q12 then
        lt (x2 + 1 : Int32) fun x14 =>
        LX3_answersOf_6 p0 p1 p2 p3 t_down t_pac w_over ko n x11 x14
      else
        ko x11 x2 := rfl
def f_X3_answersOf (p0 : Int32) (p1 : Int32) (p2 : Int32) (p3 : Int32) (t_down : Nat → Int32) (t_pac : Nat → Int32) (w_over : Nat → Int32) : Option (Int32) :=
  LX3_answersOf_6 p0 p1 p2 p3 t_down t_pac w_over (fun x3 x4 =>
    some (x3)) FU 0 0
abbrev rmX3_answersOf : Room := { frames := 1, cells := 0, slots := 0, locals := 26 }
set_option maxHeartbeats 4000000 in
set_option maxRecDepth 100000 in
theorem c_X3_answersOf {l : Launch} {D : va_G} {g : Nat → ClassId} {N : Nat} {ad : Nat → Nat} {C : Nat → va_E} {sz : Nat} {t_there : Int32} {t_lift : Int32} {t_none : Int32} {t_down : Nat → Int32} {t_pac : Nat → Int32} {w_src : Int32} {w_over : Nat → Int32} {p0 : Int32} {p1 : Int32} {p2 : Int32} {p3 : Int32} {rr : Int32} (hN : 86 ≤ N) (h5 : C 5 = .inr (7, [.ref (ad 6), .ref (ad 7), .ref (ad 8), .ref (ad 9), .ref (ad 10), .ref (ad 11), .ref (ad 12), .ref (ad 13), .ref (ad 14), .ref (ad 15), .ref (ad 16), .ref (ad 17), .ref (ad 18), .int t_there, .int t_lift, .int t_none])) (h6 : C 6 = aI g 12 t_down) (h8 : C 8 = aI g 12 t_pac) (h19 : C 19 = .inr (9, [.ref (ad 5), .ref (ad 20), .int w_src])) (h20 : C 20 = aI g 12 w_over) (h81 : C 81 = .inr (3, [.ref (ad 5), .ref (ad 19), .ref (ad 82), .ref (ad 83)])) (hf : f_X3_answersOf p0 p1 p2 p3 t_down t_pac w_over = some rr) : Met l yX3_answersOf wsX3_answersOf rmX3_answersOf (PcW D g N ad C sz [.ref (ad 81), .int p0, .int p1, .int p2, .int p3]) (QiR sz tP rr) 0 0 (An sz) := by
  refine Met.ofW (cc := cX3_answersOf) (maxL := 8) (ret := (some .int)) (by decide) rfl ?_
  intro p e s m args below meth c s₁ B hml hv
  obtain ⟨hav, hsz, hK, hP⟩ := hv
  subst hsz
  have hx := B.exec
  have hb := B.bytes
  have hr := B.returns
  have hts := atoms_spec (ws := wsX3_answersOf) B.pre
  have hown : s.vm.findClass RX3 = some m.cls := findClass_of_methodNamed B.named
  have hlocks := B.notSynchronized
  generalize hQ : MQ below (QiR s.heap.size tP rr) args s 0 0 (An s.heap.size) = QQ
  have hS : va_S (An s.heap.size) s.heap s.heap [] := va_S.rf
  have hA : ∀ q, s.heap.size ≤ q → (An s.heap.size) q := fun q h => h
  have k0 := hts (.fieldLink RX3 22 "UpDrain$Lids" "ways" "LUpDrain$Ways;") (List.mem_of_getElem? (i := 1) rfl)
  have nX3 : ∀ w ∈ u_ws RX3 TX3 4, w ∈ wsX3_answersOf := fun _ h => List.mem_cons_of_mem _ (List.mem_append_left _ (List.mem_append_left _ (List.mem_append_right _ h)))
  have k2 := nf_48 (A := args) hK
  have nX9 : ∀ w ∈ u_ws RX9 TX9 3, w ∈ wsX3_answersOf := fun _ h => List.mem_cons_of_mem _ (List.mem_append_left _ (List.mem_append_right _ h))
  have k4 := nm_9 hK
  have k5 := hts (.initialized RX10) (List.mem_of_getElem? (i := 7) rfl)
  have k6 := hts (.static yX10_has) (List.mem_of_getElem? (i := 6) rfl)
  have hE := lg_entry_eq m [.ref (ad 81), .int p0, .int p1, .int p2, .int p3] 8
  rw [← hav] at hE
  rw [hE]
  have hl := lv_entry [.ref (ad 81), .int p0, .int p1, .int p2, .int p3] (n := 8) (Nat.le_of_ble_eq_true rfl)
  generalize (lg_sl [.ref (ad 81), .int p0, .int p1, .int p2, .int p3] ++ List.replicate (8 - (lg_sl [.ref (ad 81), .int p0, .int p1, .int p2, .int p3]).length) Slot.unset).toArray = ls at hl ⊢
  have hl : lv_has ls 8 [(0, .ref (ad 81)), (1, .int p0), (2, .int p1), (3, .int p2), (4, .int p3)] := hl
  clear hE
  unfold f_X3_answersOf at hf
  suffices hgo : ∀ (H : Heap) (locs : List Loc), va_P D vwCl (wd N ad C) H → va_S (An s.heap.size) s.heap H locs → W p l e (headSpec wsX3_answersOf rmX3_answersOf).room s m args below meth c H locs 0 0 QQ (F0 m 0 ls []) from hgo s.heap [] hP hS
  clear hS hP
  intro H locs hP hS
  refine lv_iconst (v := 0) hx hb dX3_answersOf_0 (by decide) ?_
  refine lv_istore (lv' := [(5, .int 0), (0, .ref (ad 81)), (1, .int p0), (2, .int p1), (3, .int p2), (4, .int p3)]) hx hb dX3_answersOf_1 hl (by decide) rfl (fun ls hl => ?_)
  refine lv_iconst (v := 0) hx hb dX3_answersOf_3 (by decide) ?_
  refine lv_istore (lv' := [(6, .int 0), (5, .int 0), (0, .ref (ad 81)), (1, .int p0), (2, .int p1), (3, .int p2), (4, .int p3)]) hx hb dX3_answersOf_4 hl (by decide) rfl (fun ls hl => ?_)
  have key6 : ∀ (ko : Int32 → Int32 → Option (Int32)), (∀ (x3 : Int32) (x4 : Int32) (C : Nat → va_E) (H : Heap) (locs : List Loc) (ls : Array Slot), va_P D vwCl (wd N ad C) H → va_S (An s.heap.size) s.heap H locs → C 5 = .inr (7, [.ref (ad 6), .ref (ad 7), .ref (ad 8), .ref (ad 9), .ref (ad 10), .ref (ad 11), .ref (ad 12), .ref (ad 13), .ref (ad 14), .ref (ad 15), .ref (ad 16), .ref (ad 17), .ref (ad 18), .int t_there, .int t_lift, .int t_none]) → C 6 = aI g 12 t_down → C 8 = aI g 12 t_pac → C 19 = .inr (9, [.ref (ad 5), .ref (ad 20), .int w_src]) → C 20 = aI g 12 w_over → C 81 = .inr (3, [.ref (ad 5), .ref (ad 19), .ref (ad 82), .ref (ad 83)]) → lv_has ls 8 [(0, .ref (ad 81)), (1, .int p0), (2, .int p1), (3, .int p2), (4, .int p3), (5, .int x3), (6, .int x4)] → ko x3 x4 = some rr → W p l e (headSpec wsX3_answersOf rmX3_answersOf).room s m args below meth c H locs 0 0 QQ (F0 m 74 ls [])) → ∀ (n : Nat) (x1 : Int32) (x2 : Int32) (C : Nat → va_E) (H : Heap) (locs : List Loc) (ls : Array Slot), va_P D vwCl (wd N ad C) H → va_S (An s.heap.size) s.heap H locs → C 5 = .inr (7, [.ref (ad 6), .ref (ad 7), .ref (ad 8), .ref (ad 9), .ref (ad 10), .ref (ad 11), .ref (ad 12), .ref (ad 13), .ref (ad 14), .ref (ad 15), .ref (ad 16), .ref (ad 17), .ref (ad 18), .int t_there, .int t_lift, .int t_none]) → C 6 = aI g 12 t_down → C 8 = aI g 12 t_pac → C 19 = .inr (9, [.ref (ad 5), .ref (ad 20), .int w_src]) → C 20 = aI g 12 w_over → C 81 = .inr (3, [.ref (ad 5), .ref (ad 19), .ref (ad 82), .ref (ad 83)]) → lv_has ls 8 [(0, .ref (ad 81)), (1, .int p0), (2, .int p1), (3, .int p2), (4, .int p3), (5, .int x1), (6, .int x2)] → LX3_answersOf_6 p0 p1 p2 p3 t_down t_pac w_over ko n x1 x2 = some rr → W p l e (headSpec wsX3_answersOf rmX3_answersOf).room s m args below meth c H locs 0 0 QQ (F0 m 6 ls []) := by
    intro ko hko n
    induction n with
    | zero =>
      intro x1 x2 C H locs ls hP hS h5 h6 h8 h19 h20 h81 hl hf
      rw [LX3_answersOf_6_z] at hf
      cases hf
    | succ n ih =>
      intro x1 x2 C H locs ls hP hS h5 h6 h8 h19 h20 h81 hl hf
      rw [LX3_answersOf_6_s] at hf
      refine lv_iload hx hb dX3_answersOf_6 (lv_at hl 6 rfl) ?_
      refine lv_iload_n hx hb dX3_answersOf_8 rfl (lv_at hl 3 rfl) ?_
      refine lv_icmp_ge (tgt := 74) hx hb dX3_answersOf_9 (by decide) (fun c5 => ?_) (fun c5 => ?_)
      · have hf := it_e c5 hf
        exact hko x1 x2 C H locs ls hP hS h5 h6 h8 h19 h20 h81 (lv_sub hl [0, 1, 2, 3, 4, 5, 6] rfl) hf
      · have hf := ie_e c5 hf
        refine lv_iload_n hx hb dX3_answersOf_12 rfl (lv_at hl 2 rfl) ?_
        refine lv_iload hx hb dX3_answersOf_13 (lv_at hl 6 rfl) ?_
        obtain ⟨q6, hq6, hf⟩ := bd_e hf
        refine k_iR (va_runS (As := [.int p1, .int x2]) (rest := []) ⟨hx, hb, hml, hown, hts⟩ (c_X3_lidOf (l := l) (sz := H.size) (p0 := p1) (p1 := x2) hq6) (va_cwS 2 hts gX3_answersOf_X3_lidOf rfl rfl rfl (by decide +kernel) ⟨Nat.le_of_ble_eq_true rfl, Nat.le_of_ble_eq_true rfl⟩) preS0 rfl rfl hl.1 rfl (lv_room (Nat.le_of_ble_eq_true rfl)) dX3_answersOf_15 ⟨Nat.le_of_ble_eq_true rfl, Nat.le_of_ble_eq_true rfl⟩) hA hP hS (fun H locs hP hS hbz_q6 => ?_)
        refine lv_istore (lv' := [(7, .int q6), (0, .ref (ad 81)), (1, .int p0), (2, .int p1), (3, .int p2), (4, .int p3), (5, .int x1), (6, .int x2)]) hx hb dX3_answersOf_18 hl (by decide) rfl (fun ls hl => ?_)
        refine lv_iload hx hb dX3_answersOf_20 (lv_at hl 6 rfl) ?_
        refine lv_aload_n hx hb dX3_answersOf_22 rfl (lv_at hl 1 rfl) ?_
        refine r_get (own := RX3) (T := TX3) (n := 4) (ci := 3) (v := .ref (ad 19)) hx hb hts nX3 hown hK hP (by omega) h81 rfl 1 (by decide) k0 rfl dX3_answersOf_23 ?_
        refine r_getN (own := RX3) (T := TX9) (n := 3) (ci := 9) (v := .ref (ad 20)) hx hb hts nX9 hown hK hP (by omega) h19 rfl 1 (by decide) k2 rfl dX3_answersOf_26 ?_
        refine lv_iload hx hb dX3_answersOf_29 (lv_at hl 0 rfl) ?_
        obtain ⟨i8, x7, ex7, hf⟩ := ri_e hf
        refine r_iald hx hb hK hP (by omega) h20 i8 dX3_answersOf_31 ex7 ?_
        refine lv_iload_n hx hb dX3_answersOf_32 rfl (lv_at hl 2 rfl) ?_
        obtain ⟨q9, hq9, hf⟩ := bd_e hf
        refine k_iR (va_runSN (As := [.int x7, .int p0]) (rest := [.int x1]) ⟨hx, hb, hml, hown, hts⟩ (c_X10_has (l := l) (sz := H.size) (p0 := x7) (p1 := p0) hq9) ⟨va_cnB 2 hts gX3_answersOf_X10_has_n35 rfl rfl rfl k4 k5 (by decide +kernel) ⟨Nat.le_of_ble_eq_true rfl, Nat.le_of_ble_eq_true rfl⟩, k6, trivial⟩ preS0 rfl rfl hl.1 rfl (lv_room (Nat.le_of_ble_eq_true rfl)) dX3_answersOf_33 ⟨Nat.le_of_ble_eq_true rfl, Nat.le_of_ble_eq_true rfl⟩) hA hP hS (fun H locs hP hS hbz_q9 => ?_)
        obtain ⟨q10, htq10, hf⟩ := bd_e hf
        have jnq10 : ∀ (C : Nat → va_E) (H : Heap) (locs : List Loc) (ls : Array Slot), va_P D vwCl (wd N ad C) H → va_S (An s.heap.size) s.heap H locs → C 5 = .inr (7, [.ref (ad 6), .ref (ad 7), .ref (ad 8), .ref (ad 9), .ref (ad 10), .ref (ad 11), .ref (ad 12), .ref (ad 13), .ref (ad 14), .ref (ad 15), .ref (ad 16), .ref (ad 17), .ref (ad 18), .int t_there, .int t_lift, .int t_none]) → C 6 = aI g 12 t_down → C 8 = aI g 12 t_pac → C 19 = .inr (9, [.ref (ad 5), .ref (ad 20), .int w_src]) → C 20 = aI g 12 w_over → C 81 = .inr (3, [.ref (ad 5), .ref (ad 19), .ref (ad 82), .ref (ad 83)]) → lv_has ls 8 [(0, .ref (ad 81)), (1, .int p0), (2, .int p1), (3, .int p2), (4, .int p3), (5, .int x1), (6, .int x2), (7, .int q6)] → W p l e (headSpec wsX3_answersOf rmX3_answersOf).room s m args below meth c H locs 0 0 QQ (F0 m 47 ls [.int q10, .int x1]) := by
          intro C H locs ls hP hS h5 h6 h8 h19 h20 h81 hl
          refine lv_ior hx hb dX3_answersOf_47 ?_
          obtain ⟨x11, ex11, hf⟩ := lt_e hf
          refine tp_i ex11 ?_
          refine lv_istore (lv' := [(5, .int x11), (0, .ref (ad 81)), (1, .int p0), (2, .int p1), (3, .int p2), (4, .int p3), (6, .int x2), (7, .int q6)]) hx hb dX3_answersOf_48 hl (by decide) rfl (fun ls hl => ?_)
          refine lv_aload_n hx hb dX3_answersOf_50 rfl (lv_at hl 1 rfl) ?_
          refine r_get (own := RX3) (T := TX3) (n := 4) (ci := 3) (v := .ref (ad 19)) hx hb hts nX3 hown hK hP (by omega) h81 rfl 1 (by decide) k0 rfl dX3_answersOf_51 ?_
          refine lv_iload_n hx hb dX3_answersOf_54 rfl (lv_at hl 2 rfl) ?_
          refine lv_iload hx hb dX3_answersOf_55 (lv_at hl 7 rfl) ?_
          obtain ⟨q12, hq12, hf⟩ := bd_e hf
          refine k_iR (va_runV (C := RX9) (As := [.int p0, .int q6]) (rest := []) ⟨hx, hb, hml, hown, hts⟩ (c_X9_minutesBetween (l := l) (sz := H.size) (p0 := p0) (p1 := q6) hN h5 h6 h8 h19 hq12) (cwV 2 hts gX3_answersOf_X9_minutesBetween rfl rfl rfl (by decide +kernel) ⟨Nat.le_of_ble_eq_true rfl, Nat.le_of_ble_eq_true rfl⟩) (preV_of hK hP (by omega) h19 rfl) rfl rfl hl.1 rfl (lv_room (Nat.le_of_ble_eq_true rfl)) dX3_answersOf_57 ⟨Nat.le_of_ble_eq_true rfl, Nat.le_of_ble_eq_true rfl⟩) hA hP hS (fun H locs hP hS hbz_q12 => ?_)
          refine lv_iload hx hb dX3_answersOf_60 (lv_at hl 5 rfl) ?_
          refine lv_icmp_gt (tgt := 68) hx hb dX3_answersOf_62 (by decide) (fun c13 => ?_) (fun c13 => ?_)
          · have hf := it_e c13 hf
            obtain ⟨x14, ex14, hf⟩ := lt_e hf
            refine lv_iinc (v := x14) (lv' := [(6, .int x14), (5, .int x11), (0, .ref (ad 81)), (1, .int p0), (2, .int p1), (3, .int p2), (4, .int p3), (7, .int q6)]) hx hb dX3_answersOf_68 hl (k := 6) rfl (by rw [ex14]; rfl) (by decide) rfl (fun ls hl => ?_)
            refine lv_goto (tgt := 6) hx hb dX3_answersOf_71 (by decide) ?_
            exact ih x11 x14 C H locs ls hP hS h5 h6 h8 h19 h20 h81 (lv_sub hl [2, 3, 4, 5, 6, 1, 0] rfl) hf
          · have hf := ie_e c13 hf
            refine lv_goto (tgt := 74) hx hb dX3_answersOf_65 (by decide) ?_
            exact hko x11 x2 C H locs ls hP hS h5 h6 h8 h19 h20 h81 (lv_sub hl [1, 2, 3, 4, 5, 0, 6] rfl) hf
        clear hf
        have hf := htq10
        refine lv_if_eq (tgt := 46) hx hb dX3_answersOf_36 (by decide) (fun c15 => ?_) (fun c15 => ?_)
        · have hf := it_e c15 hf
          refine lv_iconst (v := 0) hx hb dX3_answersOf_46 (by decide) ?_
          obtain rfl := Option.some.inj hf
          exact jnq10 C H locs ls hP hS h5 h6 h8 h19 h20 h81 (lv_sub hl [1, 2, 3, 4, 5, 6, 7, 0] rfl)
        · have hf := ie_e c15 hf
          refine lv_iconst (v := 1) hx hb dX3_answersOf_39 (by decide) ?_
          refine lv_iload hx hb dX3_answersOf_40 (lv_at hl 7 rfl) ?_
          refine lv_ishl hx hb dX3_answersOf_42 ?_
          refine lv_goto (tgt := 47) hx hb dX3_answersOf_43 (by decide) ?_
          obtain rfl := Option.some.inj hf
          exact jnq10 C H locs ls hP hS h5 h6 h8 h19 h20 h81 (lv_sub hl [1, 2, 3, 4, 5, 6, 7, 0] rfl)
  refine key6 _ (fun x3 x4 C H locs ls hP hS h5 h6 h8 h19 h20 h81 hl hf => ?_) FU 0 0 C H locs ls hP hS h5 h6 h8 h19 h20 h81 (lv_sub hl [2, 3, 4, 5, 6, 1, 0] rfl) hf
  refine lv_iload hx hb dX3_answersOf_74 (lv_at hl 5 rfl) ?_
  obtain rfl := Option.some.inj hf
  rw [← hQ]
  exact e_iR hx hb hr rfl (tP_i _) hS hlocks dX3_answersOf_76

