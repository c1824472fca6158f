def f_X11_in (p0 : Int64) (p1 : Int64) (p2 : Int64) : Option (Int32) :=
  if (lg_cmp p0 p1) < 0 then
    some (0)
  else
    if 0 < (lg_cmp p0 p2) then
      some (0)
    else
      some (1)
abbrev rmX11_in : Room := { frames := 0, cells := 0, slots := 0, locals := 0 }
set_option maxHeartbeats 4000000 in
set_option maxRecDepth 100000 in
theorem c_X11_in {l : Launch} {sz : Nat}  {p0 : Int64} {p1 : Int64} {p2 : Int64} {rr : Int32} (hf : f_X11_in p0 p1 p2 = some rr) : Met l yX11_in wsX11_in rmX11_in (PcS sz [.long p0, .long p1, .long p2]) (QiR sz bz rr) 0 0 (An sz) := by
  refine Met.ofW (cc := cX11_in) (maxL := 6) (ret := (some .boolean)) (by decide) rfl ?_
  intro p e s m args below meth c s₁ B hml hv
  obtain ⟨hav, hsz⟩ := hv
  subst hsz
  have hx := B.exec
  have hb := B.bytes
  have hr := B.returns
  have hts := atoms_spec (ws := wsX11_in) B.pre
  have hown : s.vm.findClass RX11 = some m.cls := findClass_of_methodNamed B.named
  have hlocks := B.notSynchronized
  generalize hQ : MQ below (QiR s.heap.size bz rr) args s 0 0 (An s.heap.size) = QQ
  have hS : va_S (An s.heap.size) s.heap s.heap [] := va_S.rf
  have hA : ∀ q, s.heap.size ≤ q → (An s.heap.size) q := fun q h => h
  have hE := lg_entry_eq m [.long p0, .long p1, .long p2] 6
  rw [← hav] at hE
  rw [hE]
  have hl := lv_entry [.long p0, .long p1, .long p2] (n := 6) (Nat.le_of_ble_eq_true rfl)
  generalize (lg_sl [.long p0, .long p1, .long p2] ++ List.replicate (6 - (lg_sl [.long p0, .long p1, .long p2]).length) Slot.unset).toArray = ls at hl ⊢
  have hl : lv_has ls 6 [(0, .long p0), (2, .long p1), (4, .long p2)] := hl
  clear hE
  unfold f_X11_in at hf
  suffices hgo : ∀ (H : Heap) (locs : List Loc), va_S (An s.heap.size) s.heap H locs → W p l e (headSpec wsX11_in rmX11_in).room s m args below meth c H locs 0 0 QQ (F0 m 0 ls []) from hgo s.heap [] hS
  clear hS
  intro H locs hS
  refine lv_lload_n hx hb dX11_in_0 rfl (lv_at hl 0 rfl) ?_
  refine lv_lload_n hx hb dX11_in_1 rfl (lv_at hl 1 rfl) ?_
  refine W.lcmp hx hb dX11_in_2 ?_
  refine lv_if_lt (tgt := 17) hx hb dX11_in_3 (by decide) (fun c1 => ?_) (fun c1 => ?_)
  · have hf := it_e c1 hf
    refine lv_iconst (v := 0) hx hb dX11_in_17 (by decide) ?_
    obtain rfl := Option.some.inj hf
    rw [← hQ]
    exact e_zR hx hb hr rfl bz0 hS hlocks dX11_in_18
  · have hf := ie_e c1 hf
    refine lv_lload_n hx hb dX11_in_6 rfl (lv_at hl 0 rfl) ?_
    refine lv_lload hx hb dX11_in_7 (lv_at hl 2 rfl) ?_
    refine W.lcmp hx hb dX11_in_9 ?_
    refine lv_if_gt (tgt := 17) hx hb dX11_in_10 (by decide) (fun c2 => ?_) (fun c2 => ?_)
    · have hf := it_e c2 hf
      refine lv_iconst (v := 0) hx hb dX11_in_17 (by decide) ?_
      obtain rfl := Option.some.inj hf
      rw [← hQ]
      exact e_zR hx hb hr rfl bz0 hS hlocks dX11_in_18
    · have hf := ie_e c2 hf
      refine lv_iconst (v := 1) hx hb dX11_in_13 (by decide) ?_
      refine lv_goto (tgt := 18) hx hb dX11_in_14 (by decide) ?_
      obtain rfl := Option.some.inj hf
      rw [← hQ]
      exact e_zR hx hb hr rfl bz1 hS hlocks dX11_in_18

def f_X11_has (p0 : Int32) (p1 : Int32) : Option (Int32) :=
  if ((p0 >>> (p1 &&& 31)) &&& 1) = 1 then
    some (1)
  else
    some (0)
abbrev rmX11_has : Room := { frames := 0, cells := 0, slots := 0, locals := 0 }
set_option maxHeartbeats 4000000 in
set_option maxRecDepth 100000 in
theorem c_X11_has {l : Launch} {sz : Nat}  {p0 : Int32} {p1 : Int32} {rr : Int32} (hf : f_X11_has p0 p1 = some rr) : Met l yX11_has wsX11_has rmX11_has (PcS sz [.int p0, .int p1]) (QiR sz bz rr) 0 0 (An sz) := by
  refine Met.ofW (cc := cX11_has) (maxL := 2) (ret := (some .boolean)) (by decide) rfl ?_
  intro p e s m args below meth c s₁ B hml hv
  obtain ⟨hav, hsz⟩ := hv
  subst hsz
  have hx := B.exec
  have hb := B.bytes
  have hr := B.returns
  have hts := atoms_spec (ws := wsX11_has) B.pre
  have hown : s.vm.findClass RX11 = some m.cls := findClass_of_methodNamed B.named
  have hlocks := B.notSynchronized
  generalize hQ : MQ below (QiR s.heap.size bz rr) args s 0 0 (An s.heap.size) = QQ
  have hS : va_S (An s.heap.size) s.heap s.heap [] := va_S.rf
  have hA : ∀ q, s.heap.size ≤ q → (An s.heap.size) q := fun q h => h
  have hE := lg_entry_eq m [.int p0, .int p1] 2
  rw [← hav] at hE
  rw [hE]
  have hl := lv_entry [.int p0, .int p1] (n := 2) (Nat.le_of_ble_eq_true rfl)
  generalize (lg_sl [.int p0, .int p1] ++ List.replicate (2 - (lg_sl [.int p0, .int p1]).length) Slot.unset).toArray = ls at hl ⊢
  have hl : lv_has ls 2 [(0, .int p0), (1, .int p1)] := hl
  clear hE
  unfold f_X11_has at hf
  suffices hgo : ∀ (H : Heap) (locs : List Loc), va_S (An s.heap.size) s.heap H locs → W p l e (headSpec wsX11_has rmX11_has).room s m args below meth c H locs 0 0 QQ (F0 m 0 ls []) from hgo s.heap [] hS
  clear hS
  intro H locs hS
  refine lv_iload_n hx hb dX11_has_0 rfl (lv_at hl 0 rfl) ?_
  refine lv_iload_n hx hb dX11_has_1 rfl (lv_at hl 1 rfl) ?_
  refine lv_ishr hx hb dX11_has_2 ?_
  refine lv_iconst (v := 1) hx hb dX11_has_3 (by decide) ?_
  refine lv_iand hx hb dX11_has_4 ?_
  refine lv_iconst (v := 1) hx hb dX11_has_5 (by decide) ?_
  refine lv_icmp_ne (tgt := 13) hx hb dX11_has_6 (by decide) (fun c1 => ?_) (fun c1 => ?_)
  · have hf := ie_e c1 hf
    refine lv_iconst (v := 0) hx hb dX11_has_13 (by decide) ?_
    obtain rfl := Option.some.inj hf
    rw [← hQ]
    exact e_zR hx hb hr rfl bz0 hS hlocks dX11_has_14
  · have hf := it_e c1 hf
    refine lv_iconst (v := 1) hx hb dX11_has_9 (by decide) ?_
    refine lv_goto (tgt := 14) hx hb dX11_has_10 (by decide) ?_
    obtain rfl := Option.some.inj hf
    rw [← hQ]
    exact e_zR hx hb hr rfl bz1 hS hlocks dX11_has_14

def LX11_many_4 (p0 : Int32) (ko : Int32 → Int32 → Option (Int32)) : Nat → Int32 → Int32 → Option (Int32)
  | 0, _, _ => none
  | n + 1, x1, x2 =>
    if 12 ≤ x2 then
      ko x1 x2
    else
      lt ((x1 + ((p0 >>> (x2 &&& 31)) &&& 1)) : Int32) fun x6 =>
      lt (x2 + 1 : Int32) fun x7 =>
      LX11_many_4 p0 ko n x6 x7
theorem LX11_many_4_z (p0 : Int32) (ko : Int32 → Int32 → Option (Int32)) (x1 : Int32) (x2 : Int32) : LX11_many_4 p0 ko 0 x1 x2 = none := rfl
theorem LX11_many_4_s (p0 : Int32) (ko : Int32 → Int32 → Option (Int32)) (n : Nat) (x1 : Int32) (x2 : Int32) : LX11_many_4 p0 ko (n + 1) x1 x2 =
    if 12 ≤ x2 then
      ko x1 x2
    else
      lt ((x1 + ((p0 >>> (x2 &&& 31)) &&& 1)) : Int32) fun x6 =>
      lt (x2 + 1 : Int32) fun x7 =>
      LX11_many_4 p0 ko n x6 x7 := rfl
def f_X11_many (p0 : Int32) : Option (Int32) :=
  LX11_many_4 p0 (fun x3 x4 =>
    some (x3)) FU 0 0
abbrev rmX11_many : Room := { frames := 0, cells := 0, slots := 0, locals := 0 }
set_option maxHeartbeats 4000000 in
set_option maxRecDepth 100000 in
theorem c_X11_many {l : Launch} {sz : Nat}  {p0 : Int32} {rr : Int32} (hf : f_X11_many p0 = some rr) : Met l yX11_many wsX11_many rmX11_many (PcS sz [.int p0]) (QiR sz tP rr) 0 0 (An sz) := by
  refine Met.ofW (cc := cX11_many) (maxL := 3) (ret := (some .int)) (by decide) rfl ?_
  intro p e s m args below meth c s₁ B hml hv
  obtain ⟨hav, hsz⟩ := hv
  subst hsz
  have hx := B.exec
  have hb := B.bytes
  have hr := B.returns
  have hts := atoms_spec (ws := wsX11_many) B.pre
  have hown : s.vm.findClass RX11 = some m.cls := findClass_of_methodNamed B.named
  have hlocks := B.notSynchronized
  generalize hQ : MQ below (QiR s.heap.size tP rr) args s 0 0 (An s.heap.size) = QQ
  have hS : va_S (An s.heap.size) s.heap s.heap [] := va_S.rf
  have hA : ∀ q, s.heap.size ≤ q → (An s.heap.size) q := fun q h => h
  have hE := lg_entry_eq m [.int p0] 3
  rw [← hav] at hE
  rw [hE]
  have hl := lv_entry [.int p0] (n := 3) (Nat.le_of_ble_eq_true rfl)
  generalize (lg_sl [.int p0] ++ List.replicate (3 - (lg_sl [.int p0]).length) Slot.unset).toArray = ls at hl ⊢
  have hl : lv_has ls 3 [(0, .int p0)] := hl
  clear hE
  unfold f_X11_many at hf
  suffices hgo : ∀ (H : Heap) (locs : List Loc), va_S (An s.heap.size) s.heap H locs → W p l e (headSpec wsX11_many rmX11_many).room s m args below meth c H locs 0 0 QQ (F0 m 0 ls []) from hgo s.heap [] hS
  clear hS
  intro H locs hS
  refine lv_iconst (v := 0) hx hb dX11_many_0 (by decide) ?_
  refine lv_istore_n (lv' := [(1, .int 0), (0, .int p0)]) hx hb dX11_many_1 rfl hl (by decide) rfl (fun ls hl => ?_)
  refine lv_iconst (v := 0) hx hb dX11_many_2 (by decide) ?_
  refine lv_istore_n (lv' := [(2, .int 0), (1, .int 0), (0, .int p0)]) hx hb dX11_many_3 rfl hl (by decide) rfl (fun ls hl => ?_)
  have key4 : ∀ (ko : Int32 → Int32 → Option (Int32)), (∀ (x3 : Int32) (x4 : Int32) (H : Heap) (locs : List Loc) (ls : Array Slot), va_S (An s.heap.size) s.heap H locs → lv_has ls 3 [(0, .int p0), (1, .int x3), (2, .int x4)] → ko x3 x4 = some rr → W p l e (headSpec wsX11_many rmX11_many).room s m args below meth c H locs 0 0 QQ (F0 m 24 ls [])) → ∀ (n : Nat) (x1 : Int32) (x2 : Int32) (H : Heap) (locs : List Loc) (ls : Array Slot), va_S (An s.heap.size) s.heap H locs → lv_has ls 3 [(0, .int p0), (1, .int x1), (2, .int x2)] → LX11_many_4 p0 ko n x1 x2 = some rr → W p l e (headSpec wsX11_many rmX11_many).room s m args below meth c H locs 0 0 QQ (F0 m 4 ls []) := by
    intro ko hko n
    induction n with
    | zero =>
      intro x1 x2 H locs ls hS hl hf
      rw [LX11_many_4_z] at hf
      cases hf
    | succ n ih =>
      intro x1 x2 H locs ls hS hl hf
      rw [LX11_many_4_s] at hf
      refine lv_iload_n hx hb dX11_many_4 rfl (lv_at hl 2 rfl) ?_
      refine lv_bipush (v := 12) hx hb dX11_many_5 (by decide) ?_
      refine lv_icmp_ge (tgt := 24) hx hb dX11_many_7 (by decide) (fun c5 => ?_) (fun c5 => ?_)
      · have hf := it_e c5 hf
        exact hko x1 x2 H locs ls hS (lv_sub hl [0, 1, 2] rfl) hf
      · have hf := ie_e c5 hf
        refine lv_iload_n hx hb dX11_many_10 rfl (lv_at hl 1 rfl) ?_
        refine lv_iload_n hx hb dX11_many_11 rfl (lv_at hl 0 rfl) ?_
        refine lv_iload_n hx hb dX11_many_12 rfl (lv_at hl 2 rfl) ?_
        refine lv_ishr hx hb dX11_many_13 ?_
        refine lv_iconst (v := 1) hx hb dX11_many_14 (by decide) ?_
        refine lv_iand hx hb dX11_many_15 ?_
        refine lv_iadd hx hb dX11_many_16 ?_
        obtain ⟨x6, ex6, hf⟩ := lt_e hf
        refine tp_i ex6 ?_
        refine lv_istore_n (lv' := [(1, .int x6), (0, .int p0), (2, .int x2)]) hx hb dX11_many_17 rfl hl (by decide) rfl (fun ls hl => ?_)
        obtain ⟨x7, ex7, hf⟩ := lt_e hf
        refine lv_iinc (v := x7) (lv' := [(2, .int x7), (1, .int x6), (0, .int p0)]) hx hb dX11_many_18 hl (k := 2) rfl (by rw [ex7]; rfl) (by decide) rfl (fun ls hl => ?_)
        refine lv_goto (tgt := 4) hx hb dX11_many_21 (by decide) ?_
        exact ih x6 x7 H locs ls hS (lv_sub hl [2, 1, 0] rfl) hf
  refine key4 _ (fun x3 x4 H locs ls hS hl hf => ?_) FU 0 0 H locs ls hS (lv_sub hl [2, 1, 0] rfl) hf
  refine lv_iload_n hx hb dX11_many_24 rfl (lv_at hl 1 rfl) ?_
  obtain rfl := Option.some.inj hf
  rw [← hQ]
  exact e_iR hx hb hr rfl (tP_i _) hS hlocks dX11_many_25

def f_X11_isNode (p0 : Int32) (m_there : Int32) : Option (Int32) :=
  (f_X11_in (Int32.toInt64 p0) (0 : Int64) (11 : Int64)).bind fun q1 =>
  if q1 = 0 then
    some (0)
  else
    (f_X11_has m_there p0).bind fun q3 =>
    if q3 = 0 then
      some (0)
    else
      some (1)
abbrev rmX11_isNode : Room := { frames := 1, cells := 0, slots := 0, locals := 25 }
set_option maxHeartbeats 4000000 in
set_option maxRecDepth 100000 in
theorem c_X11_isNode {l : Launch} {D : va_G} {g : Nat → ClassId} {N : Nat} {ad : Nat → Nat} {C : Nat → va_E} {sz : Nat} {m_len : Int32} {m_rm : Int32} {m_there : Int32} {m_lift : Int32} {m_blank : Int32} {m_fm : Int32} {m_at : Int32} {m_pl : Int32} {m_end : Int32} {m_seed : Int32} {p0 : Int32} {rr : Int32} (hN : 109 ≤ N) (h86 : C 86 = .inr (11, [.ref (ad 87), .int m_len, .ref (ad 88), .int m_rm, .int m_there, .ref (ad 89), .ref (ad 90), .ref (ad 91), .ref (ad 92), .ref (ad 93), .ref (ad 94), .ref (ad 95), .ref (ad 96), .ref (ad 97), .ref (ad 98), .ref (ad 99), .ref (ad 100), .ref (ad 101), .int m_lift, .int m_blank, .ref (ad 102), .int m_fm, .int m_at, .int m_pl, .int m_end, .ref (ad 103), .ref (ad 104), .ref (ad 105), .ref (ad 106), .ref (ad 107), .ref (ad 108), .int m_seed])) (hf : f_X11_isNode p0 m_there = some rr) : Met l yX11_isNode wsX11_isNode rmX11_isNode (PcW D g N ad C sz [.ref (ad 86), .int p0]) (QiR sz bz rr) 0 0 (An sz) := by
  refine Met.ofW (cc := cX11_isNode) (maxL := 2) (ret := (some .boolean)) (by decide) rfl ?_
  intro p e s m args below meth c s₁ B hml hv
  obtain ⟨hav, hsz, hK, hP⟩ := hv
  subst hsz
  have hx := B.exec
  have hb := B.bytes
  have hr := B.returns
  have hts := atoms_spec (ws := wsX11_isNode) B.pre
  have hown : s.vm.findClass RX11 = some m.cls := findClass_of_methodNamed B.named
  have hlocks := B.notSynchronized
  generalize hQ : MQ below (QiR s.heap.size bz rr) args s 0 0 (An s.heap.size) = QQ
  have hS : va_S (An s.heap.size) s.heap s.heap [] := va_S.rf
  have hA : ∀ q, s.heap.size ≤ q → (An s.heap.size) q := fun q h => h
  have k0 := hts (.constantLong RX11 81 (11)) (List.mem_of_getElem? (i := 1) rfl)
  have k1 := hts (.fieldLink RX11 16 "UpDrainModel" "there" "I") (List.mem_of_getElem? (i := 2) rfl)
  have nX11 : ∀ w ∈ u_ws RX11 TX11 32, w ∈ wsX11_isNode := fun _ h => List.mem_cons_of_mem _ (List.mem_append_right _ h)
  have hE := lg_entry_eq m [.ref (ad 86), .int p0] 2
  rw [← hav] at hE
  rw [hE]
  have hl := lv_entry [.ref (ad 86), .int p0] (n := 2) (Nat.le_of_ble_eq_true rfl)
  generalize (lg_sl [.ref (ad 86), .int p0] ++ List.replicate (2 - (lg_sl [.ref (ad 86), .int p0]).length) Slot.unset).toArray = ls at hl ⊢
  have hl : lv_has ls 2 [(0, .ref (ad 86)), (1, .int p0)] := hl
  clear hE
  unfold f_X11_isNode at hf
  suffices hgo : ∀ (H : Heap) (locs : List Loc), va_P D vwCl (wd N ad C) H → va_S (An s.heap.size) s.heap H locs → W p l e (headSpec wsX11_isNode rmX11_isNode).room s m args below meth c H locs 0 0 QQ (F0 m 0 ls []) from hgo s.heap [] hP hS
  clear hS hP
  intro H locs hP hS
  refine lv_iload_n hx hb dX11_isNode_0 rfl (lv_at hl 1 rfl) ?_
  refine lv_i2l hx hb dX11_isNode_1 rfl ?_
  refine lv_lconst (v := 0) hx hb dX11_isNode_2 (by decide) ?_
  refine lv_ldc2 (own := RX11) hx hb hown k0 dX11_isNode_3 ?_
  obtain ⟨q1, hq1, hf⟩ := bd_e hf
  refine k_iR (va_runS (As := [.long (Int32.toInt64 p0), .long (0 : Int64), .long (11 : Int64)]) (rest := []) ⟨hx, hb, hml, hown, hts⟩ (c_X11_in (l := l) (sz := H.size) (p0 := (Int32.toInt64 p0)) (p1 := (0 : Int64)) (p2 := (11 : Int64)) hq1) (va_cwS 3 hts gX11_isNode_X11_in rfl rfl rfl (by decide +kernel) ⟨Nat.le_of_ble_eq_true rfl, Nat.le_of_ble_eq_true rfl⟩) preS0 rfl rfl hl.1 rfl (lv_room (Nat.le_of_ble_eq_true rfl)) dX11_isNode_6 ⟨Nat.le_of_ble_eq_true rfl, Nat.le_of_ble_eq_true rfl⟩) hA hP hS (fun H locs hP hS hbz_q1 => ?_)
  refine lv_if_eq (tgt := 27) hx hb dX11_isNode_9 (by decide) (fun c2 => ?_) (fun c2 => ?_)
  · have hf := it_e c2 hf
    refine lv_iconst (v := 0) hx hb dX11_isNode_27 (by decide) ?_
    obtain rfl := Option.some.inj hf
    rw [← hQ]
    exact e_zR hx hb hr rfl bz0 hS hlocks dX11_isNode_28
  · have hf := ie_e c2 hf
    refine lv_aload_n hx hb dX11_isNode_12 rfl (lv_at hl 0 rfl) ?_
    refine r_get (own := RX11) (T := TX11) (n := 32) (ci := 11) (v := .int m_there) hx hb hts nX11 hown hK hP (by omega) h86 rfl 4 (by decide) k1 rfl dX11_isNode_13 ?_
    refine lv_iload_n hx hb dX11_isNode_16 rfl (lv_at hl 1 rfl) ?_
    obtain ⟨q3, hq3, hf⟩ := bd_e hf
    refine k_iR (va_runS (As := [.int m_there, .int p0]) (rest := []) ⟨hx, hb, hml, hown, hts⟩ (c_X11_has (l := l) (sz := H.size) (p0 := m_there) (p1 := p0) hq3) (va_cwS 2 hts gX11_isNode_X11_has rfl rfl rfl (by decide +kernel) ⟨Nat.le_of_ble_eq_true rfl, Nat.le_of_ble_eq_true rfl⟩) preS0 rfl rfl hl.1 rfl (lv_room (Nat.le_of_ble_eq_true rfl)) dX11_isNode_17 ⟨Nat.le_of_ble_eq_true rfl, Nat.le_of_ble_eq_true rfl⟩) hA hP hS (fun H locs hP hS hbz_q3 => ?_)
    refine lv_if_eq (tgt := 27) hx hb dX11_isNode_20 (by decide) (fun c4 => ?_) (fun c4 => ?_)
    · have hf := it_e c4 hf
      refine lv_iconst (v := 0) hx hb dX11_isNode_27 (by decide) ?_
      obtain rfl := Option.some.inj hf
      rw [← hQ]
      exact e_zR hx hb hr rfl bz0 hS hlocks dX11_isNode_28
    · have hf := ie_e c4 hf
      refine lv_iconst (v := 1) hx hb dX11_isNode_23 (by decide) ?_
      refine lv_goto (tgt := 28) hx hb dX11_isNode_24 (by decide) ?_
      obtain rfl := Option.some.inj hf
      rw [← hQ]
      exact e_zR hx hb hr rfl bz1 hS hlocks dX11_isNode_28

def LX11_write_33 (p0 : Int64) (p1 : Int32) (ko : Int32 → Int32 → (Nat → Int32) → Option (Int32 × (Nat → Int32) × Int32)) : Nat → Int32 → Int32 → (Nat → Int32) → Option (Int32 × (Nat → Int32) × Int32)
  | 0, _, _, _ => none
  | n + 1, x4, x5, f6 =>
    if p1 ≤ x4 then
      ko x4 x5 f6
    else
      wi f6 200 (x5) ((Int64.toInt32 ((p0 >>> (Int32.toInt64 (8 * x4) &&& 63)) &&& (255 : Int64)))) fun f11 =>
      lt ((x5 + 1) : Int32) fun x13 =>
      lt (x4 + 1 : Int32) fun x14 =>
      LX11_write_33 p0 p1 ko n x14 x13 f11
theorem LX11_write_33_z (p0 : Int64) (p1 : Int32) (ko : Int32 → Int32 → (Nat → Int32) → Option (Int32 × (Nat → Int32) × Int32)) (x4 : Int32) (x5 : Int32) (f6 : Nat → Int32) : LX11_write_33 p0 p1 ko 0 x4 x5 f6 = none := rfl
theorem LX11_write_33_s (p0 : Int64) (p1 : Int32) (ko : Int32 → Int32 → (Nat → Int32) → Option (Int32 × (Nat → Int32) × Int32)) (n : Nat) (x4 : Int32) (x5 : Int32) (f6 : Nat → Int32) : LX11_write_33 p0 p1 ko (n + 1) x4 x5 f6 =
    if p1 ≤ x4 then
      ko x4 x5 f6
    else
      wi f6 200 (x5) ((Int64.toInt32 ((p0 >>> (Int32.toInt64 (8 * x4) &&& 63)) &&& (255 : Int64)))) fun f11 =>
      lt ((x5 + 1) : Int32) fun x13 =>
      lt (x4 + 1 : Int32) fun x14 =>
      LX11_write_33 p0 p1 ko n x14 x13 f11 := rfl
def f_X11_write (p0 : Int64) (p1 : Int32) (m_text : Nat → Int32) (m_len : Int32) : Option (Int32 × (Nat → Int32) × Int32) :=
  (f_X11_in (Int32.toInt64 p1) (1 : Int64) (8 : Int64)).bind fun q1 =>
  if q1 = 0 then
    some ((-3), m_text, m_len)
  else
    if (m_len + p1) ≤ 200 then
      LX11_write_33 p0 p1 (fun x7 x8 f9 =>
        some (x8, f9, x8)) FU 0 m_len m_text
    else
      some ((-5), m_text, m_len)
abbrev rmX11_write : Room := { frames := 1, cells := 0, slots := 0, locals := 25 }
set_option maxHeartbeats 4000000 in
set_option maxRecDepth 100000 in
theorem c_X11_write {l : Launch} {D : va_G} {g : Nat → ClassId} {N : Nat} {ad : Nat → Nat} {C : Nat → va_E} {sz : Nat} {m_len : Int32} {m_rm : Int32} {m_there : Int32} {m_lift : Int32} {m_blank : Int32} {m_fm : Int32} {m_at : Int32} {m_pl : Int32} {m_end : Int32} {m_seed : Int32} {m_text : Nat → Int32} {p0 : Int64} {p1 : Int32} {rr : Int32 × (Nat → Int32) × Int32} (hN : 109 ≤ N) (hI : Inj N ad) (h86 : C 86 = .inr (11, [.ref (ad 87), .int m_len, .ref (ad 88), .int m_rm, .int m_there, .ref (ad 89), .ref (ad 90), .ref (ad 91), .ref (ad 92), .ref (ad 93), .ref (ad 94), .ref (ad 95), .ref (ad 96), .ref (ad 97), .ref (ad 98), .ref (ad 99), .ref (ad 100), .ref (ad 101), .int m_lift, .int m_blank, .ref (ad 102), .int m_fm, .int m_at, .int m_pl, .int m_end, .ref (ad 103), .ref (ad 104), .ref (ad 105), .ref (ad 106), .ref (ad 107), .ref (ad 108), .int m_seed])) (h87 : C 87 = aI g 200 m_text) (hf : f_X11_write p0 p1 m_text m_len = some rr) : Met l yX11_write wsX11_write rmX11_write (PcW D g N ad C sz [.ref (ad 86), .long p0, .int p1]) (QiW D N ad sz tP rr.1 (fun C' => (∀ i : Nat, i ≠ 86 ∧ i ≠ 87 → C' i = C i) ∧ (C' 86 = .inr (11, [.ref (ad 87), .int rr.2.2, .ref (ad 88), .int m_rm, .int m_there, .ref (ad 89), .ref (ad 90), .ref (ad 91), .ref (ad 92), .ref (ad 93), .ref (ad 94), .ref (ad 95), .ref (ad 96), .ref (ad 97), .ref (ad 98), .ref (ad 99), .ref (ad 100), .ref (ad 101), .int m_lift, .int m_blank, .ref (ad 102), .int m_fm, .int m_at, .int m_pl, .int m_end, .ref (ad 103), .ref (ad 104), .ref (ad 105), .ref (ad 106), .ref (ad 107), .ref (ad 108), .int m_seed])) ∧ (C' 87 = aI g 200 rr.2.1))) 0 0 (Aw N ad sz) := by
  refine Met.ofW (cc := cX11_write) (maxL := 5) (ret := (some .int)) (by decide) rfl ?_
  intro p e s m args below meth c s₁ B hml hv
  obtain ⟨hav, hsz, hK, hP⟩ := hv
  subst hsz
  have hx := B.exec
  have hb := B.bytes
  have hr := B.returns
  have hts := atoms_spec (ws := wsX11_write) B.pre
  have hown : s.vm.findClass RX11 = some m.cls := findClass_of_methodNamed B.named
  have hlocks := B.notSynchronized
  generalize hQ : MQ below (QiW D N ad s.heap.size tP rr.1 (fun C' => (∀ i : Nat, i ≠ 86 ∧ i ≠ 87 → C' i = C i) ∧ (C' 86 = .inr (11, [.ref (ad 87), .int rr.2.2, .ref (ad 88), .int m_rm, .int m_there, .ref (ad 89), .ref (ad 90), .ref (ad 91), .ref (ad 92), .ref (ad 93), .ref (ad 94), .ref (ad 95), .ref (ad 96), .ref (ad 97), .ref (ad 98), .ref (ad 99), .ref (ad 100), .ref (ad 101), .int m_lift, .int m_blank, .ref (ad 102), .int m_fm, .int m_at, .int m_pl, .int m_end, .ref (ad 103), .ref (ad 104), .ref (ad 105), .ref (ad 106), .ref (ad 107), .ref (ad 108), .int m_seed])) ∧ (C' 87 = aI g 200 rr.2.1))) args s 0 0 (Aw N ad s.heap.size) = QQ
  have hS : va_S (Aw N ad s.heap.size) s.heap s.heap [] := va_S.rf
  have hA : ∀ q, s.heap.size ≤ q → (Aw N ad s.heap.size) q := fun q h => Or.inr h
  have hAd : ∀ j : Nat, j < N → (Aw N ad s.heap.size) (ad j) := fun j h => Or.inl ⟨j, h, rfl⟩
  obtain ⟨C0, hC0⟩ : ∃ C0 : Nat → va_E, C0 = C := ⟨_, rfl⟩
  have hag : ∀ i : Nat, i ≠ 86 ∧ i ≠ 87 → C i = C0 i := fun i _ => by rw [hC0]
  rw [← hC0] at hQ
  have k0 := hts (.constantLong RX11 91 (8)) (List.mem_of_getElem? (i := 1) rfl)
  have k1 := hts (.fieldLink RX11 93 "UpDrainModel" "length" "I") (List.mem_of_getElem? (i := 2) rfl)
  have nX11 : ∀ w ∈ u_ws RX11 TX11 32, w ∈ wsX11_write := fun _ h => List.mem_cons_of_mem _ (List.mem_append_right _ h)
  have k3 := hts (.fieldLink RX11 7 "UpDrainModel" "text" "[I") (List.mem_of_getElem? (i := 3) rfl)
  have k4 := hts (.constantLong RX11 96 (255)) (List.mem_of_getElem? (i := 4) rfl)
  have hE := lg_entry_eq m [.ref (ad 86), .long p0, .int p1] 5
  rw [← hav] at hE
  rw [hE]
  have hl := lv_entry [.ref (ad 86), .long p0, .int p1] (n := 5) (Nat.le_of_ble_eq_true rfl)
  generalize (lg_sl [.ref (ad 86), .long p0, .int p1] ++ List.replicate (5 - (lg_sl [.ref (ad 86), .long p0, .int p1]).length) Slot.unset).toArray = ls at hl ⊢
  have hl : lv_has ls 5 [(0, .ref (ad 86)), (1, .long p0), (3, .int p1)] := hl
  clear hE
  unfold f_X11_write at hf
  suffices hgo : ∀ (H : Heap) (locs : List Loc), va_P D vwCl (wd N ad C) H → va_S (Aw N ad s.heap.size) s.heap H locs → W p l e (headSpec wsX11_write rmX11_write).room s m args below meth c H locs 0 0 QQ (F0 m 0 ls []) from hgo s.heap [] hP hS
  clear hS hP
  intro H locs hP hS
  refine lv_iload_n hx hb dX11_write_0 rfl (lv_at hl 2 rfl) ?_
  refine lv_i2l hx hb dX11_write_1 rfl ?_
  refine lv_lconst (v := 1) hx hb dX11_write_2 (by decide) ?_
  refine lv_ldc2 (own := RX11) hx hb hown k0 dX11_write_3 ?_
  obtain ⟨q1, hq1, hf⟩ := bd_e hf
  refine k_iR (va_runS (As := [.long (Int32.toInt64 p1), .long (1 : Int64), .long (8 : Int64)]) (rest := []) ⟨hx, hb, hml, hown, hts⟩ (c_X11_in (l := l) (sz := H.size) (p0 := (Int32.toInt64 p1)) (p1 := (1 : Int64)) (p2 := (8 : Int64)) hq1) (va_cwS 3 hts gX11_write_X11_in rfl rfl rfl (by decide +kernel) ⟨Nat.le_of_ble_eq_true rfl, Nat.le_of_ble_eq_true rfl⟩) preS0 rfl rfl hl.1 rfl (lv_room (Nat.le_of_ble_eq_true rfl)) dX11_write_6 ⟨Nat.le_of_ble_eq_true rfl, Nat.le_of_ble_eq_true rfl⟩) hA hP hS (fun H locs hP hS hbz_q1 => ?_)
  refine lv_if_ne (tgt := 15) hx hb dX11_write_9 (by decide) (fun c2 => ?_) (fun c2 => ?_)
  · have hf := ie_e c2 hf
    refine lv_aload_n hx hb dX11_write_15 rfl (lv_at hl 0 rfl) ?_
    refine r_get (own := RX11) (T := TX11) (n := 32) (ci := 11) (v := .int m_len) hx hb hts nX11 hown hK hP (by omega) h86 rfl 1 (by decide) k1 rfl dX11_write_16 ?_
    refine lv_iload_n hx hb dX11_write_19 rfl (lv_at hl 2 rfl) ?_
    refine lv_iadd hx hb dX11_write_20 ?_
    refine lv_sipush (v := 200) hx hb dX11_write_21 (by decide) ?_
    refine lv_icmp_le (tgt := 30) hx hb dX11_write_24 (by decide) (fun c3 => ?_) (fun c3 => ?_)
    · have hf := it_e c3 hf
      refine lv_iconst (v := 0) hx hb dX11_write_30 (by decide) ?_
      refine lv_istore (lv' := [(4, .int 0), (0, .ref (ad 86)), (1, .long p0), (3, .int p1)]) hx hb dX11_write_31 hl (by decide) rfl (fun ls hl => ?_)
      have key33 : ∀ (ko : Int32 → Int32 → (Nat → Int32) → Option (Int32 × (Nat → Int32) × Int32)), (∀ (x7 : Int32) (x8 : Int32) (f9 : Nat → Int32) (C : Nat → va_E) (H : Heap) (locs : List Loc) (ls : Array Slot), va_P D vwCl (wd N ad C) H → va_S (Aw N ad s.heap.size) s.heap H locs → (∀ i : Nat, i ≠ 86 ∧ i ≠ 87 → C i = C0 i) → C 86 = .inr (11, [.ref (ad 87), .int x8, .ref (ad 88), .int m_rm, .int m_there, .ref (ad 89), .ref (ad 90), .ref (ad 91), .ref (ad 92), .ref (ad 93), .ref (ad 94), .ref (ad 95), .ref (ad 96), .ref (ad 97), .ref (ad 98), .ref (ad 99), .ref (ad 100), .ref (ad 101), .int m_lift, .int m_blank, .ref (ad 102), .int m_fm, .int m_at, .int m_pl, .int m_end, .ref (ad 103), .ref (ad 104), .ref (ad 105), .ref (ad 106), .ref (ad 107), .ref (ad 108), .int m_seed]) → C 87 = aI g 200 f9 → lv_has ls 5 [(0, .ref (ad 86)), (1, .long p0), (3, .int p1), (4, .int x7)] → ko x7 x8 f9 = some rr → W p l e (headSpec wsX11_write rmX11_write).room s m args below meth c H locs 0 0 QQ (F0 m 76 ls [])) → ∀ (n : Nat) (x4 : Int32) (x5 : Int32) (f6 : Nat → Int32) (C : Nat → va_E) (H : Heap) (locs : List Loc) (ls : Array Slot), va_P D vwCl (wd N ad C) H → va_S (Aw N ad s.heap.size) s.heap H locs → (∀ i : Nat, i ≠ 86 ∧ i ≠ 87 → C i = C0 i) → C 86 = .inr (11, [.ref (ad 87), .int x5, .ref (ad 88), .int m_rm, .int m_there, .ref (ad 89), .ref (ad 90), .ref (ad 91), .ref (ad 92), .ref (ad 93), .ref (ad 94), .ref (ad 95), .ref (ad 96), .ref (ad 97), .ref (ad 98), .ref (ad 99), .ref (ad 100), .ref (ad 101), .int m_lift, .int m_blank, .ref (ad 102), .int m_fm, .int m_at, .int m_pl, .int m_end, .ref (ad 103), .ref (ad 104), .ref (ad 105), .ref (ad 106), .ref (ad 107), .ref (ad 108), .int m_seed]) → C 87 = aI g 200 f6 → lv_has ls 5 [(0, .ref (ad 86)), (1, .long p0), (3, .int p1), (4, .int x4)] → LX11_write_33 p0 p1 ko n x4 x5 f6 = some rr → W p l e (headSpec wsX11_write rmX11_write).room s m args below meth c H locs 0 0 QQ (F0 m 33 ls []) := by
        intro ko hko n
        induction n with
        | zero =>
          intro x4 x5 f6 C H locs ls hP hS hag h86 h87 hl hf
          rw [LX11_write_33_z] at hf
          cases hf
        | succ n ih =>
          intro x4 x5 f6 C H locs ls hP hS hag h86 h87 hl hf
          rw [LX11_write_33_s] at hf
          refine lv_iload hx hb dX11_write_33 (lv_at hl 3 rfl) ?_
          refine lv_iload_n hx hb dX11_write_35 rfl (lv_at hl 2 rfl) ?_
          refine lv_icmp_ge (tgt := 76) hx hb dX11_write_36 (by decide) (fun c10 => ?_) (fun c10 => ?_)
          · have hf := it_e c10 hf
            exact hko x4 x5 f6 C H locs ls hP hS hag h86 h87 (lv_sub hl [0, 1, 2, 3] rfl) hf
          · have hf := ie_e c10 hf
            refine lv_aload_n hx hb dX11_write_39 rfl (lv_at hl 0 rfl) ?_
            refine r_get (own := RX11) (T := TX11) (n := 32) (ci := 11) (v := .ref (ad 87)) hx hb hts nX11 hown hK hP (by omega) h86 rfl 0 (by decide) k3 rfl dX11_write_40 ?_
            refine lv_aload_n hx hb dX11_write_43 rfl (lv_at hl 0 rfl) ?_
            refine r_get (own := RX11) (T := TX11) (n := 32) (ci := 11) (v := .int x5) hx hb hts nX11 hown hK hP (by omega) h86 rfl 1 (by decide) k1 rfl dX11_write_44 ?_
            refine lv_lload_n hx hb dX11_write_47 rfl (lv_at hl 1 rfl) ?_
            refine lv_bipush (v := 8) hx hb dX11_write_48 (by decide) ?_
            refine lv_iload hx hb dX11_write_50 (lv_at hl 3 rfl) ?_
            refine lv_imul hx hb dX11_write_52 ?_
            refine lv_lshr hx hb dX11_write_53 rfl ?_
            refine lv_ldc2 (own := RX11) hx hb hown k4 dX11_write_54 ?_
            refine lv_land hx hb dX11_write_57 ?_
            refine lv_l2i hx hb dX11_write_58 rfl ?_
            obtain ⟨i12, f11, ef11, hf⟩ := wi_e hf
            refine r_iast hx hb hK hI hAd hP hS (by omega) h87 i12 dX11_write_59 ef11 (fun C H locs hP hS he hn => ?_)
            have hag : ∀ i : Nat, i ≠ 86 ∧ i ≠ 87 → C i = C0 i := fun i h => (he i (by omega)).trans (hag i h)
            have h86 := (he 86 (by decide)).trans h86
            have h87 : C 87 = aI g 200 f11 := hn
            refine lv_aload_n hx hb dX11_write_60 rfl (lv_at hl 0 rfl) ?_
            refine lv_dup hx hb dX11_write_61 rfl ?_
            refine r_get (own := RX11) (T := TX11) (n := 32) (ci := 11) (v := .int x5) hx hb hts nX11 hown hK hP (by omega) h86 rfl 1 (by decide) k1 rfl dX11_write_62 ?_
            refine lv_iconst (v := 1) hx hb dX11_write_65 (by decide) ?_
            refine lv_iadd hx hb dX11_write_66 ?_
            obtain ⟨x13, ex13, hf⟩ := lt_e hf
            refine tp_i ex13 ?_
            refine r_put (own := RX11) (T := TX11) (n := 32) (ci := 11) (v := .int x13) hx hb hts nX11 tyX11 tyX11_ok nmX11 hown hK hI hAd hP hS (by omega) h86 rfl 1 (by decide) k1 rfl rfl rfl (Nat.le_of_ble_eq_true rfl) dX11_write_67 (fun C H locs hP hS he hn => ?_)
            have hag : ∀ i : Nat, i ≠ 86 ∧ i ≠ 87 → C i = C0 i := fun i h => (he i (by omega)).trans (hag i h)
            have h87 := (he 87 (by decide)).trans h87
            have h86 : C 86 = .inr (11, [.ref (ad 87), .int x13, .ref (ad 88), .int m_rm, .int m_there, .ref (ad 89), .ref (ad 90), .ref (ad 91), .ref (ad 92), .ref (ad 93), .ref (ad 94), .ref (ad 95), .ref (ad 96), .ref (ad 97), .ref (ad 98), .ref (ad 99), .ref (ad 100), .ref (ad 101), .int m_lift, .int m_blank, .ref (ad 102), .int m_fm, .int m_at, .int m_pl, .int m_end, .ref (ad 103), .ref (ad 104), .ref (ad 105), .ref (ad 106), .ref (ad 107), .ref (ad 108), .int m_seed]) := hn
            obtain ⟨x14, ex14, hf⟩ := lt_e hf
            refine lv_iinc (v := x14) (lv' := [(4, .int x14), (0, .ref (ad 86)), (1, .long p0), (3, .int p1)]) hx hb dX11_write_70 hl (k := 3) rfl (by rw [ex14]; rfl) (by decide) rfl (fun ls hl => ?_)
            refine lv_goto (tgt := 33) hx hb dX11_write_73 (by decide) ?_
            exact ih x14 x13 f11 C H locs ls hP hS hag h86 h87 (lv_sub hl [1, 2, 3, 0] rfl) hf
      refine key33 _ (fun x7 x8 f9 C H locs ls hP hS hag h86 h87 hl hf => ?_) FU 0 m_len m_text C H locs ls hP hS hag h86 h87 (lv_sub hl [1, 2, 3, 0] rfl) hf
      refine lv_aload_n hx hb dX11_write_76 rfl (lv_at hl 0 rfl) ?_
      refine r_get (own := RX11) (T := TX11) (n := 32) (ci := 11) (v := .int x8) hx hb hts nX11 hown hK hP (by omega) h86 rfl 1 (by decide) k1 rfl dX11_write_77 ?_
      obtain rfl := Option.some.inj hf
      rw [← hQ]
      exact e_iW hx hb hr rfl (tP_i _) hP hS ⟨hag, h86, h87⟩ hlocks dX11_write_80
    · have hf := ie_e c3 hf
      refine lv_bipush (v := (-5)) hx hb dX11_write_27 (by decide) ?_
      obtain rfl := Option.some.inj hf
      rw [← hQ]
      exact e_iW hx hb hr rfl (tP_i _) hP hS ⟨hag, h86, h87⟩ hlocks dX11_write_29
  · have hf := it_e c2 hf
    refine lv_bipush (v := (-3)) hx hb dX11_write_12 (by decide) ?_
    obtain rfl := Option.some.inj hf
    rw [← hQ]
    exact e_iW hx hb hr rfl (tP_i _) hP hS ⟨hag, h86, h87⟩ hlocks dX11_write_14

def f_X11_erase (m_len : Int32) : Option (Int32 × Int32) :=
  some (m_len, 0)
abbrev rmX11_erase : Room := { frames := 0, cells := 0, slots := 0, locals := 0 }
set_option maxHeartbeats 4000000 in
set_option maxRecDepth 100000 in
theorem c_X11_erase {l : Launch} {D : va_G} {g : Nat → ClassId} {N : Nat} {ad : Nat → Nat} {C : Nat → va_E} {sz : Nat} {m_len : Int32} {m_rm : Int32} {m_there : Int32} {m_lift : Int32} {m_blank : Int32} {m_fm : Int32} {m_at : Int32} {m_pl : Int32} {m_end : Int32} {m_seed : Int32}  {rr : Int32 × Int32} (hN : 109 ≤ N) (hI : Inj N ad) (h86 : C 86 = .inr (11, [.ref (ad 87), .int m_len, .ref (ad 88), .int m_rm, .int m_there, .ref (ad 89), .ref (ad 90), .ref (ad 91), .ref (ad 92), .ref (ad 93), .ref (ad 94), .ref (ad 95), .ref (ad 96), .ref (ad 97), .ref (ad 98), .ref (ad 99), .ref (ad 100), .ref (ad 101), .int m_lift, .int m_blank, .ref (ad 102), .int m_fm, .int m_at, .int m_pl, .int m_end, .ref (ad 103), .ref (ad 104), .ref (ad 105), .ref (ad 106), .ref (ad 107), .ref (ad 108), .int m_seed])) (hf : f_X11_erase m_len = some rr) : Met l yX11_erase wsX11_erase rmX11_erase (PcW D g N ad C sz [.ref (ad 86)]) (QiW D N ad sz tP rr.1 (fun C' => (∀ i : Nat, i ≠ 86 → C' i = C i) ∧ (C' 86 = .inr (11, [.ref (ad 87), .int rr.2, .ref (ad 88), .int m_rm, .int m_there, .ref (ad 89), .ref (ad 90), .ref (ad 91), .ref (ad 92), .ref (ad 93), .ref (ad 94), .ref (ad 95), .ref (ad 96), .ref (ad 97), .ref (ad 98), .ref (ad 99), .ref (ad 100), .ref (ad 101), .int m_lift, .int m_blank, .ref (ad 102), .int m_fm, .int m_at, .int m_pl, .int m_end, .ref (ad 103), .ref (ad 104), .ref (ad 105), .ref (ad 106), .ref (ad 107), .ref (ad 108), .int m_seed])))) 0 0 (Aw N ad sz) := by
  refine Met.ofW (cc := cX11_erase) (maxL := 2) (ret := (some .int)) (by decide) rfl ?_
  intro p e s m args below meth c s₁ B hml hv
  obtain ⟨hav, hsz, hK, hP⟩ := hv
  subst hsz
  have hx := B.exec
  have hb := B.bytes
  have hr := B.returns
  have hts := atoms_spec (ws := wsX11_erase) B.pre
  have hown : s.vm.findClass RX11 = some m.cls := findClass_of_methodNamed B.named
  have hlocks := B.notSynchronized
  generalize hQ : MQ below (QiW D N ad s.heap.size tP rr.1 (fun C' => (∀ i : Nat, i ≠ 86 → C' i = C i) ∧ (C' 86 = .inr (11, [.ref (ad 87), .int rr.2, .ref (ad 88), .int m_rm, .int m_there, .ref (ad 89), .ref (ad 90), .ref (ad 91), .ref (ad 92), .ref (ad 93), .ref (ad 94), .ref (ad 95), .ref (ad 96), .ref (ad 97), .ref (ad 98), .ref (ad 99), .ref (ad 100), .ref (ad 101), .int m_lift, .int m_blank, .ref (ad 102), .int m_fm, .int m_at, .int m_pl, .int m_end, .ref (ad 103), .ref (ad 104), .ref (ad 105), .ref (ad 106), .ref (ad 107), .ref (ad 108), .int m_seed])))) args s 0 0 (Aw N ad s.heap.size) = QQ
  have hS : va_S (Aw N ad s.heap.size) s.heap s.heap [] := va_S.rf
  have hA : ∀ q, s.heap.size ≤ q → (Aw N ad s.heap.size) q := fun q h => Or.inr h
  have hAd : ∀ j : Nat, j < N → (Aw N ad s.heap.size) (ad j) := fun j h => Or.inl ⟨j, h, rfl⟩
  obtain ⟨C0, hC0⟩ : ∃ C0 : Nat → va_E, C0 = C := ⟨_, rfl⟩
  have hag : ∀ i : Nat, i ≠ 86 → C i = C0 i := fun i _ => by rw [hC0]
  rw [← hC0] at hQ
  have k0 := hts (.fieldLink RX11 93 "UpDrainModel" "length" "I") (List.mem_of_getElem? (i := 1) rfl)
  have nX11 : ∀ w ∈ u_ws RX11 TX11 32, w ∈ wsX11_erase := fun _ h => List.mem_cons_of_mem _ (List.mem_append_right _ h)
  have hE := lg_entry_eq m [.ref (ad 86)] 2
  rw [← hav] at hE
  rw [hE]
  have hl := lv_entry [.ref (ad 86)] (n := 2) (Nat.le_of_ble_eq_true rfl)
  generalize (lg_sl [.ref (ad 86)] ++ List.replicate (2 - (lg_sl [.ref (ad 86)]).length) Slot.unset).toArray = ls at hl ⊢
  have hl : lv_has ls 2 [(0, .ref (ad 86))] := hl
  clear hE
  unfold f_X11_erase at hf
  suffices hgo : ∀ (H : Heap) (locs : List Loc), va_P D vwCl (wd N ad C) H → va_S (Aw N ad s.heap.size) s.heap H locs → W p l e (headSpec wsX11_erase rmX11_erase).room s m args below meth c H locs 0 0 QQ (F0 m 0 ls []) from hgo s.heap [] hP hS
  clear hS hP
  intro H locs hP hS
  refine lv_aload_n hx hb dX11_erase_0 rfl (lv_at hl 0 rfl) ?_
  refine r_get (own := RX11) (T := TX11) (n := 32) (ci := 11) (v := .int m_len) hx hb hts nX11 hown hK hP (by omega) h86 rfl 1 (by decide) k0 rfl dX11_erase_1 ?_
  refine lv_istore_n (lv' := [(1, .int m_len), (0, .ref (ad 86))]) hx hb dX11_erase_4 rfl hl (by decide) rfl (fun ls hl => ?_)
  refine lv_aload_n hx hb dX11_erase_5 rfl (lv_at hl 1 rfl) ?_
  refine lv_iconst (v := 0) hx hb dX11_erase_6 (by decide) ?_
  refine r_put (own := RX11) (T := TX11) (n := 32) (ci := 11) (v := .int 0) hx hb hts nX11 tyX11 tyX11_ok nmX11 hown hK hI hAd hP hS (by omega) h86 rfl 1 (by decide) k0 rfl rfl rfl (Nat.le_of_ble_eq_true rfl) dX11_erase_7 (fun C H locs hP hS he hn => ?_)
  have hag : ∀ i : Nat, i ≠ 86 → C i = C0 i := fun i h => (he i (by omega)).trans (hag i h)
  have h86 : C 86 = .inr (11, [.ref (ad 87), .int 0, .ref (ad 88), .int m_rm, .int m_there, .ref (ad 89), .ref (ad 90), .ref (ad 91), .ref (ad 92), .ref (ad 93), .ref (ad 94), .ref (ad 95), .ref (ad 96), .ref (ad 97), .ref (ad 98), .ref (ad 99), .ref (ad 100), .ref (ad 101), .int m_lift, .int m_blank, .ref (ad 102), .int m_fm, .int m_at, .int m_pl, .int m_end, .ref (ad 103), .ref (ad 104), .ref (ad 105), .ref (ad 106), .ref (ad 107), .ref (ad 108), .int m_seed]) := hn
  refine lv_iload_n hx hb dX11_erase_10 rfl (lv_at hl 0 rfl) ?_
  obtain rfl := Option.some.inj hf
  rw [← hQ]
  exact e_iW hx hb hr rfl (tP_i _) hP hS ⟨hag, h86⟩ hlocks dX11_erase_11

def f_X11_sort (p0 : Int32) : Option (Int32) :=
  if p0 < 97 then
    if p0 < 48 then
      some (0)
    else
      if 57 < p0 then
        some (0)
      else
        some (2)
  else
    if 122 < p0 then
      if p0 < 48 then
        some (0)
      else
        if 57 < p0 then
          some (0)
        else
          some (2)
    else
      some (1)
abbrev rmX11_sort : Room := { frames := 0, cells := 0, slots := 0, locals := 0 }
set_option maxHeartbeats 4000000 in
set_option maxRecDepth 100000 in
theorem c_X11_sort {l : Launch} {sz : Nat}  {p0 : Int32} {rr : Int32} (hf : f_X11_sort p0 = some rr) : Met l yX11_sort wsX11_sort rmX11_sort (PcS sz [.int p0]) (QiR sz tP rr) 0 0 (An sz) := by
  refine Met.ofW (cc := cX11_sort) (maxL := 1) (ret := (some .int)) (by decide) rfl ?_
  intro p e s m args below meth c s₁ B hml hv
  obtain ⟨hav, hsz⟩ := hv
  subst hsz
  have hx := B.exec
  have hb := B.bytes
  have hr := B.returns
  have hts := atoms_spec (ws := wsX11_sort) B.pre
  have hown : s.vm.findClass RX11 = some m.cls := findClass_of_methodNamed B.named
  have hlocks := B.notSynchronized
  generalize hQ : MQ below (QiR s.heap.size tP rr) args s 0 0 (An s.heap.size) = QQ
  have hS : va_S (An s.heap.size) s.heap s.heap [] := va_S.rf
  have hA : ∀ q, s.heap.size ≤ q → (An s.heap.size) q := fun q h => h
  have hE := lg_entry_eq m [.int p0] 1
  rw [← hav] at hE
  rw [hE]
  have hl := lv_entry [.int p0] (n := 1) (Nat.le_of_ble_eq_true rfl)
  generalize (lg_sl [.int p0] ++ List.replicate (1 - (lg_sl [.int p0]).length) Slot.unset).toArray = ls at hl ⊢
  have hl : lv_has ls 1 [(0, .int p0)] := hl
  clear hE
  unfold f_X11_sort at hf
  suffices hgo : ∀ (H : Heap) (locs : List Loc), va_S (An s.heap.size) s.heap H locs → W p l e (headSpec wsX11_sort rmX11_sort).room s m args below meth c H locs 0 0 QQ (F0 m 0 ls []) from hgo s.heap [] hS
  clear hS
  intro H locs hS
  refine lv_iload_n hx hb dX11_sort_0 rfl (lv_at hl 0 rfl) ?_
  refine lv_bipush (v := 97) hx hb dX11_sort_1 (by decide) ?_
  refine lv_icmp_lt (tgt := 16) hx hb dX11_sort_3 (by decide) (fun c1 => ?_) (fun c1 => ?_)
  · have hf := it_e c1 hf
    refine lv_iload_n hx hb dX11_sort_16 rfl (lv_at hl 0 rfl) ?_
    refine lv_bipush (v := 48) hx hb dX11_sort_17 (by decide) ?_
    refine lv_icmp_lt (tgt := 32) hx hb dX11_sort_19 (by decide) (fun c2 => ?_) (fun c2 => ?_)
    · have hf := it_e c2 hf
      refine lv_iconst (v := 0) hx hb dX11_sort_32 (by decide) ?_
      obtain rfl := Option.some.inj hf
      rw [← hQ]
      exact e_iR hx hb hr rfl (tP_i _) hS hlocks dX11_sort_33
    · have hf := ie_e c2 hf
      refine lv_iload_n hx hb dX11_sort_22 rfl (lv_at hl 0 rfl) ?_
      refine lv_bipush (v := 57) hx hb dX11_sort_23 (by decide) ?_
      refine lv_icmp_gt (tgt := 32) hx hb dX11_sort_25 (by decide) (fun c3 => ?_) (fun c3 => ?_)
      · have hf := it_e c3 hf
        refine lv_iconst (v := 0) hx hb dX11_sort_32 (by decide) ?_
        obtain rfl := Option.some.inj hf
        rw [← hQ]
        exact e_iR hx hb hr rfl (tP_i _) hS hlocks dX11_sort_33
      · have hf := ie_e c3 hf
        refine lv_iconst (v := 2) hx hb dX11_sort_28 (by decide) ?_
        refine lv_goto (tgt := 33) hx hb dX11_sort_29 (by decide) ?_
        obtain rfl := Option.some.inj hf
        rw [← hQ]
        exact e_iR hx hb hr rfl (tP_i _) hS hlocks dX11_sort_33
  · have hf := ie_e c1 hf
    refine lv_iload_n hx hb dX11_sort_6 rfl (lv_at hl 0 rfl) ?_
    refine lv_bipush (v := 122) hx hb dX11_sort_7 (by decide) ?_
    refine lv_icmp_gt (tgt := 16) hx hb dX11_sort_9 (by decide) (fun c4 => ?_) (fun c4 => ?_)
    · have hf := it_e c4 hf
      refine lv_iload_n hx hb dX11_sort_16 rfl (lv_at hl 0 rfl) ?_
      refine lv_bipush (v := 48) hx hb dX11_sort_17 (by decide) ?_
      refine lv_icmp_lt (tgt := 32) hx hb dX11_sort_19 (by decide) (fun c5 => ?_) (fun c5 => ?_)
      · have hf := it_e c5 hf
        refine lv_iconst (v := 0) hx hb dX11_sort_32 (by decide) ?_
        obtain rfl := Option.some.inj hf
        rw [← hQ]
        exact e_iR hx hb hr rfl (tP_i _) hS hlocks dX11_sort_33
      · have hf := ie_e c5 hf
        refine lv_iload_n hx hb dX11_sort_22 rfl (lv_at hl 0 rfl) ?_
        refine lv_bipush (v := 57) hx hb dX11_sort_23 (by decide) ?_
        refine lv_icmp_gt (tgt := 32) hx hb dX11_sort_25 (by decide) (fun c6 => ?_) (fun c6 => ?_)
        · have hf := it_e c6 hf
          refine lv_iconst (v := 0) hx hb dX11_sort_32 (by decide) ?_
          obtain rfl := Option.some.inj hf
          rw [← hQ]
          exact e_iR hx hb hr rfl (tP_i _) hS hlocks dX11_sort_33
        · have hf := ie_e c6 hf
          refine lv_iconst (v := 2) hx hb dX11_sort_28 (by decide) ?_
          refine lv_goto (tgt := 33) hx hb dX11_sort_29 (by decide) ?_
          obtain rfl := Option.some.inj hf
          rw [← hQ]
          exact e_iR hx hb hr rfl (tP_i _) hS hlocks dX11_sort_33
    · have hf := ie_e c4 hf
      refine lv_iconst (v := 1) hx hb dX11_sort_12 (by decide) ?_
      refine lv_goto (tgt := 33) hx hb dX11_sort_13 (by decide) ?_
      obtain rfl := Option.some.inj hf
      rw [← hQ]
      exact e_iR hx hb hr rfl (tP_i _) hS hlocks dX11_sort_33

def LX11_token_0 (m_text : Nat → Int32) (m_len : Int32) (ko : Int32 → Option (Int32 × Int32 × Int32)) : Nat → Int32 → Option (Int32 × Int32 × Int32)
  | 0, _ => none
  | n + 1, x1 =>
    if m_len ≤ x1 then
      ko x1
    else
      ri m_text 200 (x1) fun x4 =>
      if x4 = 32 then
        lt ((x1 + 1) : Int32) fun x7 =>
        LX11_token_0 m_text m_len ko n x7
      else
        ko x1
theorem LX11_token_0_z (m_text : Nat → Int32) (m_len : Int32) (ko : Int32 → Option (Int32 × Int32 × Int32)) (x1 : Int32) : LX11_token_0 m_text m_len ko 0 x1 = none := rfl
theorem LX11_token_0_s (m_text : Nat → Int32) (m_len : Int32) (ko : Int32 → Option (Int32 × Int32 × Int32)) (n : Nat) (x1 : Int32) : LX11_token_0 m_text m_len ko (n + 1) x1 =
    if m_len ≤ x1 then
      ko x1
    else
      ri m_text 200 (x1) fun x4 =>
      if x4 = 32 then
        lt ((x1 + 1) : Int32) fun x7 =>
        LX11_token_0 m_text m_len ko n x7
      else
        ko x1 := rfl
def LX11_token_71 (m_text : Nat → Int32) (m_len : Int32) (x2 : Int32) (ko : Int32 → Option (Int32 × Int32 × Int32)) : Nat → Int32 → Option (Int32 × Int32 × Int32)
  | 0, _ => none
  | n + 1, x10 =>
    if m_len ≤ x10 then
      ko x10
    else
      ri m_text 200 (x2) fun x13 =>
      (f_X11_sort x13).bind fun q15 =>
      if q15 ≤ 0 then
        ko x10
      else
        ri m_text 200 (x10) fun x17 =>
        (f_X11_sort x17).bind fun q19 =>
        ri m_text 200 (x2) fun x20 =>
        (f_X11_sort x20).bind fun q22 =>
        if q19 = q22 then
          lt ((x10 + 1) : Int32) fun x24 =>
          LX11_token_71 m_text m_len x2 ko n x24
        else
          ko x10
theorem LX11_token_71_z (m_text : Nat → Int32) (m_len : Int32) (x2 : Int32) (ko : Int32 → Option (Int32 × Int32 × Int32)) (x10 : Int32) : LX11_token_71 m_text m_len x2 ko 0 x10 = none := rfl
theorem LX11_token_71_s (m_text : Nat → Int32) (m_len : Int32) (x2 : Int32) (ko : Int32 → Option (Int32 × Int32 × Int32)) (n : Nat) (x10 : Int32) : LX11_token_71 m_text m_len x2 ko (n + 1) x10 =
    if m_len ≤ x10 then
      ko x10
    else
      ri m_text 200 (x2) fun x13 =>
      (f_X11_sort x13).bind fun q15 =>
      if q15 ≤ 0 then
        ko x10
      else
        ri m_text 200 (x10) fun x17 =>
        (f_X11_sort x17).bind fun q19 =>
        ri m_text 200 (x2) fun x20 =>
        (f_X11_sort x20).bind fun q22 =>
        if q19 = q22 then
          lt ((x10 + 1) : Int32) fun x24 =>
          LX11_token_71 m_text m_len x2 ko n x24
        else
          ko x10 := rfl
def f_X11_token (m_text : Nat → Int32) (m_len : Int32) (m_at : Int32) (m_pl : Int32) (m_end : Int32) : Option (Int32 × Int32 × Int32) :=
  LX11_token_0 m_text m_len (fun x2 =>
    (if m_len ≤ x2 then
      some (0)
    else
      some (1) : Option (Int32)).bind fun q8 =>
    lt ((x2 + q8) : Int32) fun x9 =>
    LX11_token_71 m_text m_len x2 (fun x11 =>
      some (x11, x2, x11)) FU x9) FU m_at
abbrev rmX11_token : Room := { frames := 1, cells := 0, slots := 0, locals := 20 }
set_option maxHeartbeats 4000000 in
set_option maxRecDepth 100000 in
theorem c_X11_token {l : Launch} {D : va_G} {g : Nat → ClassId} {N : Nat} {ad : Nat → Nat} {C : Nat → va_E} {sz : Nat} {m_len : Int32} {m_rm : Int32} {m_there : Int32} {m_lift : Int32} {m_blank : Int32} {m_fm : Int32} {m_at : Int32} {m_pl : Int32} {m_end : Int32} {m_seed : Int32} {m_text : Nat → Int32}  {rr : Int32 × Int32 × Int32} (hN : 109 ≤ N) (hI : Inj N ad) (h86 : C 86 = .inr (11, [.ref (ad 87), .int m_len, .ref (ad 88), .int m_rm, .int m_there, .ref (ad 89), .ref (ad 90), .ref (ad 91), .ref (ad 92), .ref (ad 93), .ref (ad 94), .ref (ad 95), .ref (ad 96), .ref (ad 97), .ref (ad 98), .ref (ad 99), .ref (ad 100), .ref (ad 101), .int m_lift, .int m_blank, .ref (ad 102), .int m_fm, .int m_at, .int m_pl, .int m_end, .ref (ad 103), .ref (ad 104), .ref (ad 105), .ref (ad 106), .ref (ad 107), .ref (ad 108), .int m_seed])) (h87 : C 87 = aI g 200 m_text) (hf : f_X11_token m_text m_len m_at m_pl m_end = some rr) : Met l yX11_token wsX11_token rmX11_token (PcW D g N ad C sz [.ref (ad 86)]) (QvW D N ad sz (fun C' => (∀ i : Nat, i ≠ 86 → C' i = C i) ∧ (C' 86 = .inr (11, [.ref (ad 87), .int m_len, .ref (ad 88), .int m_rm, .int m_there, .ref (ad 89), .ref (ad 90), .ref (ad 91), .ref (ad 92), .ref (ad 93), .ref (ad 94), .ref (ad 95), .ref (ad 96), .ref (ad 97), .ref (ad 98), .ref (ad 99), .ref (ad 100), .ref (ad 101), .int m_lift, .int m_blank, .ref (ad 102), .int m_fm, .int rr.1, .int rr.2.1, .int rr.2.2, .ref (ad 103), .ref (ad 104), .ref (ad 105), .ref (ad 106), .ref (ad 107), .ref (ad 108), .int m_seed])))) 0 0 (Aw N ad sz) := by
  refine Met.ofW (cc := cX11_token) (maxL := 1) (ret := none) (by decide) rfl ?_
  intro p e s m args below meth c s₁ B hml hv
  obtain ⟨hav, hsz, hK, hP⟩ := hv
  subst hsz
  have hx := B.exec
  have hb := B.bytes
  have hr := B.returns
  have hts := atoms_spec (ws := wsX11_token) B.pre
  have hown : s.vm.findClass RX11 = some m.cls := findClass_of_methodNamed B.named
  have hlocks := B.notSynchronized
  generalize hQ : MQ below (QvW D N ad s.heap.size (fun C' => (∀ i : Nat, i ≠ 86 → C' i = C i) ∧ (C' 86 = .inr (11, [.ref (ad 87), .int m_len, .ref (ad 88), .int m_rm, .int m_there, .ref (ad 89), .ref (ad 90), .ref (ad 91), .ref (ad 92), .ref (ad 93), .ref (ad 94), .ref (ad 95), .ref (ad 96), .ref (ad 97), .ref (ad 98), .ref (ad 99), .ref (ad 100), .ref (ad 101), .int m_lift, .int m_blank, .ref (ad 102), .int m_fm, .int rr.1, .int rr.2.1, .int rr.2.2, .ref (ad 103), .ref (ad 104), .ref (ad 105), .ref (ad 106), .ref (ad 107), .ref (ad 108), .int m_seed])))) args s 0 0 (Aw N ad s.heap.size) = QQ
  have hS : va_S (Aw N ad s.heap.size) s.heap s.heap [] := va_S.rf
  have hA : ∀ q, s.heap.size ≤ q → (Aw N ad s.heap.size) q := fun q h => Or.inr h
  have hAd : ∀ j : Nat, j < N → (Aw N ad s.heap.size) (ad j) := fun j h => Or.inl ⟨j, h, rfl⟩
  obtain ⟨C0, hC0⟩ : ∃ C0 : Nat → va_E, C0 = C := ⟨_, rfl⟩
  have hag : ∀ i : Nat, i ≠ 86 → C i = C0 i := fun i _ => by rw [hC0]
  rw [← hC0] at hQ
  have k0 := hts (.fieldLink RX11 98 "UpDrainModel" "at" "I") (List.mem_of_getElem? (i := 1) rfl)
  have nX11 : ∀ w ∈ u_ws RX11 TX11 32, w ∈ wsX11_token := fun _ h => List.mem_cons_of_mem _ (List.mem_append_right _ h)
  have k2 := hts (.fieldLink RX11 93 "UpDrainModel" "length" "I") (List.mem_of_getElem? (i := 2) rfl)
  have k3 := hts (.fieldLink RX11 7 "UpDrainModel" "text" "[I") (List.mem_of_getElem? (i := 3) rfl)
  have k4 := hts (.fieldLink RX11 101 "UpDrainModel" "place" "I") (List.mem_of_getElem? (i := 4) rfl)
  have k5 := hts (.fieldLink RX11 108 "UpDrainModel" "end" "I") (List.mem_of_getElem? (i := 5) rfl)
  have hE := lg_entry_eq m [.ref (ad 86)] 1
  rw [← hav] at hE
  rw [hE]
  have hl := lv_entry [.ref (ad 86)] (n := 1) (Nat.le_of_ble_eq_true rfl)
  generalize (lg_sl [.ref (ad 86)] ++ List.replicate (1 - (lg_sl [.ref (ad 86)]).length) Slot.unset).toArray = ls at hl ⊢
  have hl : lv_has ls 1 [(0, .ref (ad 86))] := hl
  clear hE
  unfold f_X11_token at hf
  suffices hgo : ∀ (H : Heap) (locs : List Loc), va_P D vwCl (wd N ad C) H → va_S (Aw N ad s.heap.size) s.heap H locs → W p l e (headSpec wsX11_token rmX11_token).room s m args below meth c H locs 0 0 QQ (F0 m 0 ls []) from hgo s.heap [] hP hS
  clear hS hP
  intro H locs hP hS
  have key0 : ∀ (ko : Int32 → Option (Int32 × Int32 × Int32)), (∀ (x2 : Int32) (C : Nat → va_E) (H : Heap) (locs : List Loc) (ls : Array Slot), va_P D vwCl (wd N ad C) H → va_S (Aw N ad s.heap.size) s.heap H locs → (∀ i : Nat, i ≠ 86 → C i = C0 i) → C 86 = .inr (11, [.ref (ad 87), .int m_len, .ref (ad 88), .int m_rm, .int m_there, .ref (ad 89), .ref (ad 90), .ref (ad 91), .ref (ad 92), .ref (ad 93), .ref (ad 94), .ref (ad 95), .ref (ad 96), .ref (ad 97), .ref (ad 98), .ref (ad 99), .ref (ad 100), .ref (ad 101), .int m_lift, .int m_blank, .ref (ad 102), .int m_fm, .int x2, .int m_pl, .int m_end, .ref (ad 103), .ref (ad 104), .ref (ad 105), .ref (ad 106), .ref (ad 107), .ref (ad 108), .int m_seed]) → C 87 = aI g 200 m_text → lv_has ls 1 [(0, .ref (ad 86))] → ko x2 = some rr → W p l e (headSpec wsX11_token rmX11_token).room s m args below meth c H locs 0 0 QQ (F0 m 38 ls [])) → ∀ (n : Nat) (x1 : Int32) (C : Nat → va_E) (H : Heap) (locs : List Loc) (ls : Array Slot), va_P D vwCl (wd N ad C) H → va_S (Aw N ad s.heap.size) s.heap H locs → (∀ i : Nat, i ≠ 86 → C i = C0 i) → C 86 = .inr (11, [.ref (ad 87), .int m_len, .ref (ad 88), .int m_rm, .int m_there, .ref (ad 89), .ref (ad 90), .ref (ad 91), .ref (ad 92), .ref (ad 93), .ref (ad 94), .ref (ad 95), .ref (ad 96), .ref (ad 97), .ref (ad 98), .ref (ad 99), .ref (ad 100), .ref (ad 101), .int m_lift, .int m_blank, .ref (ad 102), .int m_fm, .int x1, .int m_pl, .int m_end, .ref (ad 103), .ref (ad 104), .ref (ad 105), .ref (ad 106), .ref (ad 107), .ref (ad 108), .int m_seed]) → C 87 = aI g 200 m_text → lv_has ls 1 [(0, .ref (ad 86))] → LX11_token_0 m_text m_len ko n x1 = some rr → W p l e (headSpec wsX11_token rmX11_token).room s m args below meth c H locs 0 0 QQ (F0 m 0 ls []) := by
    intro ko hko n
    induction n with
    | zero =>
      intro x1 C H locs ls hP hS hag h86 h87 hl hf
      rw [LX11_token_0_z] at hf
      cases hf
    | succ n ih =>
      intro x1 C H locs ls hP hS hag h86 h87 hl hf
      rw [LX11_token_0_s] at hf
      refine lv_aload_n hx hb dX11_token_0 rfl (lv_at hl 0 rfl) ?_
      refine r_get (own := RX11) (T := TX11) (n := 32) (ci := 11) (v := .int x1) hx hb hts nX11 hown hK hP (by omega) h86 rfl 22 (by decide) k0 rfl dX11_token_1 ?_
      refine lv_aload_n hx hb dX11_token_4 rfl (lv_at hl 0 rfl) ?_
      refine r_get (own := RX11) (T := TX11) (n := 32) (ci := 11) (v := .int m_len) hx hb hts nX11 hown hK hP (by omega) h86 rfl 1 (by decide) k2 rfl dX11_token_5 ?_
      refine lv_icmp_ge (tgt := 38) hx hb dX11_token_8 (by decide) (fun c3 => ?_) (fun c3 => ?_)
      · have hf := it_e c3 hf
        exact hko x1 C H locs ls hP hS hag h86 h87 (lv_sub hl [0] rfl) hf
      · have hf := ie_e c3 hf
        refine lv_aload_n hx hb dX11_token_11 rfl (lv_at hl 0 rfl) ?_
        refine r_get (own := RX11) (T := TX11) (n := 32) (ci := 11) (v := .ref (ad 87)) hx hb hts nX11 hown hK hP (by omega) h86 rfl 0 (by decide) k3 rfl dX11_token_12 ?_
        refine lv_aload_n hx hb dX11_token_15 rfl (lv_at hl 0 rfl) ?_
        refine r_get (own := RX11) (T := TX11) (n := 32) (ci := 11) (v := .int x1) hx hb hts nX11 hown hK hP (by omega) h86 rfl 22 (by decide) k0 rfl dX11_token_16 ?_
        obtain ⟨i5, x4, ex4, hf⟩ := ri_e hf
        refine r_iald hx hb hK hP (by omega) h87 i5 dX11_token_19 ex4 ?_
        refine lv_bipush (v := 32) hx hb dX11_token_20 (by decide) ?_
        refine lv_icmp_ne (tgt := 38) hx hb dX11_token_22 (by decide) (fun c6 => ?_) (fun c6 => ?_)
        · have hf := ie_e c6 hf
          exact hko x1 C H locs ls hP hS hag h86 h87 (lv_sub hl [0] rfl) hf
        · have hf := it_e c6 hf
          refine lv_aload_n hx hb dX11_token_25 rfl (lv_at hl 0 rfl) ?_
          refine lv_dup hx hb dX11_token_26 rfl ?_
          refine r_get (own := RX11) (T := TX11) (n := 32) (ci := 11) (v := .int x1) hx hb hts nX11 hown hK hP (by omega) h86 rfl 22 (by decide) k0 rfl dX11_token_27 ?_
          refine lv_iconst (v := 1) hx hb dX11_token_30 (by decide) ?_
          refine lv_iadd hx hb dX11_token_31 ?_
          obtain ⟨x7, ex7, hf⟩ := lt_e hf
          refine tp_i ex7 ?_
          refine r_put (own := RX11) (T := TX11) (n := 32) (ci := 11) (v := .int x7) hx hb hts nX11 tyX11 tyX11_ok nmX11 hown hK hI hAd hP hS (by omega) h86 rfl 22 (by decide) k0 rfl rfl rfl (Nat.le_of_ble_eq_true rfl) dX11_token_32 (fun C H locs hP hS he hn => ?_)
          have hag : ∀ i : Nat, i ≠ 86 → C i = C0 i := fun i h => (he i (by omega)).trans (hag i h)
          have h87 := (he 87 (by decide)).trans h87
          have h86 : C 86 = .inr (11, [.ref (ad 87), .int m_len, .ref (ad 88), .int m_rm, .int m_there, .ref (ad 89), .ref (ad 90), .ref (ad 91), .ref (ad 92), .ref (ad 93), .ref (ad 94), .ref (ad 95), .ref (ad 96), .ref (ad 97), .ref (ad 98), .ref (ad 99), .ref (ad 100), .ref (ad 101), .int m_lift, .int m_blank, .ref (ad 102), .int m_fm, .int x7, .int m_pl, .int m_end, .ref (ad 103), .ref (ad 104), .ref (ad 105), .ref (ad 106), .ref (ad 107), .ref (ad 108), .int m_seed]) := hn
          refine lv_goto (tgt := 0) hx hb dX11_token_35 (by decide) ?_
          exact ih x7 C H locs ls hP hS hag h86 h87 (lv_sub hl [0] rfl) hf
  refine key0 _ (fun x2 C H locs ls hP hS hag h86 h87 hl hf => ?_) FU m_at C H locs ls hP hS hag h86 h87 (lv_sub hl [0] rfl) hf
  refine lv_aload_n hx hb dX11_token_38 rfl (lv_at hl 0 rfl) ?_
  refine lv_aload_n hx hb dX11_token_39 rfl (lv_at hl 0 rfl) ?_
  refine r_get (own := RX11) (T := TX11) (n := 32) (ci := 11) (v := .int x2) hx hb hts nX11 hown hK hP (by omega) h86 rfl 22 (by decide) k0 rfl dX11_token_40 ?_
  refine r_put (own := RX11) (T := TX11) (n := 32) (ci := 11) (v := .int x2) hx hb hts nX11 tyX11 tyX11_ok nmX11 hown hK hI hAd hP hS (by omega) h86 rfl 23 (by decide) k4 rfl rfl rfl (Nat.le_of_ble_eq_true rfl) dX11_token_43 (fun C H locs hP hS he hn => ?_)
  have hag : ∀ i : Nat, i ≠ 86 → C i = C0 i := fun i h => (he i (by omega)).trans (hag i h)
  have h87 := (he 87 (by decide)).trans h87
  have h86 : C 86 = .inr (11, [.ref (ad 87), .int m_len, .ref (ad 88), .int m_rm, .int m_there, .ref (ad 89), .ref (ad 90), .ref (ad 91), .ref (ad 92), .ref (ad 93), .ref (ad 94), .ref (ad 95), .ref (ad 96), .ref (ad 97), .ref (ad 98), .ref (ad 99), .ref (ad 100), .ref (ad 101), .int m_lift, .int m_blank, .ref (ad 102), .int m_fm, .int x2, .int x2, .int m_end, .ref (ad 103), .ref (ad 104), .ref (ad 105), .ref (ad 106), .ref (ad 107), .ref (ad 108), .int m_seed]) := hn
  refine lv_aload_n hx hb dX11_token_46 rfl (lv_at hl 0 rfl) ?_
  refine lv_dup hx hb dX11_token_47 rfl ?_
  refine r_get (own := RX11) (T := TX11) (n := 32) (ci := 11) (v := .int x2) hx hb hts nX11 hown hK hP (by omega) h86 rfl 22 (by decide) k0 rfl dX11_token_48 ?_
  refine lv_aload_n hx hb dX11_token_51 rfl (lv_at hl 0 rfl) ?_
  refine r_get (own := RX11) (T := TX11) (n := 32) (ci := 11) (v := .int x2) hx hb hts nX11 hown hK hP (by omega) h86 rfl 22 (by decide) k0 rfl dX11_token_52 ?_
  refine lv_aload_n hx hb dX11_token_55 rfl (lv_at hl 0 rfl) ?_
  refine r_get (own := RX11) (T := TX11) (n := 32) (ci := 11) (v := .int m_len) hx hb hts nX11 hown hK hP (by omega) h86 rfl 1 (by decide) k2 rfl dX11_token_56 ?_
  obtain ⟨q8, htq8, hf⟩ := bd_e hf
  have jnq8 : ∀ (C : Nat → va_E) (H : Heap) (locs : List Loc) (ls : Array Slot), va_P D vwCl (wd N ad C) H → va_S (Aw N ad s.heap.size) s.heap H locs → (∀ i : Nat, i ≠ 86 → C i = C0 i) → C 86 = .inr (11, [.ref (ad 87), .int m_len, .ref (ad 88), .int m_rm, .int m_there, .ref (ad 89), .ref (ad 90), .ref (ad 91), .ref (ad 92), .ref (ad 93), .ref (ad 94), .ref (ad 95), .ref (ad 96), .ref (ad 97), .ref (ad 98), .ref (ad 99), .ref (ad 100), .ref (ad 101), .int m_lift, .int m_blank, .ref (ad 102), .int m_fm, .int x2, .int x2, .int m_end, .ref (ad 103), .ref (ad 104), .ref (ad 105), .ref (ad 106), .ref (ad 107), .ref (ad 108), .int m_seed]) → C 87 = aI g 200 m_text → lv_has ls 1 [(0, .ref (ad 86))] → W p l e (headSpec wsX11_token rmX11_token).room s m args below meth c H locs 0 0 QQ (F0 m 67 ls [.int q8, .int x2, .ref (ad 86)]) := by
    intro C H locs ls hP hS hag h86 h87 hl
    refine lv_iadd hx hb dX11_token_67 ?_
    obtain ⟨x9, ex9, hf⟩ := lt_e hf
    refine tp_i ex9 ?_
    refine r_put (own := RX11) (T := TX11) (n := 32) (ci := 11) (v := .int x9) hx hb hts nX11 tyX11 tyX11_ok nmX11 hown hK hI hAd hP hS (by omega) h86 rfl 22 (by decide) k0 rfl rfl rfl (Nat.le_of_ble_eq_true rfl) dX11_token_68 (fun C H locs hP hS he hn => ?_)
    have hag : ∀ i : Nat, i ≠ 86 → C i = C0 i := fun i h => (he i (by omega)).trans (hag i h)
    have h87 := (he 87 (by decide)).trans h87
    have h86 : C 86 = .inr (11, [.ref (ad 87), .int m_len, .ref (ad 88), .int m_rm, .int m_there, .ref (ad 89), .ref (ad 90), .ref (ad 91), .ref (ad 92), .ref (ad 93), .ref (ad 94), .ref (ad 95), .ref (ad 96), .ref (ad 97), .ref (ad 98), .ref (ad 99), .ref (ad 100), .ref (ad 101), .int m_lift, .int m_blank, .ref (ad 102), .int m_fm, .int x9, .int x2, .int m_end, .ref (ad 103), .ref (ad 104), .ref (ad 105), .ref (ad 106), .ref (ad 107), .ref (ad 108), .int m_seed]) := hn
    have key71 : ∀ (ko : Int32 → Option (Int32 × Int32 × Int32)), (∀ (x11 : Int32) (C : Nat → va_E) (H : Heap) (locs : List Loc) (ls : Array Slot), va_P D vwCl (wd N ad C) H → va_S (Aw N ad s.heap.size) s.heap H locs → (∀ i : Nat, i ≠ 86 → C i = C0 i) → C 86 = .inr (11, [.ref (ad 87), .int m_len, .ref (ad 88), .int m_rm, .int m_there, .ref (ad 89), .ref (ad 90), .ref (ad 91), .ref (ad 92), .ref (ad 93), .ref (ad 94), .ref (ad 95), .ref (ad 96), .ref (ad 97), .ref (ad 98), .ref (ad 99), .ref (ad 100), .ref (ad 101), .int m_lift, .int m_blank, .ref (ad 102), .int m_fm, .int x11, .int x2, .int m_end, .ref (ad 103), .ref (ad 104), .ref (ad 105), .ref (ad 106), .ref (ad 107), .ref (ad 108), .int m_seed]) → C 87 = aI g 200 m_text → lv_has ls 1 [(0, .ref (ad 86))] → ko x11 = some rr → W p l e (headSpec wsX11_token rmX11_token).room s m args below meth c H locs 0 0 QQ (F0 m 137 ls [])) → ∀ (n : Nat) (x10 : Int32) (C : Nat → va_E) (H : Heap) (locs : List Loc) (ls : Array Slot), va_P D vwCl (wd N ad C) H → va_S (Aw N ad s.heap.size) s.heap H locs → (∀ i : Nat, i ≠ 86 → C i = C0 i) → C 86 = .inr (11, [.ref (ad 87), .int m_len, .ref (ad 88), .int m_rm, .int m_there, .ref (ad 89), .ref (ad 90), .ref (ad 91), .ref (ad 92), .ref (ad 93), .ref (ad 94), .ref (ad 95), .ref (ad 96), .ref (ad 97), .ref (ad 98), .ref (ad 99), .ref (ad 100), .ref (ad 101), .int m_lift, .int m_blank, .ref (ad 102), .int m_fm, .int x10, .int x2, .int m_end, .ref (ad 103), .ref (ad 104), .ref (ad 105), .ref (ad 106), .ref (ad 107), .ref (ad 108), .int m_seed]) → C 87 = aI g 200 m_text → lv_has ls 1 [(0, .ref (ad 86))] → LX11_token_71 m_text m_len x2 ko n x10 = some rr → W p l e (headSpec wsX11_token rmX11_token).room s m args below meth c H locs 0 0 QQ (F0 m 71 ls []) := by
      intro ko hko n
      induction n with
      | zero =>
        intro x10 C H locs ls hP hS hag h86 h87 hl hf
        rw [LX11_token_71_z] at hf
        cases hf
      | succ n ih =>
        intro x10 C H locs ls hP hS hag h86 h87 hl hf
        rw [LX11_token_71_s] at hf
        refine lv_aload_n hx hb dX11_token_71 rfl (lv_at hl 0 rfl) ?_
        refine r_get (own := RX11) (T := TX11) (n := 32) (ci := 11) (v := .int x10) hx hb hts nX11 hown hK hP (by omega) h86 rfl 22 (by decide) k0 rfl dX11_token_72 ?_
        refine lv_aload_n hx hb dX11_token_75 rfl (lv_at hl 0 rfl) ?_
        refine r_get (own := RX11) (T := TX11) (n := 32) (ci := 11) (v := .int m_len) hx hb hts nX11 hown hK hP (by omega) h86 rfl 1 (by decide) k2 rfl dX11_token_76 ?_
        refine lv_icmp_ge (tgt := 137) hx hb dX11_token_79 (by decide) (fun c12 => ?_) (fun c12 => ?_)
        · have hf := it_e c12 hf
          exact hko x10 C H locs ls hP hS hag h86 h87 (lv_sub hl [0] rfl) hf
        · have hf := ie_e c12 hf
          refine lv_aload_n hx hb dX11_token_82 rfl (lv_at hl 0 rfl) ?_
          refine r_get (own := RX11) (T := TX11) (n := 32) (ci := 11) (v := .ref (ad 87)) hx hb hts nX11 hown hK hP (by omega) h86 rfl 0 (by decide) k3 rfl dX11_token_83 ?_
          refine lv_aload_n hx hb dX11_token_86 rfl (lv_at hl 0 rfl) ?_
          refine r_get (own := RX11) (T := TX11) (n := 32) (ci := 11) (v := .int x2) hx hb hts nX11 hown hK hP (by omega) h86 rfl 23 (by decide) k4 rfl dX11_token_87 ?_
          obtain ⟨i14, x13, ex13, hf⟩ := ri_e hf
          refine r_iald hx hb hK hP (by omega) h87 i14 dX11_token_90 ex13 ?_
          obtain ⟨q15, hq15, hf⟩ := bd_e hf
          refine k_iR (va_runS (As := [.int x13]) (rest := []) ⟨hx, hb, hml, hown, hts⟩ (c_X11_sort (l := l) (sz := H.size) (p0 := x13) hq15) (va_cwS 1 hts gX11_token_X11_sort rfl rfl rfl (by decide +kernel) ⟨Nat.le_of_ble_eq_true rfl, Nat.le_of_ble_eq_true rfl⟩) preS0 rfl rfl hl.1 rfl (lv_room (Nat.le_of_ble_eq_true rfl)) dX11_token_91 ⟨Nat.le_of_ble_eq_true rfl, Nat.le_of_ble_eq_true rfl⟩) hA hP hS (fun H locs hP hS hbz_q15 => ?_)
          refine lv_if_le (tgt := 137) hx hb dX11_token_94 (by decide) (fun c16 => ?_) (fun c16 => ?_)
          · have hf := it_e c16 hf
            exact hko x10 C H locs ls hP hS hag h86 h87 (lv_sub hl [0] rfl) hf
          · have hf := ie_e c16 hf
            refine lv_aload_n hx hb dX11_token_97 rfl (lv_at hl 0 rfl) ?_
            refine r_get (own := RX11) (T := TX11) (n := 32) (ci := 11) (v := .ref (ad 87)) hx hb hts nX11 hown hK hP (by omega) h86 rfl 0 (by decide) k3 rfl dX11_token_98 ?_
            refine lv_aload_n hx hb dX11_token_101 rfl (lv_at hl 0 rfl) ?_
            refine r_get (own := RX11) (T := TX11) (n := 32) (ci := 11) (v := .int x10) hx hb hts nX11 hown hK hP (by omega) h86 rfl 22 (by decide) k0 rfl dX11_token_102 ?_
            obtain ⟨i18, x17, ex17, hf⟩ := ri_e hf
            refine r_iald hx hb hK hP (by omega) h87 i18 dX11_token_105 ex17 ?_
            obtain ⟨q19, hq19, hf⟩ := bd_e hf
            refine k_iR (va_runS (As := [.int x17]) (rest := []) ⟨hx, hb, hml, hown, hts⟩ (c_X11_sort (l := l) (sz := H.size) (p0 := x17) hq19) (va_cwS 1 hts gX11_token_X11_sort rfl rfl rfl (by decide +kernel) ⟨Nat.le_of_ble_eq_true rfl, Nat.le_of_ble_eq_true rfl⟩) preS0 rfl rfl hl.1 rfl (lv_room (Nat.le_of_ble_eq_true rfl)) dX11_token_106 ⟨Nat.le_of_ble_eq_true rfl, Nat.le_of_ble_eq_true rfl⟩) hA hP hS (fun H locs hP hS hbz_q19 => ?_)
            refine lv_aload_n hx hb dX11_token_109 rfl (lv_at hl 0 rfl) ?_
            refine r_get (own := RX11) (T := TX11) (n := 32) (ci := 11) (v := .ref (ad 87)) hx hb hts nX11 hown hK hP (by omega) h86 rfl 0 (by decide) k3 rfl dX11_token_110 ?_
            refine lv_aload_n hx hb dX11_token_113 rfl (lv_at hl 0 rfl) ?_
            refine r_get (own := RX11) (T := TX11) (n := 32) (ci := 11) (v := .int x2) hx hb hts nX11 hown hK hP (by omega) h86 rfl 23 (by decide) k4 rfl dX11_token_114 ?_
            obtain ⟨i21, x20, ex20, hf⟩ := ri_e hf
            refine r_iald hx hb hK hP (by omega) h87 i21 dX11_token_117 ex20 ?_
            obtain ⟨q22, hq22, hf⟩ := bd_e hf
            refine k_iR (va_runS (As := [.int x20]) (rest := [.int q19]) ⟨hx, hb, hml, hown, hts⟩ (c_X11_sort (l := l) (sz := H.size) (p0 := x20) hq22) (va_cwS 1 hts gX11_token_X11_sort rfl rfl rfl (by decide +kernel) ⟨Nat.le_of_ble_eq_true rfl, Nat.le_of_ble_eq_true rfl⟩) preS0 rfl rfl hl.1 rfl (lv_room (Nat.le_of_ble_eq_true rfl)) dX11_token_118 ⟨Nat.le_of_ble_eq_true rfl, Nat.le_of_ble_eq_true rfl⟩) hA hP hS (fun H locs hP hS hbz_q22 => ?_)
            refine lv_icmp_ne (tgt := 137) hx hb dX11_token_121 (by decide) (fun c23 => ?_) (fun c23 => ?_)
            · have hf := ie_e c23 hf
              exact hko x10 C H locs ls hP hS hag h86 h87 (lv_sub hl [0] rfl) hf
            · have hf := it_e c23 hf
              refine lv_aload_n hx hb dX11_token_124 rfl (lv_at hl 0 rfl) ?_
              refine lv_dup hx hb dX11_token_125 rfl ?_
              refine r_get (own := RX11) (T := TX11) (n := 32) (ci := 11) (v := .int x10) hx hb hts nX11 hown hK hP (by omega) h86 rfl 22 (by decide) k0 rfl dX11_token_126 ?_
              refine lv_iconst (v := 1) hx hb dX11_token_129 (by decide) ?_
              refine lv_iadd hx hb dX11_token_130 ?_
              obtain ⟨x24, ex24, hf⟩ := lt_e hf
              refine tp_i ex24 ?_
              refine r_put (own := RX11) (T := TX11) (n := 32) (ci := 11) (v := .int x24) hx hb hts nX11 tyX11 tyX11_ok nmX11 hown hK hI hAd hP hS (by omega) h86 rfl 22 (by decide) k0 rfl rfl rfl (Nat.le_of_ble_eq_true rfl) dX11_token_131 (fun C H locs hP hS he hn => ?_)
              have hag : ∀ i : Nat, i ≠ 86 → C i = C0 i := fun i h => (he i (by omega)).trans (hag i h)
              have h87 := (he 87 (by decide)).trans h87
              have h86 : C 86 = .inr (11, [.ref (ad 87), .int m_len, .ref (ad 88), .int m_rm, .int m_there, .ref (ad 89), .ref (ad 90), .ref (ad 91), .ref (ad 92), .ref (ad 93), .ref (ad 94), .ref (ad 95), .ref (ad 96), .ref (ad 97), .ref (ad 98), .ref (ad 99), .ref (ad 100), .ref (ad 101), .int m_lift, .int m_blank, .ref (ad 102), .int m_fm, .int x24, .int x2, .int m_end, .ref (ad 103), .ref (ad 104), .ref (ad 105), .ref (ad 106), .ref (ad 107), .ref (ad 108), .int m_seed]) := hn
              refine lv_goto (tgt := 71) hx hb dX11_token_134 (by decide) ?_
              exact ih x24 C H locs ls hP hS hag h86 h87 (lv_sub hl [0] rfl) hf
    refine key71 _ (fun x11 C H locs ls hP hS hag h86 h87 hl hf => ?_) FU x9 C H locs ls hP hS hag h86 h87 (lv_sub hl [0] rfl) hf
    refine lv_aload_n hx hb dX11_token_137 rfl (lv_at hl 0 rfl) ?_
    refine lv_aload_n hx hb dX11_token_138 rfl (lv_at hl 0 rfl) ?_
    refine r_get (own := RX11) (T := TX11) (n := 32) (ci := 11) (v := .int x11) hx hb hts nX11 hown hK hP (by omega) h86 rfl 22 (by decide) k0 rfl dX11_token_139 ?_
    refine r_put (own := RX11) (T := TX11) (n := 32) (ci := 11) (v := .int x11) hx hb hts nX11 tyX11 tyX11_ok nmX11 hown hK hI hAd hP hS (by omega) h86 rfl 24 (by decide) k5 rfl rfl rfl (Nat.le_of_ble_eq_true rfl) dX11_token_142 (fun C H locs hP hS he hn => ?_)
    have hag : ∀ i : Nat, i ≠ 86 → C i = C0 i := fun i h => (he i (by omega)).trans (hag i h)
    have h87 := (he 87 (by decide)).trans h87
    have h86 : C 86 = .inr (11, [.ref (ad 87), .int m_len, .ref (ad 88), .int m_rm, .int m_there, .ref (ad 89), .ref (ad 90), .ref (ad 91), .ref (ad 92), .ref (ad 93), .ref (ad 94), .ref (ad 95), .ref (ad 96), .ref (ad 97), .ref (ad 98), .ref (ad 99), .ref (ad 100), .ref (ad 101), .int m_lift, .int m_blank, .ref (ad 102), .int m_fm, .int x11, .int x2, .int x11, .ref (ad 103), .ref (ad 104), .ref (ad 105), .ref (ad 106), .ref (ad 107), .ref (ad 108), .int m_seed]) := hn
    obtain rfl := Option.some.inj hf
    rw [← hQ]
    exact e_vW hx hb hr hP hS ⟨hag, h86⟩ hlocks dX11_token_145
  clear hf
  have hf := htq8
  refine lv_icmp_ge (tgt := 66) hx hb dX11_token_59 (by decide) (fun c25 => ?_) (fun c25 => ?_)
  · have hf := it_e c25 hf
    refine lv_iconst (v := 0) hx hb dX11_token_66 (by decide) ?_
    obtain rfl := Option.some.inj hf
    exact jnq8 C H locs ls hP hS hag h86 h87 (lv_sub hl [0] rfl)
  · have hf := ie_e c25 hf
    refine lv_iconst (v := 1) hx hb dX11_token_62 (by decide) ?_
    refine lv_goto (tgt := 67) hx hb dX11_token_63 (by decide) ?_
    obtain rfl := Option.some.inj hf
    exact jnq8 C H locs ls hP hS hag h86 h87 (lv_sub hl [0] rfl)

def LX11_isWord_22 (p0 : Int32) (p1 : Int32) (m_text : Nat → Int32) (m_pl : Int32) (ko : Int32 → Int32 → Option (Int32)) : Nat → Int32 → Int32 → Option (Int32)
  | 0, _, _ => none
  | n + 1, x2, x3 =>
    if x2 = 0 then
      ko x2 x3
    else
      if p1 ≤ x3 then
        ko x2 x3
      else
        ri m_text 200 ((m_pl + x3)) fun x8 =>
        (if x8 = (96 + ((p0 >>> ((5 * x3) &&& 31)) &&& 31)) then
          some (1)
        else
          some (0) : Option (Int32)).bind fun q10 =>
        lt (x3 + 1 : Int32) fun x11 =>
        LX11_isWord_22 p0 p1 m_text m_pl ko n q10 x11
theorem LX11_isWord_22_z (p0 : Int32) (p1 : Int32) (m_text : Nat → Int32) (m_pl : Int32) (ko : Int32 → Int32 → Option (Int32)) (x2 : Int32) (x3 : Int32) : LX11_isWord_22 p0 p1 m_text m_pl ko 0 x2 x3 = none := rfl
theorem LX11_isWord_22_s (p0 : Int32) (p1 : Int32) (m_text : Nat → Int32) (m_pl : Int32) (ko : Int32 → Int32 → Option (Int32)) (n : Nat) (x2 : Int32) (x3 : Int32) : LX11_isWord_22 p0 p1 m_text m_pl ko (n + 1) x2 x3 =
    if x2 = 0 then
      ko x2 x3
    else
      if p1 ≤ x3 then
        ko x2 x3
      else
        ri m_text 200 ((m_pl + x3)) fun x8 =>
        (if x8 = (96 + ((p0 >>> ((5 * x3) &&& 31)) &&& 31)) then
          some (1)
        else
          some (0) : Option (Int32)).bind fun q10 =>
        lt (x3 + 1 : Int32) fun x11 =>
        LX11_isWord_22 p0 p1 m_text m_pl ko n q10 x11 := rfl
def f_X11_isWord (p0 : Int32) (p1 : Int32) (m_text : Nat → Int32) (m_pl : Int32) (m_end : Int32) : Option (Int32) :=
  (if (m_end - m_pl) = p1 then
    some (1)
  else
    some (0) : Option (Int32)).bind fun q1 =>
  LX11_isWord_22 p0 p1 m_text m_pl (fun x4 x5 =>
    bq (x4) <|
    some (x4)) FU q1 0
abbrev rmX11_isWord : Room := { frames := 0, cells := 0, slots := 0, locals := 0 }
set_option maxHeartbeats 4000000 in
set_option maxRecDepth 100000 in
theorem c_X11_isWord {l : Launch} {D : va_G} {g : Nat → ClassId} {N : Nat} {ad : Nat → Nat} {C : Nat → va_E} {sz : Nat} {m_len : Int32} {m_rm : Int32} {m_there : Int32} {m_lift : Int32} {m_blank : Int32} {m_fm : Int32} {m_at : Int32} {m_pl : Int32} {m_end : Int32} {m_seed : Int32} {m_text : Nat → Int32} {p0 : Int32} {p1 : Int32} {rr : Int32} (hN : 109 ≤ N) (h86 : C 86 = .inr (11, [.ref (ad 87), .int m_len, .ref (ad 88), .int m_rm, .int m_there, .ref (ad 89), .ref (ad 90), .ref (ad 91), .ref (ad 92), .ref (ad 93), .ref (ad 94), .ref (ad 95), .ref (ad 96), .ref (ad 97), .ref (ad 98), .ref (ad 99), .ref (ad 100), .ref (ad 101), .int m_lift, .int m_blank, .ref (ad 102), .int m_fm, .int m_at, .int m_pl, .int m_end, .ref (ad 103), .ref (ad 104), .ref (ad 105), .ref (ad 106), .ref (ad 107), .ref (ad 108), .int m_seed])) (h87 : C 87 = aI g 200 m_text) (hf : f_X11_isWord p0 p1 m_text m_pl m_end = some rr) : Met l yX11_isWord wsX11_isWord rmX11_isWord (PcW D g N ad C sz [.ref (ad 86), .int p0, .int p1]) (QiR sz bz rr) 0 0 (An sz) := by
  refine Met.ofW (cc := cX11_isWord) (maxL := 5) (ret := (some .boolean)) (by decide) rfl ?_
  intro p e s m args below meth c s₁ B hml hv
  obtain ⟨hav, hsz, hK, hP⟩ := hv
  subst hsz
  have hx := B.exec
  have hb := B.bytes
  have hr := B.returns
  have hts := atoms_spec (ws := wsX11_isWord) B.pre
  have hown : s.vm.findClass RX11 = some m.cls := findClass_of_methodNamed B.named
  have hlocks := B.notSynchronized
  generalize hQ : MQ below (QiR s.heap.size bz rr) args s 0 0 (An s.heap.size) = QQ
  have hS : va_S (An s.heap.size) s.heap s.heap [] := va_S.rf
  have hA : ∀ q, s.heap.size ≤ q → (An s.heap.size) q := fun q h => h
  have k0 := hts (.fieldLink RX11 108 "UpDrainModel" "end" "I") (List.mem_of_getElem? (i := 1) rfl)
  have nX11 : ∀ w ∈ u_ws RX11 TX11 32, w ∈ wsX11_isWord := fun _ h => List.mem_cons_of_mem _ (List.mem_append_right _ h)
  have k2 := hts (.fieldLink RX11 101 "UpDrainModel" "place" "I") (List.mem_of_getElem? (i := 2) rfl)
  have k3 := hts (.fieldLink RX11 7 "UpDrainModel" "text" "[I") (List.mem_of_getElem? (i := 3) rfl)
  have hE := lg_entry_eq m [.ref (ad 86), .int p0, .int p1] 5
  rw [← hav] at hE
  rw [hE]
  have hl := lv_entry [.ref (ad 86), .int p0, .int p1] (n := 5) (Nat.le_of_ble_eq_true rfl)
  generalize (lg_sl [.ref (ad 86), .int p0, .int p1] ++ List.replicate (5 - (lg_sl [.ref (ad 86), .int p0, .int p1]).length) Slot.unset).toArray = ls at hl ⊢
  have hl : lv_has ls 5 [(0, .ref (ad 86)), (1, .int p0), (2, .int p1)] := hl
  clear hE
  unfold f_X11_isWord at hf
  suffices hgo : ∀ (H : Heap) (locs : List Loc), va_P D vwCl (wd N ad C) H → va_S (An s.heap.size) s.heap H locs → W p l e (headSpec wsX11_isWord rmX11_isWord).room s m args below meth c H locs 0 0 QQ (F0 m 0 ls []) from hgo s.heap [] hP hS
  clear hS hP
  intro H locs hP hS
  refine lv_aload_n hx hb dX11_isWord_0 rfl (lv_at hl 0 rfl) ?_
  refine r_get (own := RX11) (T := TX11) (n := 32) (ci := 11) (v := .int m_end) hx hb hts nX11 hown hK hP (by omega) h86 rfl 24 (by decide) k0 rfl dX11_isWord_1 ?_
  refine lv_aload_n hx hb dX11_isWord_4 rfl (lv_at hl 0 rfl) ?_
  refine r_get (own := RX11) (T := TX11) (n := 32) (ci := 11) (v := .int m_pl) hx hb hts nX11 hown hK hP (by omega) h86 rfl 23 (by decide) k2 rfl dX11_isWord_5 ?_
  refine lv_isub hx hb dX11_isWord_8 ?_
  refine lv_iload_n hx hb dX11_isWord_9 rfl (lv_at hl 2 rfl) ?_
  obtain ⟨q1, htq1, hf⟩ := bd_e hf
  have jnq1 : ∀ (C : Nat → va_E) (H : Heap) (locs : List Loc) (ls : Array Slot), va_P D vwCl (wd N ad C) H → va_S (An s.heap.size) s.heap H locs → C 86 = .inr (11, [.ref (ad 87), .int m_len, .ref (ad 88), .int m_rm, .int m_there, .ref (ad 89), .ref (ad 90), .ref (ad 91), .ref (ad 92), .ref (ad 93), .ref (ad 94), .ref (ad 95), .ref (ad 96), .ref (ad 97), .ref (ad 98), .ref (ad 99), .ref (ad 100), .ref (ad 101), .int m_lift, .int m_blank, .ref (ad 102), .int m_fm, .int m_at, .int m_pl, .int m_end, .ref (ad 103), .ref (ad 104), .ref (ad 105), .ref (ad 106), .ref (ad 107), .ref (ad 108), .int m_seed]) → C 87 = aI g 200 m_text → lv_has ls 5 [(0, .ref (ad 86)), (1, .int p0), (2, .int p1)] → W p l e (headSpec wsX11_isWord rmX11_isWord).room s m args below meth c H locs 0 0 QQ (F0 m 18 ls [.int q1]) := by
    intro C H locs ls hP hS h86 h87 hl
    refine lv_istore_n (lv' := [(3, .int q1), (0, .ref (ad 86)), (1, .int p0), (2, .int p1)]) hx hb dX11_isWord_18 rfl hl (by decide) rfl (fun ls hl => ?_)
    refine lv_iconst (v := 0) hx hb dX11_isWord_19 (by decide) ?_
    refine lv_istore (lv' := [(4, .int 0), (3, .int q1), (0, .ref (ad 86)), (1, .int p0), (2, .int p1)]) hx hb dX11_isWord_20 hl (by decide) rfl (fun ls hl => ?_)
    have key22 : ∀ (ko : Int32 → Int32 → Option (Int32)), (∀ (x4 : Int32) (x5 : Int32) (C : Nat → va_E) (H : Heap) (locs : List Loc) (ls : Array Slot), va_P D vwCl (wd N ad C) H → va_S (An s.heap.size) s.heap H locs → C 86 = .inr (11, [.ref (ad 87), .int m_len, .ref (ad 88), .int m_rm, .int m_there, .ref (ad 89), .ref (ad 90), .ref (ad 91), .ref (ad 92), .ref (ad 93), .ref (ad 94), .ref (ad 95), .ref (ad 96), .ref (ad 97), .ref (ad 98), .ref (ad 99), .ref (ad 100), .ref (ad 101), .int m_lift, .int m_blank, .ref (ad 102), .int m_fm, .int m_at, .int m_pl, .int m_end, .ref (ad 103), .ref (ad 104), .ref (ad 105), .ref (ad 106), .ref (ad 107), .ref (ad 108), .int m_seed]) → C 87 = aI g 200 m_text → lv_has ls 5 [(0, .ref (ad 86)), (1, .int p0), (2, .int p1), (3, .int x4), (4, .int x5)] → ko x4 x5 = some rr → W p l e (headSpec wsX11_isWord rmX11_isWord).room s m args below meth c H locs 0 0 QQ (F0 m 71 ls [])) → ∀ (n : Nat) (x2 : Int32) (x3 : Int32) (C : Nat → va_E) (H : Heap) (locs : List Loc) (ls : Array Slot), va_P D vwCl (wd N ad C) H → va_S (An s.heap.size) s.heap H locs → C 86 = .inr (11, [.ref (ad 87), .int m_len, .ref (ad 88), .int m_rm, .int m_there, .ref (ad 89), .ref (ad 90), .ref (ad 91), .ref (ad 92), .ref (ad 93), .ref (ad 94), .ref (ad 95), .ref (ad 96), .ref (ad 97), .ref (ad 98), .ref (ad 99), .ref (ad 100), .ref (ad 101), .int m_lift, .int m_blank, .ref (ad 102), .int m_fm, .int m_at, .int m_pl, .int m_end, .ref (ad 103), .ref (ad 104), .ref (ad 105), .ref (ad 106), .ref (ad 107), .ref (ad 108), .int m_seed]) → C 87 = aI g 200 m_text → lv_has ls 5 [(0, .ref (ad 86)), (1, .int p0), (2, .int p1), (3, .int x2), (4, .int x3)] → LX11_isWord_22 p0 p1 m_text m_pl ko n x2 x3 = some rr → W p l e (headSpec wsX11_isWord rmX11_isWord).room s m args below meth c H locs 0 0 QQ (F0 m 22 ls []) := by
      intro ko hko n
      induction n with
      | zero =>
        intro x2 x3 C H locs ls hP hS h86 h87 hl hf
        rw [LX11_isWord_22_z] at hf
        cases hf
      | succ n ih =>
        intro x2 x3 C H locs ls hP hS h86 h87 hl hf
        rw [LX11_isWord_22_s] at hf
        refine lv_iload_n hx hb dX11_isWord_22 rfl (lv_at hl 3 rfl) ?_
        refine lv_if_eq (tgt := 71) hx hb dX11_isWord_23 (by decide) (fun c6 => ?_) (fun c6 => ?_)
        · have hf := it_e c6 hf
          exact hko x2 x3 C H locs ls hP hS h86 h87 (lv_sub hl [0, 1, 2, 3, 4] rfl) hf
        · have hf := ie_e c6 hf
          refine lv_iload hx hb dX11_isWord_26 (lv_at hl 4 rfl) ?_
          refine lv_iload_n hx hb dX11_isWord_28 rfl (lv_at hl 2 rfl) ?_
          refine lv_icmp_ge (tgt := 71) hx hb dX11_isWord_29 (by decide) (fun c7 => ?_) (fun c7 => ?_)
          · have hf := it_e c7 hf
            exact hko x2 x3 C H locs ls hP hS h86 h87 (lv_sub hl [0, 1, 2, 3, 4] rfl) hf
          · have hf := ie_e c7 hf
            refine lv_aload_n hx hb dX11_isWord_32 rfl (lv_at hl 0 rfl) ?_
            refine r_get (own := RX11) (T := TX11) (n := 32) (ci := 11) (v := .ref (ad 87)) hx hb hts nX11 hown hK hP (by omega) h86 rfl 0 (by decide) k3 rfl dX11_isWord_33 ?_
            refine lv_aload_n hx hb dX11_isWord_36 rfl (lv_at hl 0 rfl) ?_
            refine r_get (own := RX11) (T := TX11) (n := 32) (ci := 11) (v := .int m_pl) hx hb hts nX11 hown hK hP (by omega) h86 rfl 23 (by decide) k2 rfl dX11_isWord_37 ?_
            refine lv_iload hx hb dX11_isWord_40 (lv_at hl 4 rfl) ?_
            refine lv_iadd hx hb dX11_isWord_42 ?_
            obtain ⟨i9, x8, ex8, hf⟩ := ri_e hf
            refine r_iald hx hb hK hP (by omega) h87 i9 dX11_isWord_43 ex8 ?_
            refine lv_bipush (v := 96) hx hb dX11_isWord_44 (by decide) ?_
            refine lv_iload_n hx hb dX11_isWord_46 rfl (lv_at hl 1 rfl) ?_
            refine lv_iconst (v := 5) hx hb dX11_isWord_47 (by decide) ?_
            refine lv_iload hx hb dX11_isWord_48 (lv_at hl 4 rfl) ?_
            refine lv_imul hx hb dX11_isWord_50 ?_
            refine lv_ishr hx hb dX11_isWord_51 ?_
            refine lv_bipush (v := 31) hx hb dX11_isWord_52 (by decide) ?_
            refine lv_iand hx hb dX11_isWord_54 ?_
            refine lv_iadd hx hb dX11_isWord_55 ?_
            obtain ⟨q10, htq10, hf⟩ := bd_e hf
            have jnq10 : ∀ (C : Nat → va_E) (H : Heap) (locs : List Loc) (ls : Array Slot), va_P D vwCl (wd N ad C) H → va_S (An s.heap.size) s.heap H locs → C 86 = .inr (11, [.ref (ad 87), .int m_len, .ref (ad 88), .int m_rm, .int m_there, .ref (ad 89), .ref (ad 90), .ref (ad 91), .ref (ad 92), .ref (ad 93), .ref (ad 94), .ref (ad 95), .ref (ad 96), .ref (ad 97), .ref (ad 98), .ref (ad 99), .ref (ad 100), .ref (ad 101), .int m_lift, .int m_blank, .ref (ad 102), .int m_fm, .int m_at, .int m_pl, .int m_end, .ref (ad 103), .ref (ad 104), .ref (ad 105), .ref (ad 106), .ref (ad 107), .ref (ad 108), .int m_seed]) → C 87 = aI g 200 m_text → lv_has ls 5 [(0, .ref (ad 86)), (1, .int p0), (2, .int p1), (3, .int x2), (4, .int x3)] → W p l e (headSpec wsX11_isWord rmX11_isWord).room s m args below meth c H locs 0 0 QQ (F0 m 64 ls [.int q10]) := by
              intro C H locs ls hP hS h86 h87 hl
              refine lv_istore_n (lv' := [(3, .int q10), (0, .ref (ad 86)), (1, .int p0), (2, .int p1), (4, .int x3)]) hx hb dX11_isWord_64 rfl hl (by decide) rfl (fun ls hl => ?_)
              obtain ⟨x11, ex11, hf⟩ := lt_e hf
              refine lv_iinc (v := x11) (lv' := [(4, .int x11), (3, .int q10), (0, .ref (ad 86)), (1, .int p0), (2, .int p1)]) hx hb dX11_isWord_65 hl (k := 4) rfl (by rw [ex11]; rfl) (by decide) rfl (fun ls hl => ?_)
              refine lv_goto (tgt := 22) hx hb dX11_isWord_68 (by decide) ?_
              exact ih q10 x11 C H locs ls hP hS h86 h87 (lv_sub hl [2, 3, 4, 1, 0] rfl) hf
            clear hf
            have hf := htq10
            refine lv_icmp_ne (tgt := 63) hx hb dX11_isWord_56 (by decide) (fun c12 => ?_) (fun c12 => ?_)
            · have hf := ie_e c12 hf
              refine lv_iconst (v := 0) hx hb dX11_isWord_63 (by decide) ?_
              obtain rfl := Option.some.inj hf
              exact jnq10 C H locs ls hP hS h86 h87 (lv_sub hl [0, 1, 2, 3, 4] rfl)
            · have hf := it_e c12 hf
              refine lv_iconst (v := 1) hx hb dX11_isWord_59 (by decide) ?_
              refine lv_goto (tgt := 64) hx hb dX11_isWord_60 (by decide) ?_
              obtain rfl := Option.some.inj hf
              exact jnq10 C H locs ls hP hS h86 h87 (lv_sub hl [0, 1, 2, 3, 4] rfl)
    refine key22 _ (fun x4 x5 C H locs ls hP hS h86 h87 hl hf => ?_) FU q1 0 C H locs ls hP hS h86 h87 (lv_sub hl [2, 3, 4, 1, 0] rfl) hf
    refine lv_iload_n hx hb dX11_isWord_71 rfl (lv_at hl 3 rfl) ?_
    obtain ⟨z13, hf⟩ := bq_e hf
    obtain rfl := Option.some.inj hf
    rw [← hQ]
    exact e_zR hx hb hr rfl z13 hS hlocks dX11_isWord_72
  clear hf
  have hf := htq1
  refine lv_icmp_ne (tgt := 17) hx hb dX11_isWord_10 (by decide) (fun c14 => ?_) (fun c14 => ?_)
  · have hf := ie_e c14 hf
    refine lv_iconst (v := 0) hx hb dX11_isWord_17 (by decide) ?_
    obtain rfl := Option.some.inj hf
    exact jnq1 C H locs ls hP hS h86 h87 (lv_sub hl [0, 1, 2] rfl)
  · have hf := it_e c14 hf
    refine lv_iconst (v := 1) hx hb dX11_isWord_13 (by decide) ?_
    refine lv_goto (tgt := 18) hx hb dX11_isWord_14 (by decide) ?_
    obtain rfl := Option.some.inj hf
    exact jnq1 C H locs ls hP hS h86 h87 (lv_sub hl [0, 1, 2] rfl)

def LX11_reads_51 (m_text : Nat → Int32) (m_end : Int32) (ko : Int32 → Int32 → Option (Int32 × (Nat → Int32) × Int32 × Int32 × Int32)) : Nat → Int32 → Int32 → Option (Int32 × (Nat → Int32) × Int32 × Int32 × Int32)
  | 0, _, _ => none
  | n + 1, x7, x8 =>
    if m_end ≤ x8 then
      ko x7 x8
    else
      ri m_text 200 (x8) fun x12 =>
      lt ((((10 * x7) + x12) - 48) : Int32) fun x14 =>
      lt (x8 + 1 : Int32) fun x15 =>
      LX11_reads_51 m_text m_end ko n x14 x15
theorem LX11_reads_51_z (m_text : Nat → Int32) (m_end : Int32) (ko : Int32 → Int32 → Option (Int32 × (Nat → Int32) × Int32 × Int32 × Int32)) (x7 : Int32) (x8 : Int32) : LX11_reads_51 m_text m_end ko 0 x7 x8 = none := rfl
theorem LX11_reads_51_s (m_text : Nat → Int32) (m_end : Int32) (ko : Int32 → Int32 → Option (Int32 × (Nat → Int32) × Int32 × Int32 × Int32)) (n : Nat) (x7 : Int32) (x8 : Int32) : LX11_reads_51 m_text m_end ko (n + 1) x7 x8 =
    if m_end ≤ x8 then
      ko x7 x8
    else
      ri m_text 200 (x8) fun x12 =>
      lt ((((10 * x7) + x12) - 48) : Int32) fun x14 =>
      lt (x8 + 1 : Int32) fun x15 =>
      LX11_reads_51 m_text m_end ko n x14 x15 := rfl
def f_X11_reads (p0 : Int32) (p1 : Int32) (p2 : Int32) (m_text : Nat → Int32) (m_read : Nat → Int32) (m_len : Int32) (m_rm : Int32) (m_at : Int32) (m_pl : Int32) (m_end : Int32) : Option (Int32 × (Nat → Int32) × Int32 × Int32 × Int32) :=
  if m_pl = m_len then
    some (0, m_read, m_at, m_pl, m_end)
  else
    ri m_text 200 (m_pl) fun x2 =>
    (f_X11_sort x2).bind fun q4 =>
    if q4 = 2 then
      if (m_end - m_pl) ≤ 4 then
        LX11_reads_51 m_text m_end (fun x9 x10 =>
          (f_X11_in (Int32.toInt64 x9) (Int32.toInt64 p1) (Int32.toInt64 p2)).bind fun q16 =>
          if q16 = 0 then
            some (0, m_read, m_at, m_pl, m_end)
          else
            wi m_read 54 ((((6 * m_rm) + 1) + p0)) (x9) fun f18 =>
            (f_X11_token m_text m_len m_at m_pl m_end).bind fun q20 =>
            some (1, f18, q20.1, q20.2.1, q20.2.2)) FU 0 m_pl
      else
        some (0, m_read, m_at, m_pl, m_end)
    else
      some (0, m_read, m_at, m_pl, m_end)
abbrev rmX11_reads : Room := { frames := 2, cells := 0, slots := 0, locals := 40 }
set_option maxHeartbeats 4000000 in
set_option maxRecDepth 100000 in
theorem c_X11_reads {l : Launch} {D : va_G} {g : Nat → ClassId} {N : Nat} {ad : Nat → Nat} {C : Nat → va_E} {sz : Nat} {m_len : Int32} {m_rm : Int32} {m_there : Int32} {m_lift : Int32} {m_blank : Int32} {m_fm : Int32} {m_at : Int32} {m_pl : Int32} {m_end : Int32} {m_seed : Int32} {m_text : Nat → Int32} {m_read : Nat → Int32} {p0 : Int32} {p1 : Int32} {p2 : Int32} {rr : Int32 × (Nat → Int32) × Int32 × Int32 × Int32} (hN : 109 ≤ N) (hI : Inj N ad) (h86 : C 86 = .inr (11, [.ref (ad 87), .int m_len, .ref (ad 88), .int m_rm, .int m_there, .ref (ad 89), .ref (ad 90), .ref (ad 91), .ref (ad 92), .ref (ad 93), .ref (ad 94), .ref (ad 95), .ref (ad 96), .ref (ad 97), .ref (ad 98), .ref (ad 99), .ref (ad 100), .ref (ad 101), .int m_lift, .int m_blank, .ref (ad 102), .int m_fm, .int m_at, .int m_pl, .int m_end, .ref (ad 103), .ref (ad 104), .ref (ad 105), .ref (ad 106), .ref (ad 107), .ref (ad 108), .int m_seed])) (h87 : C 87 = aI g 200 m_text) (h88 : C 88 = aI g 54 m_read) (hf : f_X11_reads p0 p1 p2 m_text m_read m_len m_rm m_at m_pl m_end = some rr) : Met l yX11_reads wsX11_reads rmX11_reads (PcW D g N ad C sz [.ref (ad 86), .int p0, .int p1, .int p2]) (QiW D N ad sz bz rr.1 (fun C' => (∀ i : Nat, i ≠ 86 ∧ i ≠ 88 → C' i = C i) ∧ (C' 86 = .inr (11, [.ref (ad 87), .int m_len, .ref (ad 88), .int m_rm, .int m_there, .ref (ad 89), .ref (ad 90), .ref (ad 91), .ref (ad 92), .ref (ad 93), .ref (ad 94), .ref (ad 95), .ref (ad 96), .ref (ad 97), .ref (ad 98), .ref (ad 99), .ref (ad 100), .ref (ad 101), .int m_lift, .int m_blank, .ref (ad 102), .int m_fm, .int rr.2.2.1, .int rr.2.2.2.1, .int rr.2.2.2.2, .ref (ad 103), .ref (ad 104), .ref (ad 105), .ref (ad 106), .ref (ad 107), .ref (ad 108), .int m_seed])) ∧ (C' 88 = aI g 54 rr.2.1))) 0 0 (Aw N ad sz) := by
  refine Met.ofW (cc := cX11_reads) (maxL := 6) (ret := (some .boolean)) (by decide) rfl ?_
  intro p e s m args below meth c s₁ B hml hv
  obtain ⟨hav, hsz, hK, hP⟩ := hv
  subst hsz
  have hx := B.exec
  have hb := B.bytes
  have hr := B.returns
  have hts := atoms_spec (ws := wsX11_reads) B.pre
  have hown : s.vm.findClass RX11 = some m.cls := findClass_of_methodNamed B.named
  have hlocks := B.notSynchronized
  generalize hQ : MQ below (QiW D N ad s.heap.size bz rr.1 (fun C' => (∀ i : Nat, i ≠ 86 ∧ i ≠ 88 → C' i = C i) ∧ (C' 86 = .inr (11, [.ref (ad 87), .int m_len, .ref (ad 88), .int m_rm, .int m_there, .ref (ad 89), .ref (ad 90), .ref (ad 91), .ref (ad 92), .ref (ad 93), .ref (ad 94), .ref (ad 95), .ref (ad 96), .ref (ad 97), .ref (ad 98), .ref (ad 99), .ref (ad 100), .ref (ad 101), .int m_lift, .int m_blank, .ref (ad 102), .int m_fm, .int rr.2.2.1, .int rr.2.2.2.1, .int rr.2.2.2.2, .ref (ad 103), .ref (ad 104), .ref (ad 105), .ref (ad 106), .ref (ad 107), .ref (ad 108), .int m_seed])) ∧ (C' 88 = aI g 54 rr.2.1))) args s 0 0 (Aw N ad s.heap.size) = QQ
  have hS : va_S (Aw N ad s.heap.size) s.heap s.heap [] := va_S.rf
  have hA : ∀ q, s.heap.size ≤ q → (Aw N ad s.heap.size) q := fun q h => Or.inr h
  have hAd : ∀ j : Nat, j < N → (Aw N ad s.heap.size) (ad j) := fun j h => Or.inl ⟨j, h, rfl⟩
  obtain ⟨C0, hC0⟩ : ∃ C0 : Nat → va_E, C0 = C := ⟨_, rfl⟩
  have hag : ∀ i : Nat, i ≠ 86 ∧ i ≠ 88 → C i = C0 i := fun i _ => by rw [hC0]
  rw [← hC0] at hQ
  have k0 := hts (.fieldLink RX11 101 "UpDrainModel" "place" "I") (List.mem_of_getElem? (i := 1) rfl)
  have nX11 : ∀ w ∈ u_ws RX11 TX11 32, w ∈ wsX11_reads := fun _ h => List.mem_cons_of_mem _ (List.mem_append_right _ h)
  have k2 := hts (.fieldLink RX11 93 "UpDrainModel" "length" "I") (List.mem_of_getElem? (i := 2) rfl)
  have k3 := hts (.fieldLink RX11 7 "UpDrainModel" "text" "[I") (List.mem_of_getElem? (i := 3) rfl)
  have k4 := hts (.fieldLink RX11 108 "UpDrainModel" "end" "I") (List.mem_of_getElem? (i := 4) rfl)
  have k5 := hts (.fieldLink RX11 13 "UpDrainModel" "read" "[I") (List.mem_of_getElem? (i := 5) rfl)
  have k6 := hts (.fieldLink RX11 111 "UpDrainModel" "readMany" "I") (List.mem_of_getElem? (i := 6) rfl)
  have hE := lg_entry_eq m [.ref (ad 86), .int p0, .int p1, .int p2] 6
  rw [← hav] at hE
  rw [hE]
  have hl := lv_entry [.ref (ad 86), .int p0, .int p1, .int p2] (n := 6) (Nat.le_of_ble_eq_true rfl)
  generalize (lg_sl [.ref (ad 86), .int p0, .int p1, .int p2] ++ List.replicate (6 - (lg_sl [.ref (ad 86), .int p0, .int p1, .int p2]).length) Slot.unset).toArray = ls at hl ⊢
  have hl : lv_has ls 6 [(0, .ref (ad 86)), (1, .int p0), (2, .int p1), (3, .int p2)] := hl
  clear hE
  unfold f_X11_reads at hf
  suffices hgo : ∀ (H : Heap) (locs : List Loc), va_P D vwCl (wd N ad C) H → va_S (Aw N ad s.heap.size) s.heap H locs → W p l e (headSpec wsX11_reads rmX11_reads).room s m args below meth c H locs 0 0 QQ (F0 m 0 ls []) from hgo s.heap [] hP hS
  clear hS hP
  intro H locs hP hS
  refine lv_aload_n hx hb dX11_reads_0 rfl (lv_at hl 0 rfl) ?_
  refine r_get (own := RX11) (T := TX11) (n := 32) (ci := 11) (v := .int m_pl) hx hb hts nX11 hown hK hP (by omega) h86 rfl 23 (by decide) k0 rfl dX11_reads_1 ?_
  refine lv_aload_n hx hb dX11_reads_4 rfl (lv_at hl 0 rfl) ?_
  refine r_get (own := RX11) (T := TX11) (n := 32) (ci := 11) (v := .int m_len) hx hb hts nX11 hown hK hP (by omega) h86 rfl 1 (by decide) k2 rfl dX11_reads_5 ?_
  refine lv_icmp_eq (tgt := 40) hx hb dX11_reads_8 (by decide) (fun c1 => ?_) (fun c1 => ?_)
  · have hf := it_e c1 hf
    refine lv_iconst (v := 0) hx hb dX11_reads_40 (by decide) ?_
    obtain rfl := Option.some.inj hf
    rw [← hQ]
    exact e_zW hx hb hr rfl bz0 hP hS ⟨hag, h86, h88⟩ hlocks dX11_reads_41
  · have hf := ie_e c1 hf
    refine lv_aload_n hx hb dX11_reads_11 rfl (lv_at hl 0 rfl) ?_
    refine r_get (own := RX11) (T := TX11) (n := 32) (ci := 11) (v := .ref (ad 87)) hx hb hts nX11 hown hK hP (by omega) h86 rfl 0 (by decide) k3 rfl dX11_reads_12 ?_
    refine lv_aload_n hx hb dX11_reads_15 rfl (lv_at hl 0 rfl) ?_
    refine r_get (own := RX11) (T := TX11) (n := 32) (ci := 11) (v := .int m_pl) hx hb hts nX11 hown hK hP (by omega) h86 rfl 23 (by decide) k0 rfl dX11_reads_16 ?_
    obtain ⟨i3, x2, ex2, hf⟩ := ri_e hf
    refine r_iald hx hb hK hP (by omega) h87 i3 dX11_reads_19 ex2 ?_
    obtain ⟨q4, hq4, hf⟩ := bd_e hf
    refine k_iR (va_runS (As := [.int x2]) (rest := []) ⟨hx, hb, hml, hown, hts⟩ (c_X11_sort (l := l) (sz := H.size) (p0 := x2) hq4) (va_cwS 1 hts gX11_reads_X11_sort rfl rfl rfl (by decide +kernel) ⟨Nat.le_of_ble_eq_true rfl, Nat.le_of_ble_eq_true rfl⟩) preS0 rfl rfl hl.1 rfl (lv_room (Nat.le_of_ble_eq_true rfl)) dX11_reads_20 ⟨Nat.le_of_ble_eq_true rfl, Nat.le_of_ble_eq_true rfl⟩) hA hP hS (fun H locs hP hS hbz_q4 => ?_)
    refine lv_iconst (v := 2) hx hb dX11_reads_23 (by decide) ?_
    refine lv_icmp_ne (tgt := 40) hx hb dX11_reads_24 (by decide) (fun c5 => ?_) (fun c5 => ?_)
    · have hf := ie_e c5 hf
      refine lv_iconst (v := 0) hx hb dX11_reads_40 (by decide) ?_
      obtain rfl := Option.some.inj hf
      rw [← hQ]
      exact e_zW hx hb hr rfl bz0 hP hS ⟨hag, h86, h88⟩ hlocks dX11_reads_41
    · have hf := it_e c5 hf
      refine lv_aload_n hx hb dX11_reads_27 rfl (lv_at hl 0 rfl) ?_
      refine r_get (own := RX11) (T := TX11) (n := 32) (ci := 11) (v := .int m_end) hx hb hts nX11 hown hK hP (by omega) h86 rfl 24 (by decide) k4 rfl dX11_reads_28 ?_
      refine lv_aload_n hx hb dX11_reads_31 rfl (lv_at hl 0 rfl) ?_
      refine r_get (own := RX11) (T := TX11) (n := 32) (ci := 11) (v := .int m_pl) hx hb hts nX11 hown hK hP (by omega) h86 rfl 23 (by decide) k0 rfl dX11_reads_32 ?_
      refine lv_isub hx hb dX11_reads_35 ?_
      refine lv_iconst (v := 4) hx hb dX11_reads_36 (by decide) ?_
      refine lv_icmp_le (tgt := 42) hx hb dX11_reads_37 (by decide) (fun c6 => ?_) (fun c6 => ?_)
      · have hf := it_e c6 hf
        refine lv_iconst (v := 0) hx hb dX11_reads_42 (by decide) ?_
        refine lv_istore (lv' := [(4, .int 0), (0, .ref (ad 86)), (1, .int p0), (2, .int p1), (3, .int p2)]) hx hb dX11_reads_43 hl (by decide) rfl (fun ls hl => ?_)
        refine lv_aload_n hx hb dX11_reads_45 rfl (lv_at hl 1 rfl) ?_
        refine r_get (own := RX11) (T := TX11) (n := 32) (ci := 11) (v := .int m_pl) hx hb hts nX11 hown hK hP (by omega) h86 rfl 23 (by decide) k0 rfl dX11_reads_46 ?_
        refine lv_istore (lv' := [(5, .int m_pl), (4, .int 0), (0, .ref (ad 86)), (1, .int p0), (2, .int p1), (3, .int p2)]) hx hb dX11_reads_49 hl (by decide) rfl (fun ls hl => ?_)
        have key51 : ∀ (ko : Int32 → Int32 → Option (Int32 × (Nat → Int32) × Int32 × Int32 × Int32)), (∀ (x9 : Int32) (x10 : Int32) (C : Nat → va_E) (H : Heap) (locs : List Loc) (ls : Array Slot), va_P D vwCl (wd N ad C) H → va_S (Aw N ad s.heap.size) s.heap H locs → (∀ i : Nat, i ≠ 86 ∧ i ≠ 88 → C i = C0 i) → C 86 = .inr (11, [.ref (ad 87), .int m_len, .ref (ad 88), .int m_rm, .int m_there, .ref (ad 89), .ref (ad 90), .ref (ad 91), .ref (ad 92), .ref (ad 93), .ref (ad 94), .ref (ad 95), .ref (ad 96), .ref (ad 97), .ref (ad 98), .ref (ad 99), .ref (ad 100), .ref (ad 101), .int m_lift, .int m_blank, .ref (ad 102), .int m_fm, .int m_at, .int m_pl, .int m_end, .ref (ad 103), .ref (ad 104), .ref (ad 105), .ref (ad 106), .ref (ad 107), .ref (ad 108), .int m_seed]) → C 87 = aI g 200 m_text → C 88 = aI g 54 m_read → lv_has ls 6 [(0, .ref (ad 86)), (1, .int p0), (2, .int p1), (3, .int p2), (4, .int x9), (5, .int x10)] → ko x9 x10 = some rr → W p l e (headSpec wsX11_reads rmX11_reads).room s m args below meth c H locs 0 0 QQ (F0 m 84 ls [])) → ∀ (n : Nat) (x7 : Int32) (x8 : Int32) (C : Nat → va_E) (H : Heap) (locs : List Loc) (ls : Array Slot), va_P D vwCl (wd N ad C) H → va_S (Aw N ad s.heap.size) s.heap H locs → (∀ i : Nat, i ≠ 86 ∧ i ≠ 88 → C i = C0 i) → C 86 = .inr (11, [.ref (ad 87), .int m_len, .ref (ad 88), .int m_rm, .int m_there, .ref (ad 89), .ref (ad 90), .ref (ad 91), .ref (ad 92), .ref (ad 93), .ref (ad 94), .ref (ad 95), .ref (ad 96), .ref (ad 97), .ref (ad 98), .ref (ad 99), .ref (ad 100), .ref (ad 101), .int m_lift, .int m_blank, .ref (ad 102), .int m_fm, .int m_at, .int m_pl, .int m_end, .ref (ad 103), .ref (ad 104), .ref (ad 105), .ref (ad 106), .ref (ad 107), .ref (ad 108), .int m_seed]) → C 87 = aI g 200 m_text → C 88 = aI g 54 m_read → lv_has ls 6 [(0, .ref (ad 86)), (1, .int p0), (2, .int p1), (3, .int p2), (4, .int x7), (5, .int x8)] → LX11_reads_51 m_text m_end ko n x7 x8 = some rr → W p l e (headSpec wsX11_reads rmX11_reads).room s m args below meth c H locs 0 0 QQ (F0 m 51 ls []) := by
          intro ko hko n
          induction n with
          | zero =>
            intro x7 x8 C H locs ls hP hS hag h86 h87 h88 hl hf
            rw [LX11_reads_51_z] at hf
            cases hf
          | succ n ih =>
            intro x7 x8 C H locs ls hP hS hag h86 h87 h88 hl hf
            rw [LX11_reads_51_s] at hf
            refine lv_iload hx hb dX11_reads_51 (lv_at hl 5 rfl) ?_
            refine lv_aload_n hx hb dX11_reads_53 rfl (lv_at hl 0 rfl) ?_
            refine r_get (own := RX11) (T := TX11) (n := 32) (ci := 11) (v := .int m_end) hx hb hts nX11 hown hK hP (by omega) h86 rfl 24 (by decide) k4 rfl dX11_reads_54 ?_
            refine lv_icmp_ge (tgt := 84) hx hb dX11_reads_57 (by decide) (fun c11 => ?_) (fun c11 => ?_)
            · have hf := it_e c11 hf
              exact hko x7 x8 C H locs ls hP hS hag h86 h87 h88 (lv_sub hl [0, 1, 2, 3, 4, 5] rfl) hf
            · have hf := ie_e c11 hf
              refine lv_bipush (v := 10) hx hb dX11_reads_60 (by decide) ?_
              refine lv_iload hx hb dX11_reads_62 (lv_at hl 4 rfl) ?_
              refine lv_imul hx hb dX11_reads_64 ?_
              refine lv_aload_n hx hb dX11_reads_65 rfl (lv_at hl 0 rfl) ?_
              refine r_get (own := RX11) (T := TX11) (n := 32) (ci := 11) (v := .ref (ad 87)) hx hb hts nX11 hown hK hP (by omega) h86 rfl 0 (by decide) k3 rfl dX11_reads_66 ?_
              refine lv_iload hx hb dX11_reads_69 (lv_at hl 5 rfl) ?_
              obtain ⟨i13, x12, ex12, hf⟩ := ri_e hf
              refine r_iald hx hb hK hP (by omega) h87 i13 dX11_reads_71 ex12 ?_
              refine lv_iadd hx hb dX11_reads_72 ?_
              refine lv_bipush (v := 48) hx hb dX11_reads_73 (by decide) ?_
              refine lv_isub hx hb dX11_reads_75 ?_
              obtain ⟨x14, ex14, hf⟩ := lt_e hf
              refine tp_i ex14 ?_
              refine lv_istore (lv' := [(4, .int x14), (0, .ref (ad 86)), (1, .int p0), (2, .int p1), (3, .int p2), (5, .int x8)]) hx hb dX11_reads_76 hl (by decide) rfl (fun ls hl => ?_)
              obtain ⟨x15, ex15, hf⟩ := lt_e hf
              refine lv_iinc (v := x15) (lv' := [(5, .int x15), (4, .int x14), (0, .ref (ad 86)), (1, .int p0), (2, .int p1), (3, .int p2)]) hx hb dX11_reads_78 hl (k := 5) rfl (by rw [ex15]; rfl) (by decide) rfl (fun ls hl => ?_)
              refine lv_goto (tgt := 51) hx hb dX11_reads_81 (by decide) ?_
              exact ih x14 x15 C H locs ls hP hS hag h86 h87 h88 (lv_sub hl [2, 3, 4, 5, 1, 0] rfl) hf
        refine key51 _ (fun x9 x10 C H locs ls hP hS hag h86 h87 h88 hl hf => ?_) FU 0 m_pl C H locs ls hP hS hag h86 h87 h88 (lv_sub hl [2, 3, 4, 5, 1, 0] rfl) hf
        refine lv_iload hx hb dX11_reads_84 (lv_at hl 4 rfl) ?_
        refine lv_i2l hx hb dX11_reads_86 rfl ?_
        refine lv_iload_n hx hb dX11_reads_87 rfl (lv_at hl 2 rfl) ?_
        refine lv_i2l hx hb dX11_reads_88 rfl ?_
        refine lv_iload_n hx hb dX11_reads_89 rfl (lv_at hl 3 rfl) ?_
        refine lv_i2l hx hb dX11_reads_90 rfl ?_
        obtain ⟨q16, hq16, hf⟩ := bd_e hf
        refine k_iR (va_runS (As := [.long (Int32.toInt64 x9), .long (Int32.toInt64 p1), .long (Int32.toInt64 p2)]) (rest := []) ⟨hx, hb, hml, hown, hts⟩ (c_X11_in (l := l) (sz := H.size) (p0 := (Int32.toInt64 x9)) (p1 := (Int32.toInt64 p1)) (p2 := (Int32.toInt64 p2)) hq16) (va_cwS 3 hts gX11_reads_X11_in rfl rfl rfl (by decide +kernel) ⟨Nat.le_of_ble_eq_true rfl, Nat.le_of_ble_eq_true rfl⟩) preS0 rfl rfl hl.1 rfl (lv_room (Nat.le_of_ble_eq_true rfl)) dX11_reads_91 ⟨Nat.le_of_ble_eq_true rfl, Nat.le_of_ble_eq_true rfl⟩) hA hP hS (fun H locs hP hS hbz_q16 => ?_)
        refine lv_if_ne (tgt := 99) hx hb dX11_reads_94 (by decide) (fun c17 => ?_) (fun c17 => ?_)
        · have hf := ie_e c17 hf
          refine lv_aload_n hx hb dX11_reads_99 rfl (lv_at hl 0 rfl) ?_
          refine r_get (own := RX11) (T := TX11) (n := 32) (ci := 11) (v := .ref (ad 88)) hx hb hts nX11 hown hK hP (by omega) h86 rfl 2 (by decide) k5 rfl dX11_reads_100 ?_
          refine lv_bipush (v := 6) hx hb dX11_reads_103 (by decide) ?_
          refine lv_aload_n hx hb dX11_reads_105 rfl (lv_at hl 0 rfl) ?_
          refine r_get (own := RX11) (T := TX11) (n := 32) (ci := 11) (v := .int m_rm) hx hb hts nX11 hown hK hP (by omega) h86 rfl 3 (by decide) k6 rfl dX11_reads_106 ?_
          refine lv_imul hx hb dX11_reads_109 ?_
          refine lv_iconst (v := 1) hx hb dX11_reads_110 (by decide) ?_
          refine lv_iadd hx hb dX11_reads_111 ?_
          refine lv_iload_n hx hb dX11_reads_112 rfl (lv_at hl 1 rfl) ?_
          refine lv_iadd hx hb dX11_reads_113 ?_
          refine lv_iload hx hb dX11_reads_114 (lv_at hl 4 rfl) ?_
          obtain ⟨i19, f18, ef18, hf⟩ := wi_e hf
          refine r_iast hx hb hK hI hAd hP hS (by omega) h88 i19 dX11_reads_116 ef18 (fun C H locs hP hS he hn => ?_)
          have hag : ∀ i : Nat, i ≠ 86 ∧ i ≠ 88 → C i = C0 i := fun i h => (he i (by omega)).trans (hag i h)
          have h86 := (he 86 (by decide)).trans h86
          have h87 := (he 87 (by decide)).trans h87
          have h88 : C 88 = aI g 54 f18 := hn
          refine lv_aload_n hx hb dX11_reads_117 rfl (lv_at hl 0 rfl) ?_
          obtain ⟨q20, hq20, hf⟩ := bd_e hf
          refine k_vW (va_runV (C := RX11) (As := []) (rest := []) ⟨hx, hb, hml, hown, hts⟩ (c_X11_token (l := l) (sz := H.size)  hN hI h86 h87 hq20) (cwV 0 hts gX11_reads_X11_token rfl rfl rfl (by decide +kernel) ⟨Nat.le_of_ble_eq_true rfl, Nat.le_of_ble_eq_true rfl⟩) (preV_of hK hP (by omega) h86 rfl) rfl rfl hl.1 rfl (lv_room (Nat.le_of_ble_eq_true rfl)) dX11_reads_118 ⟨Nat.le_of_ble_eq_true rfl, Nat.le_of_ble_eq_true rfl⟩) hA hAd hS (fun C H locs hP hS hpo => ?_)
          obtain ⟨he, h86⟩ := hpo
          have hag : ∀ i : Nat, i ≠ 86 ∧ i ≠ 88 → C i = C0 i := fun i h => (he i (by omega)).trans (hag i h)
          have h87 := (he 87 (by decide)).trans h87
          have h88 := (he 88 (by decide)).trans h88
          refine lv_iconst (v := 1) hx hb dX11_reads_121 (by decide) ?_
          obtain rfl := Option.some.inj hf
          rw [← hQ]
          exact e_zW hx hb hr rfl bz1 hP hS ⟨hag, h86, h88⟩ hlocks dX11_reads_122
        · have hf := it_e c17 hf
          refine lv_iconst (v := 0) hx hb dX11_reads_97 (by decide) ?_
          obtain rfl := Option.some.inj hf
          rw [← hQ]
          exact e_zW hx hb hr rfl bz0 hP hS ⟨hag, h86, h88⟩ hlocks dX11_reads_98
      · have hf := ie_e c6 hf
        refine lv_iconst (v := 0) hx hb dX11_reads_40 (by decide) ?_
        obtain rfl := Option.some.inj hf
        rw [← hQ]
        exact e_zW hx hb hr rfl bz0 hP hS ⟨hag, h86, h88⟩ hlocks dX11_reads_41

def f_X11_readsRest (p0 : Int32) (m_text : Nat → Int32) (m_read : Nat → Int32) (m_len : Int32) (m_rm : Int32) (m_at : Int32) (m_pl : Int32) (m_end : Int32) : Option (Int32 × (Nat → Int32) × Int32 × Int32 × Int32) :=
  lt ((6 * m_rm) : Int32) fun x1 =>
  if p0 = 0 then
    (f_X11_reads 0 1 11 m_text m_read m_len m_rm m_at m_pl m_end).bind fun q3 =>
    if q3.1 = 0 then
      some (0, q3.2.1, q3.2.2.1, q3.2.2.2.1, q3.2.2.2.2)
    else
      ri q3.2.1 54 ((x1 + 1)) fun x5 =>
      (f_X11_reads 1 0 (x5 - 1) m_text q3.2.1 m_len m_rm q3.2.2.1 q3.2.2.2.1 q3.2.2.2.2).bind fun q7 =>
      if q7.1 = 0 then
        some (0, q7.2.1, q7.2.2.1, q7.2.2.2.1, q7.2.2.2.2)
      else
        (f_X11_reads 2 0 99 m_text q7.2.1 m_len m_rm q7.2.2.1 q7.2.2.2.1 q7.2.2.2.2).bind fun q9 =>
        if q9.1 = 0 then
          some (0, q9.2.1, q9.2.2.1, q9.2.2.2.1, q9.2.2.2.2)
        else
          (f_X11_reads 3 1 60 m_text q9.2.1 m_len m_rm q9.2.2.1 q9.2.2.2.1 q9.2.2.2.2).bind fun q11 =>
          if q11.1 = 0 then
            some (0, q11.2.1, q11.2.2.1, q11.2.2.2.1, q11.2.2.2.2)
          else
            (f_X11_reads 4 0 99 m_text q11.2.1 m_len m_rm q11.2.2.1 q11.2.2.2.1 q11.2.2.2.2).bind fun q13 =>
            if q13.1 = 0 then
              some (0, q13.2.1, q13.2.2.1, q13.2.2.2.1, q13.2.2.2.2)
            else
              some (1, q13.2.1, q13.2.2.1, q13.2.2.2.1, q13.2.2.2.2)
  else if p0 = 1 then
    (f_X11_reads 0 0 11 m_text m_read m_len m_rm m_at m_pl m_end).bind fun q16 =>
    if q16.1 = 0 then
      some (0, q16.2.1, q16.2.2.1, q16.2.2.2.1, q16.2.2.2.2)
    else
      (f_X11_reads 1 0 999 m_text q16.2.1 m_len m_rm q16.2.2.1 q16.2.2.2.1 q16.2.2.2.2).bind fun q18 =>
      if q18.1 = 0 then
        some (0, q18.2.1, q18.2.2.1, q18.2.2.2.1, q18.2.2.2.2)
      else
        some (1, q18.2.1, q18.2.2.1, q18.2.2.2.1, q18.2.2.2.2)
  else if p0 = 2 then
    (f_X11_reads 0 0 11 m_text m_read m_len m_rm m_at m_pl m_end).bind fun q21 =>
    if q21.1 = 0 then
      some (0, q21.2.1, q21.2.2.1, q21.2.2.2.1, q21.2.2.2.2)
    else
      (f_X11_reads 1 0 99 m_text q21.2.1 m_len m_rm q21.2.2.1 q21.2.2.2.1 q21.2.2.2.2).bind fun q23 =>
      if q23.1 = 0 then
        some (0, q23.2.1, q23.2.2.1, q23.2.2.2.1, q23.2.2.2.2)
      else
        (f_X11_reads 2 0 9999 m_text q23.2.1 m_len m_rm q23.2.2.1 q23.2.2.2.1 q23.2.2.2.2).bind fun q25 =>
        if q25.1 = 0 then
          some (0, q25.2.1, q25.2.2.1, q25.2.2.2.1, q25.2.2.2.2)
        else
          some (1, q25.2.1, q25.2.2.1, q25.2.2.2.1, q25.2.2.2.2)
  else if p0 = 3 then
    (f_X11_reads 0 0 11 m_text m_read m_len m_rm m_at m_pl m_end).bind fun q28 =>
    if q28.1 = 0 then
      some (0, q28.2.1, q28.2.2.1, q28.2.2.2.1, q28.2.2.2.2)
    else
      (f_X11_reads 1 0 23 m_text q28.2.1 m_len m_rm q28.2.2.1 q28.2.2.2.1 q28.2.2.2.2).bind fun q30 =>
      if q30.1 = 0 then
        some (0, q30.2.1, q30.2.2.1, q30.2.2.2.1, q30.2.2.2.2)
      else
        ri q30.2.1 54 ((x1 + 2)) fun x32 =>
        (f_X11_reads 2 x32 23 m_text q30.2.1 m_len m_rm q30.2.2.1 q30.2.2.2.1 q30.2.2.2.2).bind fun q34 =>
        if q34.1 = 0 then
          some (0, q34.2.1, q34.2.2.1, q34.2.2.2.1, q34.2.2.2.2)
        else
          some (1, q34.2.1, q34.2.2.1, q34.2.2.2.1, q34.2.2.2.2)
  else if p0 = 4 then
    (f_X11_reads 0 0 23 m_text m_read m_len m_rm m_at m_pl m_end).bind fun q37 =>
    if q37.1 = 0 then
      some (0, q37.2.1, q37.2.2.1, q37.2.2.2.1, q37.2.2.2.2)
    else
      (f_X11_reads 1 0 90 m_text q37.2.1 m_len m_rm q37.2.2.1 q37.2.2.2.1 q37.2.2.2.2).bind fun q39 =>
      if q39.1 = 0 then
        some (0, q39.2.1, q39.2.2.1, q39.2.2.2.1, q39.2.2.2.2)
      else
        some (1, q39.2.1, q39.2.2.1, q39.2.2.2.1, q39.2.2.2.2)
  else if p0 = 5 then
    (f_X11_reads 0 0 3 m_text m_read m_len m_rm m_at m_pl m_end).bind fun q42 =>
    if q42.1 = 0 then
      some (0, q42.2.1, q42.2.2.1, q42.2.2.2.1, q42.2.2.2.2)
    else
      (f_X11_reads 1 1 9999 m_text q42.2.1 m_len m_rm q42.2.2.1 q42.2.2.2.1 q42.2.2.2.2).bind fun q44 =>
      if q44.1 = 0 then
        some (0, q44.2.1, q44.2.2.1, q44.2.2.2.1, q44.2.2.2.2)
      else
        (f_X11_reads 2 0 9 m_text q44.2.1 m_len m_rm q44.2.2.1 q44.2.2.2.1 q44.2.2.2.2).bind fun q46 =>
        if q46.1 = 0 then
          some (0, q46.2.1, q46.2.2.1, q46.2.2.2.1, q46.2.2.2.2)
        else
          (f_X11_reads 3 0 9 m_text q46.2.1 m_len m_rm q46.2.2.1 q46.2.2.2.1 q46.2.2.2.2).bind fun q48 =>
          if q48.1 = 0 then
            some (0, q48.2.1, q48.2.2.1, q48.2.2.2.1, q48.2.2.2.2)
          else
            some (1, q48.2.1, q48.2.2.1, q48.2.2.2.1, q48.2.2.2.2)
  else if p0 = 6 then
    (f_X11_reads 0 0 60 m_text m_read m_len m_rm m_at m_pl m_end).bind fun q51 =>
    some (q51.1, q51.2.1, q51.2.2.1, q51.2.2.2.1, q51.2.2.2.2)
  else 
    (f_X11_reads 0 0 99 m_text m_read m_len m_rm m_at m_pl m_end).bind fun q52 =>
    some (q52.1, q52.2.1, q52.2.2.1, q52.2.2.2.1, q52.2.2.2.2)
abbrev rmX11_readsRest : Room := { frames := 3, cells := 0, slots := 0, locals := 65 }
set_option maxHeartbeats 4000000 in
set_option maxRecDepth 100000 in
theorem c_X11_readsRest {l : Launch} {D : va_G} {g : Nat → ClassId} {N : Nat} {ad : Nat → Nat} {C : Nat → va_E} {sz : Nat} {m_len : Int32} {m_rm : Int32} {m_there : Int32} {m_lift : Int32} {m_blank : Int32} {m_fm : Int32} {m_at : Int32} {m_pl : Int32} {m_end : Int32} {m_seed : Int32} {m_text : Nat → Int32} {m_read : Nat → Int32} {p0 : Int32} {rr : Int32 × (Nat → Int32) × Int32 × Int32 × Int32} (hN : 109 ≤ N) (hI : Inj N ad) (h86 : C 86 = .inr (11, [.ref (ad 87), .int m_len, .ref (ad 88), .int m_rm, .int m_there, .ref (ad 89), .ref (ad 90), .ref (ad 91), .ref (ad 92), .ref (ad 93), .ref (ad 94), .ref (ad 95), .ref (ad 96), .ref (ad 97), .ref (ad 98), .ref (ad 99), .ref (ad 100), .ref (ad 101), .int m_lift, .int m_blank, .ref (ad 102), .int m_fm, .int m_at, .int m_pl, .int m_end, .ref (ad 103), .ref (ad 104), .ref (ad 105), .ref (ad 106), .ref (ad 107), .ref (ad 108), .int m_seed])) (h87 : C 87 = aI g 200 m_text) (h88 : C 88 = aI g 54 m_read) (hf : f_X11_readsRest p0 m_text m_read m_len m_rm m_at m_pl m_end = some rr) : Met l yX11_readsRest wsX11_readsRest rmX11_readsRest (PcW D g N ad C sz [.ref (ad 86), .int p0]) (QiW D N ad sz bz rr.1 (fun C' => (∀ i : Nat, i ≠ 86 ∧ i ≠ 88 → C' i = C i) ∧ (C' 86 = .inr (11, [.ref (ad 87), .int m_len, .ref (ad 88), .int m_rm, .int m_there, .ref (ad 89), .ref (ad 90), .ref (ad 91), .ref (ad 92), .ref (ad 93), .ref (ad 94), .ref (ad 95), .ref (ad 96), .ref (ad 97), .ref (ad 98), .ref (ad 99), .ref (ad 100), .ref (ad 101), .int m_lift, .int m_blank, .ref (ad 102), .int m_fm, .int rr.2.2.1, .int rr.2.2.2.1, .int rr.2.2.2.2, .ref (ad 103), .ref (ad 104), .ref (ad 105), .ref (ad 106), .ref (ad 107), .ref (ad 108), .int m_seed])) ∧ (C' 88 = aI g 54 rr.2.1))) 0 0 (Aw N ad sz) := by
  refine Met.ofW (cc := cX11_readsRest) (maxL := 3) (ret := (some .boolean)) (by decide) rfl ?_
  intro p e s m args below meth c s₁ B hml hv
  obtain ⟨hav, hsz, hK, hP⟩ := hv
  subst hsz
  have hx := B.exec
  have hb := B.bytes
  have hr := B.returns
  have hts := atoms_spec (ws := wsX11_readsRest) B.pre
  have hown : s.vm.findClass RX11 = some m.cls := findClass_of_methodNamed B.named
  have hlocks := B.notSynchronized
  generalize hQ : MQ below (QiW D N ad s.heap.size bz rr.1 (fun C' => (∀ i : Nat, i ≠ 86 ∧ i ≠ 88 → C' i = C i) ∧ (C' 86 = .inr (11, [.ref (ad 87), .int m_len, .ref (ad 88), .int m_rm, .int m_there, .ref (ad 89), .ref (ad 90), .ref (ad 91), .ref (ad 92), .ref (ad 93), .ref (ad 94), .ref (ad 95), .ref (ad 96), .ref (ad 97), .ref (ad 98), .ref (ad 99), .ref (ad 100), .ref (ad 101), .int m_lift, .int m_blank, .ref (ad 102), .int m_fm, .int rr.2.2.1, .int rr.2.2.2.1, .int rr.2.2.2.2, .ref (ad 103), .ref (ad 104), .ref (ad 105), .ref (ad 106), .ref (ad 107), .ref (ad 108), .int m_seed])) ∧ (C' 88 = aI g 54 rr.2.1))) args s 0 0 (Aw N ad s.heap.size) = QQ
  have hS : va_S (Aw N ad s.heap.size) s.heap s.heap [] := va_S.rf
  have hA : ∀ q, s.heap.size ≤ q → (Aw N ad s.heap.size) q := fun q h => Or.inr h
  have hAd : ∀ j : Nat, j < N → (Aw N ad s.heap.size) (ad j) := fun j h => Or.inl ⟨j, h, rfl⟩
  obtain ⟨C0, hC0⟩ : ∃ C0 : Nat → va_E, C0 = C := ⟨_, rfl⟩
  have hag : ∀ i : Nat, i ≠ 86 ∧ i ≠ 88 → C i = C0 i := fun i _ => by rw [hC0]
  rw [← hC0] at hQ
  have k0 := hts (.fieldLink RX11 111 "UpDrainModel" "readMany" "I") (List.mem_of_getElem? (i := 1) rfl)
  have nX11 : ∀ w ∈ u_ws RX11 TX11 32, w ∈ wsX11_readsRest := fun _ h => List.mem_cons_of_mem _ (List.mem_append_right _ h)
  have k2 := hts (.fieldLink RX11 13 "UpDrainModel" "read" "[I") (List.mem_of_getElem? (i := 2) rfl)
  have hE := lg_entry_eq m [.ref (ad 86), .int p0] 3
  rw [← hav] at hE
  rw [hE]
  have hl := lv_entry [.ref (ad 86), .int p0] (n := 3) (Nat.le_of_ble_eq_true rfl)
  generalize (lg_sl [.ref (ad 86), .int p0] ++ List.replicate (3 - (lg_sl [.ref (ad 86), .int p0]).length) Slot.unset).toArray = ls at hl ⊢
  have hl : lv_has ls 3 [(0, .ref (ad 86)), (1, .int p0)] := hl
  clear hE
  unfold f_X11_readsRest at hf
  suffices hgo : ∀ (H : Heap) (locs : List Loc), va_P D vwCl (wd N ad C) H → va_S (Aw N ad s.heap.size) s.heap H locs → W p l e (headSpec wsX11_readsRest rmX11_readsRest).room s m args below meth c H locs 0 0 QQ (F0 m 0 ls []) from hgo s.heap [] hP hS
  clear hS hP
  intro H locs hP hS
  refine lv_bipush (v := 6) hx hb dX11_readsRest_0 (by decide) ?_
  refine lv_aload_n hx hb dX11_readsRest_2 rfl (lv_at hl 0 rfl) ?_
  refine r_get (own := RX11) (T := TX11) (n := 32) (ci := 11) (v := .int m_rm) hx hb hts nX11 hown hK hP (by omega) h86 rfl 3 (by decide) k0 rfl dX11_readsRest_3 ?_
  refine lv_imul hx hb dX11_readsRest_6 ?_
  obtain ⟨x1, ex1, hf⟩ := lt_e hf
  refine tp_i ex1 ?_
  refine lv_istore_n (lv' := [(2, .int x1), (0, .ref (ad 86)), (1, .int p0)]) hx hb dX11_readsRest_7 rfl hl (by decide) rfl (fun ls hl => ?_)
  refine lv_iload_n hx hb dX11_readsRest_8 rfl (lv_at hl 2 rfl) ?_
  by_cases c2 : p0 = 0
  · have hf := it_e c2 hf
    refine lv_tableIn (tgt := 52) hx hb dX11_readsRest_9 (by rw [c2]; decide) (by rw [c2]; decide) (by rw [c2]; rfl) (by decide) ?_
    refine lv_aload_n hx hb dX11_readsRest_52 rfl (lv_at hl 1 rfl) ?_
    refine lv_iconst (v := 0) hx hb dX11_readsRest_53 (by decide) ?_
    refine lv_iconst (v := 1) hx hb dX11_readsRest_54 (by decide) ?_
    refine lv_bipush (v := 11) hx hb dX11_readsRest_55 (by decide) ?_
    obtain ⟨q3, hq3, hf⟩ := bd_e hf
    refine k_iW (va_runV (C := RX11) (As := [.int 0, .int 1, .int 11]) (rest := []) ⟨hx, hb, hml, hown, hts⟩ (c_X11_reads (l := l) (sz := H.size) (p0 := 0) (p1 := 1) (p2 := 11) hN hI h86 h87 h88 hq3) (cwV 3 hts gX11_readsRest_X11_reads rfl rfl rfl (by decide +kernel) ⟨Nat.le_of_ble_eq_true rfl, Nat.le_of_ble_eq_true rfl⟩) (preV_of hK hP (by omega) h86 rfl) rfl rfl hl.1 rfl (lv_room (Nat.le_of_ble_eq_true rfl)) dX11_readsRest_57 ⟨Nat.le_of_ble_eq_true rfl, Nat.le_of_ble_eq_true rfl⟩) hA hAd hS (fun C H locs hP hS hpo hbz_q3 => ?_)
    obtain ⟨he, h86, h88⟩ := hpo
    have hag : ∀ i : Nat, i ≠ 86 ∧ i ≠ 88 → C i = C0 i := fun i h => (he i (by omega)).trans (hag i h)
    have h87 := (he 87 (by decide)).trans h87
    refine lv_if_eq (tgt := 119) hx hb dX11_readsRest_60 (by decide) (fun c4 => ?_) (fun c4 => ?_)
    · have hf := it_e c4 hf
      refine lv_iconst (v := 0) hx hb dX11_readsRest_119 (by decide) ?_
      obtain rfl := Option.some.inj hf
      rw [← hQ]
      exact e_zW hx hb hr rfl bz0 hP hS ⟨hag, h86, h88⟩ hlocks dX11_readsRest_120
    · have hf := ie_e c4 hf
      refine lv_aload_n hx hb dX11_readsRest_63 rfl (lv_at hl 1 rfl) ?_
      refine lv_iconst (v := 1) hx hb dX11_readsRest_64 (by decide) ?_
      refine lv_iconst (v := 0) hx hb dX11_readsRest_65 (by decide) ?_
      refine lv_aload_n hx hb dX11_readsRest_66 rfl (lv_at hl 1 rfl) ?_
      refine r_get (own := RX11) (T := TX11) (n := 32) (ci := 11) (v := .ref (ad 88)) hx hb hts nX11 hown hK hP (by omega) h86 rfl 2 (by decide) k2 rfl dX11_readsRest_67 ?_
      refine lv_iload_n hx hb dX11_readsRest_70 rfl (lv_at hl 0 rfl) ?_
      refine lv_iconst (v := 1) hx hb dX11_readsRest_71 (by decide) ?_
      refine lv_iadd hx hb dX11_readsRest_72 ?_
      obtain ⟨i6, x5, ex5, hf⟩ := ri_e hf
      refine r_iald hx hb hK hP (by omega) h88 i6 dX11_readsRest_73 ex5 ?_
      refine lv_iconst (v := 1) hx hb dX11_readsRest_74 (by decide) ?_
      refine lv_isub hx hb dX11_readsRest_75 ?_
      obtain ⟨q7, hq7, hf⟩ := bd_e hf
      refine k_iW (va_runV (C := RX11) (As := [.int 1, .int 0, .int (x5 - 1)]) (rest := []) ⟨hx, hb, hml, hown, hts⟩ (c_X11_reads (l := l) (sz := H.size) (p0 := 1) (p1 := 0) (p2 := (x5 - 1)) hN hI h86 h87 h88 hq7) (cwV 3 hts gX11_readsRest_X11_reads rfl rfl rfl (by decide +kernel) ⟨Nat.le_of_ble_eq_true rfl, Nat.le_of_ble_eq_true rfl⟩) (preV_of hK hP (by omega) h86 rfl) rfl rfl hl.1 rfl (lv_room (Nat.le_of_ble_eq_true rfl)) dX11_readsRest_76 ⟨Nat.le_of_ble_eq_true rfl, Nat.le_of_ble_eq_true rfl⟩) hA hAd hS (fun C H locs hP hS hpo hbz_q7 => ?_)
      obtain ⟨he, h86, h88⟩ := hpo
      have hag : ∀ i : Nat, i ≠ 86 ∧ i ≠ 88 → C i = C0 i := fun i h => (he i (by omega)).trans (hag i h)
      have h87 := (he 87 (by decide)).trans h87
      refine lv_if_eq (tgt := 119) hx hb dX11_readsRest_79 (by decide) (fun c8 => ?_) (fun c8 => ?_)
      · have hf := it_e c8 hf
        refine lv_iconst (v := 0) hx hb dX11_readsRest_119 (by decide) ?_
        obtain rfl := Option.some.inj hf
        rw [← hQ]
        exact e_zW hx hb hr rfl bz0 hP hS ⟨hag, h86, h88⟩ hlocks dX11_readsRest_120
      · have hf := ie_e c8 hf
        refine lv_aload_n hx hb dX11_readsRest_82 rfl (lv_at hl 1 rfl) ?_
        refine lv_iconst (v := 2) hx hb dX11_readsRest_83 (by decide) ?_
        refine lv_iconst (v := 0) hx hb dX11_readsRest_84 (by decide) ?_
        refine lv_bipush (v := 99) hx hb dX11_readsRest_85 (by decide) ?_
        obtain ⟨q9, hq9, hf⟩ := bd_e hf
        refine k_iW (va_runV (C := RX11) (As := [.int 2, .int 0, .int 99]) (rest := []) ⟨hx, hb, hml, hown, hts⟩ (c_X11_reads (l := l) (sz := H.size) (p0 := 2) (p1 := 0) (p2 := 99) hN hI h86 h87 h88 hq9) (cwV 3 hts gX11_readsRest_X11_reads rfl rfl rfl (by decide +kernel) ⟨Nat.le_of_ble_eq_true rfl, Nat.le_of_ble_eq_true rfl⟩) (preV_of hK hP (by omega) h86 rfl) rfl rfl hl.1 rfl (lv_room (Nat.le_of_ble_eq_true rfl)) dX11_readsRest_87 ⟨Nat.le_of_ble_eq_true rfl, Nat.le_of_ble_eq_true rfl⟩) hA hAd hS (fun C H locs hP hS hpo hbz_q9 => ?_)
        obtain ⟨he, h86, h88⟩ := hpo
        have hag : ∀ i : Nat, i ≠ 86 ∧ i ≠ 88 → C i = C0 i := fun i h => (he i (by omega)).trans (hag i h)
        have h87 := (he 87 (by decide)).trans h87
        refine lv_if_eq (tgt := 119) hx hb dX11_readsRest_90 (by decide) (fun c10 => ?_) (fun c10 => ?_)
        · have hf := it_e c10 hf
          refine lv_iconst (v := 0) hx hb dX11_readsRest_119 (by decide) ?_
          obtain rfl := Option.some.inj hf
          rw [← hQ]
          exact e_zW hx hb hr rfl bz0 hP hS ⟨hag, h86, h88⟩ hlocks dX11_readsRest_120
        · have hf := ie_e c10 hf
          refine lv_aload_n hx hb dX11_readsRest_93 rfl (lv_at hl 1 rfl) ?_
          refine lv_iconst (v := 3) hx hb dX11_readsRest_94 (by decide) ?_
          refine lv_iconst (v := 1) hx hb dX11_readsRest_95 (by decide) ?_
          refine lv_bipush (v := 60) hx hb dX11_readsRest_96 (by decide) ?_
          obtain ⟨q11, hq11, hf⟩ := bd_e hf
          refine k_iW (va_runV (C := RX11) (As := [.int 3, .int 1, .int 60]) (rest := []) ⟨hx, hb, hml, hown, hts⟩ (c_X11_reads (l := l) (sz := H.size) (p0 := 3) (p1 := 1) (p2 := 60) hN hI h86 h87 h88 hq11) (cwV 3 hts gX11_readsRest_X11_reads rfl rfl rfl (by decide +kernel) ⟨Nat.le_of_ble_eq_true rfl, Nat.le_of_ble_eq_true rfl⟩) (preV_of hK hP (by omega) h86 rfl) rfl rfl hl.1 rfl (lv_room (Nat.le_of_ble_eq_true rfl)) dX11_readsRest_98 ⟨Nat.le_of_ble_eq_true rfl, Nat.le_of_ble_eq_true rfl⟩) hA hAd hS (fun C H locs hP hS hpo hbz_q11 => ?_)
          obtain ⟨he, h86, h88⟩ := hpo
          have hag : ∀ i : Nat, i ≠ 86 ∧ i ≠ 88 → C i = C0 i := fun i h => (he i (by omega)).trans (hag i h)
          have h87 := (he 87 (by decide)).trans h87
          refine lv_if_eq (tgt := 119) hx hb dX11_readsRest_101 (by decide) (fun c12 => ?_) (fun c12 => ?_)
          · have hf := it_e c12 hf
            refine lv_iconst (v := 0) hx hb dX11_readsRest_119 (by decide) ?_
            obtain rfl := Option.some.inj hf
            rw [← hQ]
            exact e_zW hx hb hr rfl bz0 hP hS ⟨hag, h86, h88⟩ hlocks dX11_readsRest_120
          · have hf := ie_e c12 hf
            refine lv_aload_n hx hb dX11_readsRest_104 rfl (lv_at hl 1 rfl) ?_
            refine lv_iconst (v := 4) hx hb dX11_readsRest_105 (by decide) ?_
            refine lv_iconst (v := 0) hx hb dX11_readsRest_106 (by decide) ?_
            refine lv_bipush (v := 99) hx hb dX11_readsRest_107 (by decide) ?_
            obtain ⟨q13, hq13, hf⟩ := bd_e hf
            refine k_iW (va_runV (C := RX11) (As := [.int 4, .int 0, .int 99]) (rest := []) ⟨hx, hb, hml, hown, hts⟩ (c_X11_reads (l := l) (sz := H.size) (p0 := 4) (p1 := 0) (p2 := 99) hN hI h86 h87 h88 hq13) (cwV 3 hts gX11_readsRest_X11_reads rfl rfl rfl (by decide +kernel) ⟨Nat.le_of_ble_eq_true rfl, Nat.le_of_ble_eq_true rfl⟩) (preV_of hK hP (by omega) h86 rfl) rfl rfl hl.1 rfl (lv_room (Nat.le_of_ble_eq_true rfl)) dX11_readsRest_109 ⟨Nat.le_of_ble_eq_true rfl, Nat.le_of_ble_eq_true rfl⟩) hA hAd hS (fun C H locs hP hS hpo hbz_q13 => ?_)
            obtain ⟨he, h86, h88⟩ := hpo
            have hag : ∀ i : Nat, i ≠ 86 ∧ i ≠ 88 → C i = C0 i := fun i h => (he i (by omega)).trans (hag i h)
            have h87 := (he 87 (by decide)).trans h87
            refine lv_if_eq (tgt := 119) hx hb dX11_readsRest_112 (by decide) (fun c14 => ?_) (fun c14 => ?_)
            · have hf := it_e c14 hf
              refine lv_iconst (v := 0) hx hb dX11_readsRest_119 (by decide) ?_
              obtain rfl := Option.some.inj hf
              rw [← hQ]
              exact e_zW hx hb hr rfl bz0 hP hS ⟨hag, h86, h88⟩ hlocks dX11_readsRest_120
            · have hf := ie_e c14 hf
              refine lv_iconst (v := 1) hx hb dX11_readsRest_115 (by decide) ?_
              refine lv_goto (tgt := 120) hx hb dX11_readsRest_116 (by decide) ?_
              obtain rfl := Option.some.inj hf
              rw [← hQ]
              exact e_zW hx hb hr rfl bz1 hP hS ⟨hag, h86, h88⟩ hlocks dX11_readsRest_120
  have hf := ie_e c2 hf
  by_cases c15 : p0 = 1
  · have hf := it_e c15 hf
    refine lv_tableIn (tgt := 121) hx hb dX11_readsRest_9 (by rw [c15]; decide) (by rw [c15]; decide) (by rw [c15]; rfl) (by decide) ?_
    refine lv_aload_n hx hb dX11_readsRest_121 rfl (lv_at hl 1 rfl) ?_
    refine lv_iconst (v := 0) hx hb dX11_readsRest_122 (by decide) ?_
    refine lv_iconst (v := 0) hx hb dX11_readsRest_123 (by decide) ?_
    refine lv_bipush (v := 11) hx hb dX11_readsRest_124 (by decide) ?_
    obtain ⟨q16, hq16, hf⟩ := bd_e hf
    refine k_iW (va_runV (C := RX11) (As := [.int 0, .int 0, .int 11]) (rest := []) ⟨hx, hb, hml, hown, hts⟩ (c_X11_reads (l := l) (sz := H.size) (p0 := 0) (p1 := 0) (p2 := 11) hN hI h86 h87 h88 hq16) (cwV 3 hts gX11_readsRest_X11_reads rfl rfl rfl (by decide +kernel) ⟨Nat.le_of_ble_eq_true rfl, Nat.le_of_ble_eq_true rfl⟩) (preV_of hK hP (by omega) h86 rfl) rfl rfl hl.1 rfl (lv_room (Nat.le_of_ble_eq_true rfl)) dX11_readsRest_126 ⟨Nat.le_of_ble_eq_true rfl, Nat.le_of_ble_eq_true rfl⟩) hA hAd hS (fun C H locs hP hS hpo hbz_q16 => ?_)
    obtain ⟨he, h86, h88⟩ := hpo
    have hag : ∀ i : Nat, i ≠ 86 ∧ i ≠ 88 → C i = C0 i := fun i h => (he i (by omega)).trans (hag i h)
    have h87 := (he 87 (by decide)).trans h87
    refine lv_if_eq (tgt := 148) hx hb dX11_readsRest_129 (by decide) (fun c17 => ?_) (fun c17 => ?_)
    · have hf := it_e c17 hf
      refine lv_iconst (v := 0) hx hb dX11_readsRest_148 (by decide) ?_
      obtain rfl := Option.some.inj hf
      rw [← hQ]
      exact e_zW hx hb hr rfl bz0 hP hS ⟨hag, h86, h88⟩ hlocks dX11_readsRest_149
    · have hf := ie_e c17 hf
      refine lv_aload_n hx hb dX11_readsRest_132 rfl (lv_at hl 1 rfl) ?_
      refine lv_iconst (v := 1) hx hb dX11_readsRest_133 (by decide) ?_
      refine lv_iconst (v := 0) hx hb dX11_readsRest_134 (by decide) ?_
      refine lv_sipush (v := 999) hx hb dX11_readsRest_135 (by decide) ?_
      obtain ⟨q18, hq18, hf⟩ := bd_e hf
      refine k_iW (va_runV (C := RX11) (As := [.int 1, .int 0, .int 999]) (rest := []) ⟨hx, hb, hml, hown, hts⟩ (c_X11_reads (l := l) (sz := H.size) (p0 := 1) (p1 := 0) (p2 := 999) hN hI h86 h87 h88 hq18) (cwV 3 hts gX11_readsRest_X11_reads rfl rfl rfl (by decide +kernel) ⟨Nat.le_of_ble_eq_true rfl, Nat.le_of_ble_eq_true rfl⟩) (preV_of hK hP (by omega) h86 rfl) rfl rfl hl.1 rfl (lv_room (Nat.le_of_ble_eq_true rfl)) dX11_readsRest_138 ⟨Nat.le_of_ble_eq_true rfl, Nat.le_of_ble_eq_true rfl⟩) hA hAd hS (fun C H locs hP hS hpo hbz_q18 => ?_)
      obtain ⟨he, h86, h88⟩ := hpo
      have hag : ∀ i : Nat, i ≠ 86 ∧ i ≠ 88 → C i = C0 i := fun i h => (he i (by omega)).trans (hag i h)
      have h87 := (he 87 (by decide)).trans h87
      refine lv_if_eq (tgt := 148) hx hb dX11_readsRest_141 (by decide) (fun c19 => ?_) (fun c19 => ?_)
      · have hf := it_e c19 hf
        refine lv_iconst (v := 0) hx hb dX11_readsRest_148 (by decide) ?_
        obtain rfl := Option.some.inj hf
        rw [← hQ]
        exact e_zW hx hb hr rfl bz0 hP hS ⟨hag, h86, h88⟩ hlocks dX11_readsRest_149
      · have hf := ie_e c19 hf
        refine lv_iconst (v := 1) hx hb dX11_readsRest_144 (by decide) ?_
        refine lv_goto (tgt := 149) hx hb dX11_readsRest_145 (by decide) ?_
        obtain rfl := Option.some.inj hf
        rw [← hQ]
        exact e_zW hx hb hr rfl bz1 hP hS ⟨hag, h86, h88⟩ hlocks dX11_readsRest_149
  have hf := ie_e c15 hf
  by_cases c20 : p0 = 2
  · have hf := it_e c20 hf
    refine lv_tableIn (tgt := 150) hx hb dX11_readsRest_9 (by rw [c20]; decide) (by rw [c20]; decide) (by rw [c20]; rfl) (by decide) ?_
    refine lv_aload_n hx hb dX11_readsRest_150 rfl (lv_at hl 1 rfl) ?_
    refine lv_iconst (v := 0) hx hb dX11_readsRest_151 (by decide) ?_
    refine lv_iconst (v := 0) hx hb dX11_readsRest_152 (by decide) ?_
    refine lv_bipush (v := 11) hx hb dX11_readsRest_153 (by decide) ?_
    obtain ⟨q21, hq21, hf⟩ := bd_e hf
    refine k_iW (va_runV (C := RX11) (As := [.int 0, .int 0, .int 11]) (rest := []) ⟨hx, hb, hml, hown, hts⟩ (c_X11_reads (l := l) (sz := H.size) (p0 := 0) (p1 := 0) (p2 := 11) hN hI h86 h87 h88 hq21) (cwV 3 hts gX11_readsRest_X11_reads rfl rfl rfl (by decide +kernel) ⟨Nat.le_of_ble_eq_true rfl, Nat.le_of_ble_eq_true rfl⟩) (preV_of hK hP (by omega) h86 rfl) rfl rfl hl.1 rfl (lv_room (Nat.le_of_ble_eq_true rfl)) dX11_readsRest_155 ⟨Nat.le_of_ble_eq_true rfl, Nat.le_of_ble_eq_true rfl⟩) hA hAd hS (fun C H locs hP hS hpo hbz_q21 => ?_)
    obtain ⟨he, h86, h88⟩ := hpo
    have hag : ∀ i : Nat, i ≠ 86 ∧ i ≠ 88 → C i = C0 i := fun i h => (he i (by omega)).trans (hag i h)
    have h87 := (he 87 (by decide)).trans h87
    refine lv_if_eq (tgt := 188) hx hb dX11_readsRest_158 (by decide) (fun c22 => ?_) (fun c22 => ?_)
    · have hf := it_e c22 hf
      refine lv_iconst (v := 0) hx hb dX11_readsRest_188 (by decide) ?_
      obtain rfl := Option.some.inj hf
      rw [← hQ]
      exact e_zW hx hb hr rfl bz0 hP hS ⟨hag, h86, h88⟩ hlocks dX11_readsRest_189
    · have hf := ie_e c22 hf
      refine lv_aload_n hx hb dX11_readsRest_161 rfl (lv_at hl 1 rfl) ?_
      refine lv_iconst (v := 1) hx hb dX11_readsRest_162 (by decide) ?_
      refine lv_iconst (v := 0) hx hb dX11_readsRest_163 (by decide) ?_
      refine lv_bipush (v := 99) hx hb dX11_readsRest_164 (by decide) ?_
      obtain ⟨q23, hq23, hf⟩ := bd_e hf
      refine k_iW (va_runV (C := RX11) (As := [.int 1, .int 0, .int 99]) (rest := []) ⟨hx, hb, hml, hown, hts⟩ (c_X11_reads (l := l) (sz := H.size) (p0 := 1) (p1 := 0) (p2 := 99) hN hI h86 h87 h88 hq23) (cwV 3 hts gX11_readsRest_X11_reads rfl rfl rfl (by decide +kernel) ⟨Nat.le_of_ble_eq_true rfl, Nat.le_of_ble_eq_true rfl⟩) (preV_of hK hP (by omega) h86 rfl) rfl rfl hl.1 rfl (lv_room (Nat.le_of_ble_eq_true rfl)) dX11_readsRest_166 ⟨Nat.le_of_ble_eq_true rfl, Nat.le_of_ble_eq_true rfl⟩) hA hAd hS (fun C H locs hP hS hpo hbz_q23 => ?_)
      obtain ⟨he, h86, h88⟩ := hpo
      have hag : ∀ i : Nat, i ≠ 86 ∧ i ≠ 88 → C i = C0 i := fun i h => (he i (by omega)).trans (hag i h)
      have h87 := (he 87 (by decide)).trans h87
      refine lv_if_eq (tgt := 188) hx hb dX11_readsRest_169 (by decide) (fun c24 => ?_) (fun c24 => ?_)
      · have hf := it_e c24 hf
        refine lv_iconst (v := 0) hx hb dX11_readsRest_188 (by decide) ?_
        obtain rfl := Option.some.inj hf
        rw [← hQ]
        exact e_zW hx hb hr rfl bz0 hP hS ⟨hag, h86, h88⟩ hlocks dX11_readsRest_189
      · have hf := ie_e c24 hf
        refine lv_aload_n hx hb dX11_readsRest_172 rfl (lv_at hl 1 rfl) ?_
        refine lv_iconst (v := 2) hx hb dX11_readsRest_173 (by decide) ?_
        refine lv_iconst (v := 0) hx hb dX11_readsRest_174 (by decide) ?_
        refine lv_sipush (v := 9999) hx hb dX11_readsRest_175 (by decide) ?_
        obtain ⟨q25, hq25, hf⟩ := bd_e hf
        refine k_iW (va_runV (C := RX11) (As := [.int 2, .int 0, .int 9999]) (rest := []) ⟨hx, hb, hml, hown, hts⟩ (c_X11_reads (l := l) (sz := H.size) (p0 := 2) (p1 := 0) (p2 := 9999) hN hI h86 h87 h88 hq25) (cwV 3 hts gX11_readsRest_X11_reads rfl rfl rfl (by decide +kernel) ⟨Nat.le_of_ble_eq_true rfl, Nat.le_of_ble_eq_true rfl⟩) (preV_of hK hP (by omega) h86 rfl) rfl rfl hl.1 rfl (lv_room (Nat.le_of_ble_eq_true rfl)) dX11_readsRest_178 ⟨Nat.le_of_ble_eq_true rfl, Nat.le_of_ble_eq_true rfl⟩) hA hAd hS (fun C H locs hP hS hpo hbz_q25 => ?_)
        obtain ⟨he, h86, h88⟩ := hpo
        have hag : ∀ i : Nat, i ≠ 86 ∧ i ≠ 88 → C i = C0 i := fun i h => (he i (by omega)).trans (hag i h)
        have h87 := (he 87 (by decide)).trans h87
        refine lv_if_eq (tgt := 188) hx hb dX11_readsRest_181 (by decide) (fun c26 => ?_) (fun c26 => ?_)
        · have hf := it_e c26 hf
          refine lv_iconst (v := 0) hx hb dX11_readsRest_188 (by decide) ?_
          obtain rfl := Option.some.inj hf
          rw [← hQ]
          exact e_zW hx hb hr rfl bz0 hP hS ⟨hag, h86, h88⟩ hlocks dX11_readsRest_189
        · have hf := ie_e c26 hf
          refine lv_iconst (v := 1) hx hb dX11_readsRest_184 (by decide) ?_
          refine lv_goto (tgt := 189) hx hb dX11_readsRest_185 (by decide) ?_
          obtain rfl := Option.some.inj hf
          rw [← hQ]
          exact e_zW hx hb hr rfl bz1 hP hS ⟨hag, h86, h88⟩ hlocks dX11_readsRest_189
  have hf := ie_e c20 hf
  by_cases c27 : p0 = 3
  · have hf := it_e c27 hf
    refine lv_tableIn (tgt := 190) hx hb dX11_readsRest_9 (by rw [c27]; decide) (by rw [c27]; decide) (by rw [c27]; rfl) (by decide) ?_
    refine lv_aload_n hx hb dX11_readsRest_190 rfl (lv_at hl 1 rfl) ?_
    refine lv_iconst (v := 0) hx hb dX11_readsRest_191 (by decide) ?_
    refine lv_iconst (v := 0) hx hb dX11_readsRest_192 (by decide) ?_
    refine lv_bipush (v := 11) hx hb dX11_readsRest_193 (by decide) ?_
    obtain ⟨q28, hq28, hf⟩ := bd_e hf
    refine k_iW (va_runV (C := RX11) (As := [.int 0, .int 0, .int 11]) (rest := []) ⟨hx, hb, hml, hown, hts⟩ (c_X11_reads (l := l) (sz := H.size) (p0 := 0) (p1 := 0) (p2 := 11) hN hI h86 h87 h88 hq28) (cwV 3 hts gX11_readsRest_X11_reads rfl rfl rfl (by decide +kernel) ⟨Nat.le_of_ble_eq_true rfl, Nat.le_of_ble_eq_true rfl⟩) (preV_of hK hP (by omega) h86 rfl) rfl rfl hl.1 rfl (lv_room (Nat.le_of_ble_eq_true rfl)) dX11_readsRest_195 ⟨Nat.le_of_ble_eq_true rfl, Nat.le_of_ble_eq_true rfl⟩) hA hAd hS (fun C H locs hP hS hpo hbz_q28 => ?_)
    obtain ⟨he, h86, h88⟩ := hpo
    have hag : ∀ i : Nat, i ≠ 86 ∧ i ≠ 88 → C i = C0 i := fun i h => (he i (by omega)).trans (hag i h)
    have h87 := (he 87 (by decide)).trans h87
    refine lv_if_eq (tgt := 234) hx hb dX11_readsRest_198 (by decide) (fun c29 => ?_) (fun c29 => ?_)
    · have hf := it_e c29 hf
      refine lv_iconst (v := 0) hx hb dX11_readsRest_234 (by decide) ?_
      obtain rfl := Option.some.inj hf
      rw [← hQ]
      exact e_zW hx hb hr rfl bz0 hP hS ⟨hag, h86, h88⟩ hlocks dX11_readsRest_235
    · have hf := ie_e c29 hf
      refine lv_aload_n hx hb dX11_readsRest_201 rfl (lv_at hl 1 rfl) ?_
      refine lv_iconst (v := 1) hx hb dX11_readsRest_202 (by decide) ?_
      refine lv_iconst (v := 0) hx hb dX11_readsRest_203 (by decide) ?_
      refine lv_bipush (v := 23) hx hb dX11_readsRest_204 (by decide) ?_
      obtain ⟨q30, hq30, hf⟩ := bd_e hf
      refine k_iW (va_runV (C := RX11) (As := [.int 1, .int 0, .int 23]) (rest := []) ⟨hx, hb, hml, hown, hts⟩ (c_X11_reads (l := l) (sz := H.size) (p0 := 1) (p1 := 0) (p2 := 23) hN hI h86 h87 h88 hq30) (cwV 3 hts gX11_readsRest_X11_reads rfl rfl rfl (by decide +kernel) ⟨Nat.le_of_ble_eq_true rfl, Nat.le_of_ble_eq_true rfl⟩) (preV_of hK hP (by omega) h86 rfl) rfl rfl hl.1 rfl (lv_room (Nat.le_of_ble_eq_true rfl)) dX11_readsRest_206 ⟨Nat.le_of_ble_eq_true rfl, Nat.le_of_ble_eq_true rfl⟩) hA hAd hS (fun C H locs hP hS hpo hbz_q30 => ?_)
      obtain ⟨he, h86, h88⟩ := hpo
      have hag : ∀ i : Nat, i ≠ 86 ∧ i ≠ 88 → C i = C0 i := fun i h => (he i (by omega)).trans (hag i h)
      have h87 := (he 87 (by decide)).trans h87
      refine lv_if_eq (tgt := 234) hx hb dX11_readsRest_209 (by decide) (fun c31 => ?_) (fun c31 => ?_)
      · have hf := it_e c31 hf
        refine lv_iconst (v := 0) hx hb dX11_readsRest_234 (by decide) ?_
        obtain rfl := Option.some.inj hf
        rw [← hQ]
        exact e_zW hx hb hr rfl bz0 hP hS ⟨hag, h86, h88⟩ hlocks dX11_readsRest_235
      · have hf := ie_e c31 hf
        refine lv_aload_n hx hb dX11_readsRest_212 rfl (lv_at hl 1 rfl) ?_
        refine lv_iconst (v := 2) hx hb dX11_readsRest_213 (by decide) ?_
        refine lv_aload_n hx hb dX11_readsRest_214 rfl (lv_at hl 1 rfl) ?_
        refine r_get (own := RX11) (T := TX11) (n := 32) (ci := 11) (v := .ref (ad 88)) hx hb hts nX11 hown hK hP (by omega) h86 rfl 2 (by decide) k2 rfl dX11_readsRest_215 ?_
        refine lv_iload_n hx hb dX11_readsRest_218 rfl (lv_at hl 0 rfl) ?_
        refine lv_iconst (v := 2) hx hb dX11_readsRest_219 (by decide) ?_
        refine lv_iadd hx hb dX11_readsRest_220 ?_
        obtain ⟨i33, x32, ex32, hf⟩ := ri_e hf
        refine r_iald hx hb hK hP (by omega) h88 i33 dX11_readsRest_221 ex32 ?_
        refine lv_bipush (v := 23) hx hb dX11_readsRest_222 (by decide) ?_
        obtain ⟨q34, hq34, hf⟩ := bd_e hf
        refine k_iW (va_runV (C := RX11) (As := [.int 2, .int x32, .int 23]) (rest := []) ⟨hx, hb, hml, hown, hts⟩ (c_X11_reads (l := l) (sz := H.size) (p0 := 2) (p1 := x32) (p2 := 23) hN hI h86 h87 h88 hq34) (cwV 3 hts gX11_readsRest_X11_reads rfl rfl rfl (by decide +kernel) ⟨Nat.le_of_ble_eq_true rfl, Nat.le_of_ble_eq_true rfl⟩) (preV_of hK hP (by omega) h86 rfl) rfl rfl hl.1 rfl (lv_room (Nat.le_of_ble_eq_true rfl)) dX11_readsRest_224 ⟨Nat.le_of_ble_eq_true rfl, Nat.le_of_ble_eq_true rfl⟩) hA hAd hS (fun C H locs hP hS hpo hbz_q34 => ?_)
        obtain ⟨he, h86, h88⟩ := hpo
        have hag : ∀ i : Nat, i ≠ 86 ∧ i ≠ 88 → C i = C0 i := fun i h => (he i (by omega)).trans (hag i h)
        have h87 := (he 87 (by decide)).trans h87
        refine lv_if_eq (tgt := 234) hx hb dX11_readsRest_227 (by decide) (fun c35 => ?_) (fun c35 => ?_)
        · have hf := it_e c35 hf
          refine lv_iconst (v := 0) hx hb dX11_readsRest_234 (by decide) ?_
          obtain rfl := Option.some.inj hf
          rw [← hQ]
          exact e_zW hx hb hr rfl bz0 hP hS ⟨hag, h86, h88⟩ hlocks dX11_readsRest_235
        · have hf := ie_e c35 hf
          refine lv_iconst (v := 1) hx hb dX11_readsRest_230 (by decide) ?_
          refine lv_goto (tgt := 235) hx hb dX11_readsRest_231 (by decide) ?_
          obtain rfl := Option.some.inj hf
          rw [← hQ]
          exact e_zW hx hb hr rfl bz1 hP hS ⟨hag, h86, h88⟩ hlocks dX11_readsRest_235
  have hf := ie_e c27 hf
  by_cases c36 : p0 = 4
  · have hf := it_e c36 hf
    refine lv_tableIn (tgt := 236) hx hb dX11_readsRest_9 (by rw [c36]; decide) (by rw [c36]; decide) (by rw [c36]; rfl) (by decide) ?_
    refine lv_aload_n hx hb dX11_readsRest_236 rfl (lv_at hl 1 rfl) ?_
    refine lv_iconst (v := 0) hx hb dX11_readsRest_237 (by decide) ?_
    refine lv_iconst (v := 0) hx hb dX11_readsRest_238 (by decide) ?_
    refine lv_bipush (v := 23) hx hb dX11_readsRest_239 (by decide) ?_
    obtain ⟨q37, hq37, hf⟩ := bd_e hf
    refine k_iW (va_runV (C := RX11) (As := [.int 0, .int 0, .int 23]) (rest := []) ⟨hx, hb, hml, hown, hts⟩ (c_X11_reads (l := l) (sz := H.size) (p0 := 0) (p1 := 0) (p2 := 23) hN hI h86 h87 h88 hq37) (cwV 3 hts gX11_readsRest_X11_reads rfl rfl rfl (by decide +kernel) ⟨Nat.le_of_ble_eq_true rfl, Nat.le_of_ble_eq_true rfl⟩) (preV_of hK hP (by omega) h86 rfl) rfl rfl hl.1 rfl (lv_room (Nat.le_of_ble_eq_true rfl)) dX11_readsRest_241 ⟨Nat.le_of_ble_eq_true rfl, Nat.le_of_ble_eq_true rfl⟩) hA hAd hS (fun C H locs hP hS hpo hbz_q37 => ?_)
    obtain ⟨he, h86, h88⟩ := hpo
    have hag : ∀ i : Nat, i ≠ 86 ∧ i ≠ 88 → C i = C0 i := fun i h => (he i (by omega)).trans (hag i h)
    have h87 := (he 87 (by decide)).trans h87
    refine lv_if_eq (tgt := 262) hx hb dX11_readsRest_244 (by decide) (fun c38 => ?_) (fun c38 => ?_)
    · have hf := it_e c38 hf
      refine lv_iconst (v := 0) hx hb dX11_readsRest_262 (by decide) ?_
      obtain rfl := Option.some.inj hf
      rw [← hQ]
      exact e_zW hx hb hr rfl bz0 hP hS ⟨hag, h86, h88⟩ hlocks dX11_readsRest_263
    · have hf := ie_e c38 hf
      refine lv_aload_n hx hb dX11_readsRest_247 rfl (lv_at hl 1 rfl) ?_
      refine lv_iconst (v := 1) hx hb dX11_readsRest_248 (by decide) ?_
      refine lv_iconst (v := 0) hx hb dX11_readsRest_249 (by decide) ?_
      refine lv_bipush (v := 90) hx hb dX11_readsRest_250 (by decide) ?_
      obtain ⟨q39, hq39, hf⟩ := bd_e hf
      refine k_iW (va_runV (C := RX11) (As := [.int 1, .int 0, .int 90]) (rest := []) ⟨hx, hb, hml, hown, hts⟩ (c_X11_reads (l := l) (sz := H.size) (p0 := 1) (p1 := 0) (p2 := 90) hN hI h86 h87 h88 hq39) (cwV 3 hts gX11_readsRest_X11_reads rfl rfl rfl (by decide +kernel) ⟨Nat.le_of_ble_eq_true rfl, Nat.le_of_ble_eq_true rfl⟩) (preV_of hK hP (by omega) h86 rfl) rfl rfl hl.1 rfl (lv_room (Nat.le_of_ble_eq_true rfl)) dX11_readsRest_252 ⟨Nat.le_of_ble_eq_true rfl, Nat.le_of_ble_eq_true rfl⟩) hA hAd hS (fun C H locs hP hS hpo hbz_q39 => ?_)
      obtain ⟨he, h86, h88⟩ := hpo
      have hag : ∀ i : Nat, i ≠ 86 ∧ i ≠ 88 → C i = C0 i := fun i h => (he i (by omega)).trans (hag i h)
      have h87 := (he 87 (by decide)).trans h87
      refine lv_if_eq (tgt := 262) hx hb dX11_readsRest_255 (by decide) (fun c40 => ?_) (fun c40 => ?_)
      · have hf := it_e c40 hf
        refine lv_iconst (v := 0) hx hb dX11_readsRest_262 (by decide) ?_
        obtain rfl := Option.some.inj hf
        rw [← hQ]
        exact e_zW hx hb hr rfl bz0 hP hS ⟨hag, h86, h88⟩ hlocks dX11_readsRest_263
      · have hf := ie_e c40 hf
        refine lv_iconst (v := 1) hx hb dX11_readsRest_258 (by decide) ?_
        refine lv_goto (tgt := 263) hx hb dX11_readsRest_259 (by decide) ?_
        obtain rfl := Option.some.inj hf
        rw [← hQ]
        exact e_zW hx hb hr rfl bz1 hP hS ⟨hag, h86, h88⟩ hlocks dX11_readsRest_263
  have hf := ie_e c36 hf
  by_cases c41 : p0 = 5
  · have hf := it_e c41 hf
    refine lv_tableIn (tgt := 264) hx hb dX11_readsRest_9 (by rw [c41]; decide) (by rw [c41]; decide) (by rw [c41]; rfl) (by decide) ?_
    refine lv_aload_n hx hb dX11_readsRest_264 rfl (lv_at hl 1 rfl) ?_
    refine lv_iconst (v := 0) hx hb dX11_readsRest_265 (by decide) ?_
    refine lv_iconst (v := 0) hx hb dX11_readsRest_266 (by decide) ?_
    refine lv_iconst (v := 3) hx hb dX11_readsRest_267 (by decide) ?_
    obtain ⟨q42, hq42, hf⟩ := bd_e hf
    refine k_iW (va_runV (C := RX11) (As := [.int 0, .int 0, .int 3]) (rest := []) ⟨hx, hb, hml, hown, hts⟩ (c_X11_reads (l := l) (sz := H.size) (p0 := 0) (p1 := 0) (p2 := 3) hN hI h86 h87 h88 hq42) (cwV 3 hts gX11_readsRest_X11_reads rfl rfl rfl (by decide +kernel) ⟨Nat.le_of_ble_eq_true rfl, Nat.le_of_ble_eq_true rfl⟩) (preV_of hK hP (by omega) h86 rfl) rfl rfl hl.1 rfl (lv_room (Nat.le_of_ble_eq_true rfl)) dX11_readsRest_268 ⟨Nat.le_of_ble_eq_true rfl, Nat.le_of_ble_eq_true rfl⟩) hA hAd hS (fun C H locs hP hS hpo hbz_q42 => ?_)
    obtain ⟨he, h86, h88⟩ := hpo
    have hag : ∀ i : Nat, i ≠ 86 ∧ i ≠ 88 → C i = C0 i := fun i h => (he i (by omega)).trans (hag i h)
    have h87 := (he 87 (by decide)).trans h87
    refine lv_if_eq (tgt := 312) hx hb dX11_readsRest_271 (by decide) (fun c43 => ?_) (fun c43 => ?_)
    · have hf := it_e c43 hf
      refine lv_iconst (v := 0) hx hb dX11_readsRest_312 (by decide) ?_
      obtain rfl := Option.some.inj hf
      rw [← hQ]
      exact e_zW hx hb hr rfl bz0 hP hS ⟨hag, h86, h88⟩ hlocks dX11_readsRest_313
    · have hf := ie_e c43 hf
      refine lv_aload_n hx hb dX11_readsRest_274 rfl (lv_at hl 1 rfl) ?_
      refine lv_iconst (v := 1) hx hb dX11_readsRest_275 (by decide) ?_
      refine lv_iconst (v := 1) hx hb dX11_readsRest_276 (by decide) ?_
      refine lv_sipush (v := 9999) hx hb dX11_readsRest_277 (by decide) ?_
      obtain ⟨q44, hq44, hf⟩ := bd_e hf
      refine k_iW (va_runV (C := RX11) (As := [.int 1, .int 1, .int 9999]) (rest := []) ⟨hx, hb, hml, hown, hts⟩ (c_X11_reads (l := l) (sz := H.size) (p0 := 1) (p1 := 1) (p2 := 9999) hN hI h86 h87 h88 hq44) (cwV 3 hts gX11_readsRest_X11_reads rfl rfl rfl (by decide +kernel) ⟨Nat.le_of_ble_eq_true rfl, Nat.le_of_ble_eq_true rfl⟩) (preV_of hK hP (by omega) h86 rfl) rfl rfl hl.1 rfl (lv_room (Nat.le_of_ble_eq_true rfl)) dX11_readsRest_280 ⟨Nat.le_of_ble_eq_true rfl, Nat.le_of_ble_eq_true rfl⟩) hA hAd hS (fun C H locs hP hS hpo hbz_q44 => ?_)
      obtain ⟨he, h86, h88⟩ := hpo
      have hag : ∀ i : Nat, i ≠ 86 ∧ i ≠ 88 → C i = C0 i := fun i h => (he i (by omega)).trans (hag i h)
      have h87 := (he 87 (by decide)).trans h87
      refine lv_if_eq (tgt := 312) hx hb dX11_readsRest_283 (by decide) (fun c45 => ?_) (fun c45 => ?_)
      · have hf := it_e c45 hf
        refine lv_iconst (v := 0) hx hb dX11_readsRest_312 (by decide) ?_
        obtain rfl := Option.some.inj hf
        rw [← hQ]
        exact e_zW hx hb hr rfl bz0 hP hS ⟨hag, h86, h88⟩ hlocks dX11_readsRest_313
      · have hf := ie_e c45 hf
        refine lv_aload_n hx hb dX11_readsRest_286 rfl (lv_at hl 1 rfl) ?_
        refine lv_iconst (v := 2) hx hb dX11_readsRest_287 (by decide) ?_
        refine lv_iconst (v := 0) hx hb dX11_readsRest_288 (by decide) ?_
        refine lv_bipush (v := 9) hx hb dX11_readsRest_289 (by decide) ?_
        obtain ⟨q46, hq46, hf⟩ := bd_e hf
        refine k_iW (va_runV (C := RX11) (As := [.int 2, .int 0, .int 9]) (rest := []) ⟨hx, hb, hml, hown, hts⟩ (c_X11_reads (l := l) (sz := H.size) (p0 := 2) (p1 := 0) (p2 := 9) hN hI h86 h87 h88 hq46) (cwV 3 hts gX11_readsRest_X11_reads rfl rfl rfl (by decide +kernel) ⟨Nat.le_of_ble_eq_true rfl, Nat.le_of_ble_eq_true rfl⟩) (preV_of hK hP (by omega) h86 rfl) rfl rfl hl.1 rfl (lv_room (Nat.le_of_ble_eq_true rfl)) dX11_readsRest_291 ⟨Nat.le_of_ble_eq_true rfl, Nat.le_of_ble_eq_true rfl⟩) hA hAd hS (fun C H locs hP hS hpo hbz_q46 => ?_)
        obtain ⟨he, h86, h88⟩ := hpo
        have hag : ∀ i : Nat, i ≠ 86 ∧ i ≠ 88 → C i = C0 i := fun i h => (he i (by omega)).trans (hag i h)
        have h87 := (he 87 (by decide)).trans h87
        refine lv_if_eq (tgt := 312) hx hb dX11_readsRest_294 (by decide) (fun c47 => ?_) (fun c47 => ?_)
        · have hf := it_e c47 hf
          refine lv_iconst (v := 0) hx hb dX11_readsRest_312 (by decide) ?_
          obtain rfl := Option.some.inj hf
          rw [← hQ]
          exact e_zW hx hb hr rfl bz0 hP hS ⟨hag, h86, h88⟩ hlocks dX11_readsRest_313
        · have hf := ie_e c47 hf
          refine lv_aload_n hx hb dX11_readsRest_297 rfl (lv_at hl 1 rfl) ?_
          refine lv_iconst (v := 3) hx hb dX11_readsRest_298 (by decide) ?_
          refine lv_iconst (v := 0) hx hb dX11_readsRest_299 (by decide) ?_
          refine lv_bipush (v := 9) hx hb dX11_readsRest_300 (by decide) ?_
          obtain ⟨q48, hq48, hf⟩ := bd_e hf
          refine k_iW (va_runV (C := RX11) (As := [.int 3, .int 0, .int 9]) (rest := []) ⟨hx, hb, hml, hown, hts⟩ (c_X11_reads (l := l) (sz := H.size) (p0 := 3) (p1 := 0) (p2 := 9) hN hI h86 h87 h88 hq48) (cwV 3 hts gX11_readsRest_X11_reads rfl rfl rfl (by decide +kernel) ⟨Nat.le_of_ble_eq_true rfl, Nat.le_of_ble_eq_true rfl⟩) (preV_of hK hP (by omega) h86 rfl) rfl rfl hl.1 rfl (lv_room (Nat.le_of_ble_eq_true rfl)) dX11_readsRest_302 ⟨Nat.le_of_ble_eq_true rfl, Nat.le_of_ble_eq_true rfl⟩) hA hAd hS (fun C H locs hP hS hpo hbz_q48 => ?_)
          obtain ⟨he, h86, h88⟩ := hpo
          have hag : ∀ i : Nat, i ≠ 86 ∧ i ≠ 88 → C i = C0 i := fun i h => (he i (by omega)).trans (hag i h)
          have h87 := (he 87 (by decide)).trans h87
          refine lv_if_eq (tgt := 312) hx hb dX11_readsRest_305 (by decide) (fun c49 => ?_) (fun c49 => ?_)
          · have hf := it_e c49 hf
            refine lv_iconst (v := 0) hx hb dX11_readsRest_312 (by decide) ?_
            obtain rfl := Option.some.inj hf
            rw [← hQ]
            exact e_zW hx hb hr rfl bz0 hP hS ⟨hag, h86, h88⟩ hlocks dX11_readsRest_313
          · have hf := ie_e c49 hf
            refine lv_iconst (v := 1) hx hb dX11_readsRest_308 (by decide) ?_
            refine lv_goto (tgt := 313) hx hb dX11_readsRest_309 (by decide) ?_
            obtain rfl := Option.some.inj hf
            rw [← hQ]
            exact e_zW hx hb hr rfl bz1 hP hS ⟨hag, h86, h88⟩ hlocks dX11_readsRest_313
  have hf := ie_e c41 hf
  by_cases c50 : p0 = 6
  · have hf := it_e c50 hf
    refine lv_tableIn (tgt := 314) hx hb dX11_readsRest_9 (by rw [c50]; decide) (by rw [c50]; decide) (by rw [c50]; rfl) (by decide) ?_
    refine lv_aload_n hx hb dX11_readsRest_314 rfl (lv_at hl 1 rfl) ?_
    refine lv_iconst (v := 0) hx hb dX11_readsRest_315 (by decide) ?_
    refine lv_iconst (v := 0) hx hb dX11_readsRest_316 (by decide) ?_
    refine lv_bipush (v := 60) hx hb dX11_readsRest_317 (by decide) ?_
    obtain ⟨q51, hq51, hf⟩ := bd_e hf
    refine k_iW (va_runV (C := RX11) (As := [.int 0, .int 0, .int 60]) (rest := []) ⟨hx, hb, hml, hown, hts⟩ (c_X11_reads (l := l) (sz := H.size) (p0 := 0) (p1 := 0) (p2 := 60) hN hI h86 h87 h88 hq51) (cwV 3 hts gX11_readsRest_X11_reads rfl rfl rfl (by decide +kernel) ⟨Nat.le_of_ble_eq_true rfl, Nat.le_of_ble_eq_true rfl⟩) (preV_of hK hP (by omega) h86 rfl) rfl rfl hl.1 rfl (lv_room (Nat.le_of_ble_eq_true rfl)) dX11_readsRest_319 ⟨Nat.le_of_ble_eq_true rfl, Nat.le_of_ble_eq_true rfl⟩) hA hAd hS (fun C H locs hP hS hpo hbz_q51 => ?_)
    obtain ⟨he, h86, h88⟩ := hpo
    have hag : ∀ i : Nat, i ≠ 86 ∧ i ≠ 88 → C i = C0 i := fun i h => (he i (by omega)).trans (hag i h)
    have h87 := (he 87 (by decide)).trans h87
    obtain rfl := Option.some.inj hf
    rw [← hQ]
    exact e_zW hx hb hr rfl hbz_q51 hP hS ⟨hag, h86, h88⟩ hlocks dX11_readsRest_322
  have hf := ie_e c50 hf
  have hsw : Int32.toInt p0 < 0 ∨ 6 < Int32.toInt p0 := by
    have qc2 := ne_toInt c2
    rw [show Int32.toInt 0 = 0 from rfl] at qc2
    have qc15 := ne_toInt c15
    rw [show Int32.toInt 1 = 1 from rfl] at qc15
    have qc20 := ne_toInt c20
    rw [show Int32.toInt 2 = 2 from rfl] at qc20
    have qc27 := ne_toInt c27
    rw [show Int32.toInt 3 = 3 from rfl] at qc27
    have qc36 := ne_toInt c36
    rw [show Int32.toInt 4 = 4 from rfl] at qc36
    have qc41 := ne_toInt c41
    rw [show Int32.toInt 5 = 5 from rfl] at qc41
    have qc50 := ne_toInt c50
    rw [show Int32.toInt 6 = 6 from rfl] at qc50
    omega
  refine lv_tableOut (tgt := 323) hx hb dX11_readsRest_9 hsw (by decide) ?_
  refine lv_aload_n hx hb dX11_readsRest_323 rfl (lv_at hl 1 rfl) ?_
  refine lv_iconst (v := 0) hx hb dX11_readsRest_324 (by decide) ?_
  refine lv_iconst (v := 0) hx hb dX11_readsRest_325 (by decide) ?_
  refine lv_bipush (v := 99) hx hb dX11_readsRest_326 (by decide) ?_
  obtain ⟨q52, hq52, hf⟩ := bd_e hf
  refine k_iW (va_runV (C := RX11) (As := [.int 0, .int 0, .int 99]) (rest := []) ⟨hx, hb, hml, hown, hts⟩ (c_X11_reads (l := l) (sz := H.size) (p0 := 0) (p1 := 0) (p2 := 99) hN hI h86 h87 h88 hq52) (cwV 3 hts gX11_readsRest_X11_reads rfl rfl rfl (by decide +kernel) ⟨Nat.le_of_ble_eq_true rfl, Nat.le_of_ble_eq_true rfl⟩) (preV_of hK hP (by omega) h86 rfl) rfl rfl hl.1 rfl (lv_room (Nat.le_of_ble_eq_true rfl)) dX11_readsRest_328 ⟨Nat.le_of_ble_eq_true rfl, Nat.le_of_ble_eq_true rfl⟩) hA hAd hS (fun C H locs hP hS hpo hbz_q52 => ?_)
  obtain ⟨he, h86, h88⟩ := hpo
  have hag : ∀ i : Nat, i ≠ 86 ∧ i ≠ 88 → C i = C0 i := fun i h => (he i (by omega)).trans (hag i h)
  have h87 := (he 87 (by decide)).trans h87
  obtain rfl := Option.some.inj hf
  rw [← hQ]
  exact e_zW hx hb hr rfl hbz_q52 hP hS ⟨hag, h86, h88⟩ hlocks dX11_readsRest_331

def f_X11_readsLine (m_text : Nat → Int32) (m_read : Nat → Int32) (m_len : Int32) (m_rm : Int32) (m_at : Int32) (m_pl : Int32) (m_end : Int32) : Option (Int32 × (Nat → Int32) × Int32 × Int32 × Int32 × Int32) :=
  (f_X11_isWord 180528 4 m_text m_pl m_end).bind fun q1 =>
  (if q1 = 0 then
    (f_X11_isWord 769414 4 m_text m_pl m_end).bind fun q11 =>
    if q11 = 0 then
      (f_X11_isWord 171529715 6 m_text m_pl m_end).bind fun q13 =>
      if q13 = 0 then
        (f_X11_isWord 537255 4 m_text m_pl m_end).bind fun q15 =>
        if q15 = 0 then
          (f_X11_isWord 468018 4 m_text m_pl m_end).bind fun q17 =>
          if q17 = 0 then
            (f_X11_isWord 17059 3 m_text m_pl m_end).bind fun q19 =>
            if q19 = 0 then
              (f_X11_isWord 661804 4 m_text m_pl m_end).bind fun q21 =>
              if q21 = 0 then
                (f_X11_isWord 178670 4 m_text m_pl m_end).bind fun q23 =>
                if q23 = 0 then
                  some ((-1))
                else
                  some (7)
              else
                some (6)
            else
              some (5)
          else
            some (4)
        else
          some (3)
      else
        some (2)
    else
      some (1)
  else
    some (0) : Option (Int32)).bind fun q2 =>
  if q2 = (-1) then
    some (0, m_read, m_rm, m_at, m_pl, m_end)
  else
    (f_X11_token m_text m_len m_at m_pl m_end).bind fun q4 =>
    wi m_read 54 ((6 * m_rm)) (q2) fun f5 =>
    (f_X11_readsRest q2 m_text f5 m_len m_rm q4.1 q4.2.1 q4.2.2).bind fun q7 =>
    if q7.1 = 0 then
      some (0, q7.2.1, m_rm, q7.2.2.1, q7.2.2.2.1, q7.2.2.2.2)
    else
      lt ((m_rm + 1) : Int32) fun x9 =>
      some (1, q7.2.1, x9, q7.2.2.1, q7.2.2.2.1, q7.2.2.2.2)
abbrev rmX11_readsLine : Room := { frames := 4, cells := 0, slots := 0, locals := 87 }
set_option maxHeartbeats 4000000 in
set_option maxRecDepth 100000 in
theorem c_X11_readsLine {l : Launch} {D : va_G} {g : Nat → ClassId} {N : Nat} {ad : Nat → Nat} {C : Nat → va_E} {sz : Nat} {m_len : Int32} {m_rm : Int32} {m_there : Int32} {m_lift : Int32} {m_blank : Int32} {m_fm : Int32} {m_at : Int32} {m_pl : Int32} {m_end : Int32} {m_seed : Int32} {m_text : Nat → Int32} {m_read : Nat → Int32}  {rr : Int32 × (Nat → Int32) × Int32 × Int32 × Int32 × Int32} (hN : 109 ≤ N) (hI : Inj N ad) (h86 : C 86 = .inr (11, [.ref (ad 87), .int m_len, .ref (ad 88), .int m_rm, .int m_there, .ref (ad 89), .ref (ad 90), .ref (ad 91), .ref (ad 92), .ref (ad 93), .ref (ad 94), .ref (ad 95), .ref (ad 96), .ref (ad 97), .ref (ad 98), .ref (ad 99), .ref (ad 100), .ref (ad 101), .int m_lift, .int m_blank, .ref (ad 102), .int m_fm, .int m_at, .int m_pl, .int m_end, .ref (ad 103), .ref (ad 104), .ref (ad 105), .ref (ad 106), .ref (ad 107), .ref (ad 108), .int m_seed])) (h87 : C 87 = aI g 200 m_text) (h88 : C 88 = aI g 54 m_read) (hf : f_X11_readsLine m_text m_read m_len m_rm m_at m_pl m_end = some rr) : Met l yX11_readsLine wsX11_readsLine rmX11_readsLine (PcW D g N ad C sz [.ref (ad 86)]) (QiW D N ad sz bz rr.1 (fun C' => (∀ i : Nat, i ≠ 86 ∧ i ≠ 88 → C' i = C i) ∧ (C' 86 = .inr (11, [.ref (ad 87), .int m_len, .ref (ad 88), .int rr.2.2.1, .int m_there, .ref (ad 89), .ref (ad 90), .ref (ad 91), .ref (ad 92), .ref (ad 93), .ref (ad 94), .ref (ad 95), .ref (ad 96), .ref (ad 97), .ref (ad 98), .ref (ad 99), .ref (ad 100), .ref (ad 101), .int m_lift, .int m_blank, .ref (ad 102), .int m_fm, .int rr.2.2.2.1, .int rr.2.2.2.2.1, .int rr.2.2.2.2.2, .ref (ad 103), .ref (ad 104), .ref (ad 105), .ref (ad 106), .ref (ad 107), .ref (ad 108), .int m_seed])) ∧ (C' 88 = aI g 54 rr.2.1))) 0 0 (Aw N ad sz) := by
  refine Met.ofW (cc := cX11_readsLine) (maxL := 2) (ret := (some .boolean)) (by decide) rfl ?_
  intro p e s m args below meth c s₁ B hml hv
  obtain ⟨hav, hsz, hK, hP⟩ := hv
  subst hsz
  have hx := B.exec
  have hb := B.bytes
  have hr := B.returns
  have hts := atoms_spec (ws := wsX11_readsLine) B.pre
  have hown : s.vm.findClass RX11 = some m.cls := findClass_of_methodNamed B.named
  have hlocks := B.notSynchronized
  generalize hQ : MQ below (QiW D N ad s.heap.size bz rr.1 (fun C' => (∀ i : Nat, i ≠ 86 ∧ i ≠ 88 → C' i = C i) ∧ (C' 86 = .inr (11, [.ref (ad 87), .int m_len, .ref (ad 88), .int rr.2.2.1, .int m_there, .ref (ad 89), .ref (ad 90), .ref (ad 91), .ref (ad 92), .ref (ad 93), .ref (ad 94), .ref (ad 95), .ref (ad 96), .ref (ad 97), .ref (ad 98), .ref (ad 99), .ref (ad 100), .ref (ad 101), .int m_lift, .int m_blank, .ref (ad 102), .int m_fm, .int rr.2.2.2.1, .int rr.2.2.2.2.1, .int rr.2.2.2.2.2, .ref (ad 103), .ref (ad 104), .ref (ad 105), .ref (ad 106), .ref (ad 107), .ref (ad 108), .int m_seed])) ∧ (C' 88 = aI g 54 rr.2.1))) args s 0 0 (Aw N ad s.heap.size) = QQ
  have hS : va_S (Aw N ad s.heap.size) s.heap s.heap [] := va_S.rf
  have hA : ∀ q, s.heap.size ≤ q → (Aw N ad s.heap.size) q := fun q h => Or.inr h
  have hAd : ∀ j : Nat, j < N → (Aw N ad s.heap.size) (ad j) := fun j h => Or.inl ⟨j, h, rfl⟩
  obtain ⟨C0, hC0⟩ : ∃ C0 : Nat → va_E, C0 = C := ⟨_, rfl⟩
  have hag : ∀ i : Nat, i ≠ 86 ∧ i ≠ 88 → C i = C0 i := fun i _ => by rw [hC0]
  rw [← hC0] at hQ
  have k0 := hts (.constant RX11 121 (180528)) (List.mem_of_getElem? (i := 1) rfl)
  have k1 := hts (.constant RX11 125 (769414)) (List.mem_of_getElem? (i := 2) rfl)
  have k2 := hts (.constant RX11 126 (171529715)) (List.mem_of_getElem? (i := 3) rfl)
  have k3 := hts (.constant RX11 127 (537255)) (List.mem_of_getElem? (i := 4) rfl)
  have k4 := hts (.constant RX11 128 (468018)) (List.mem_of_getElem? (i := 5) rfl)
  have k5 := hts (.constant RX11 129 (661804)) (List.mem_of_getElem? (i := 6) rfl)
  have k6 := hts (.constant RX11 130 (178670)) (List.mem_of_getElem? (i := 7) rfl)
  have k7 := hts (.fieldLink RX11 13 "UpDrainModel" "read" "[I") (List.mem_of_getElem? (i := 8) rfl)
  have nX11 : ∀ w ∈ u_ws RX11 TX11 32, w ∈ wsX11_readsLine := fun _ h => List.mem_cons_of_mem _ (List.mem_append_right _ h)
  have k9 := hts (.fieldLink RX11 111 "UpDrainModel" "readMany" "I") (List.mem_of_getElem? (i := 9) rfl)
  have hE := lg_entry_eq m [.ref (ad 86)] 2
  rw [← hav] at hE
  rw [hE]
  have hl := lv_entry [.ref (ad 86)] (n := 2) (Nat.le_of_ble_eq_true rfl)
  generalize (lg_sl [.ref (ad 86)] ++ List.replicate (2 - (lg_sl [.ref (ad 86)]).length) Slot.unset).toArray = ls at hl ⊢
  have hl : lv_has ls 2 [(0, .ref (ad 86))] := hl
  clear hE
  unfold f_X11_readsLine at hf
  suffices hgo : ∀ (H : Heap) (locs : List Loc), va_P D vwCl (wd N ad C) H → va_S (Aw N ad s.heap.size) s.heap H locs → W p l e (headSpec wsX11_readsLine rmX11_readsLine).room s m args below meth c H locs 0 0 QQ (F0 m 0 ls []) from hgo s.heap [] hP hS
  clear hS hP
  intro H locs hP hS
  refine lv_aload_n hx hb dX11_readsLine_0 rfl (lv_at hl 0 rfl) ?_
  refine lv_ldc (own := RX11) hx hb hown k0 dX11_readsLine_1 ?_
  refine lv_iconst (v := 4) hx hb dX11_readsLine_3 (by decide) ?_
  obtain ⟨q1, hq1, hf⟩ := bd_e hf
  refine k_iR (va_runV (C := RX11) (As := [.int 180528, .int 4]) (rest := []) ⟨hx, hb, hml, hown, hts⟩ (c_X11_isWord (l := l) (sz := H.size) (p0 := 180528) (p1 := 4) hN h86 h87 hq1) (cwV 2 hts gX11_readsLine_X11_isWord rfl rfl rfl (by decide +kernel) ⟨Nat.le_of_ble_eq_true rfl, Nat.le_of_ble_eq_true rfl⟩) (preV_of hK hP (by omega) h86 rfl) rfl rfl hl.1 rfl (lv_room (Nat.le_of_ble_eq_true rfl)) dX11_readsLine_4 ⟨Nat.le_of_ble_eq_true rfl, Nat.le_of_ble_eq_true rfl⟩) hA hP hS (fun H locs hP hS hbz_q1 => ?_)
  obtain ⟨q2, htq2, hf⟩ := bd_e hf
  have jnq2 : ∀ (C : Nat → va_E) (H : Heap) (locs : List Loc) (ls : Array Slot), va_P D vwCl (wd N ad C) H → va_S (Aw N ad s.heap.size) s.heap H locs → (∀ i : Nat, i ≠ 86 ∧ i ≠ 88 → C i = C0 i) → C 86 = .inr (11, [.ref (ad 87), .int m_len, .ref (ad 88), .int m_rm, .int m_there, .ref (ad 89), .ref (ad 90), .ref (ad 91), .ref (ad 92), .ref (ad 93), .ref (ad 94), .ref (ad 95), .ref (ad 96), .ref (ad 97), .ref (ad 98), .ref (ad 99), .ref (ad 100), .ref (ad 101), .int m_lift, .int m_blank, .ref (ad 102), .int m_fm, .int m_at, .int m_pl, .int m_end, .ref (ad 103), .ref (ad 104), .ref (ad 105), .ref (ad 106), .ref (ad 107), .ref (ad 108), .int m_seed]) → C 87 = aI g 200 m_text → C 88 = aI g 54 m_read → lv_has ls 2 [(0, .ref (ad 86))] → W p l e (headSpec wsX11_readsLine rmX11_readsLine).room s m args below meth c H locs 0 0 QQ (F0 m 117 ls [.int q2]) := by
    intro C H locs ls hP hS hag h86 h87 h88 hl
    refine lv_istore_n (lv' := [(1, .int q2), (0, .ref (ad 86))]) hx hb dX11_readsLine_117 rfl hl (by decide) rfl (fun ls hl => ?_)
    refine lv_iload_n hx hb dX11_readsLine_118 rfl (lv_at hl 0 rfl) ?_
    refine lv_iconst (v := (-1)) hx hb dX11_readsLine_119 (by decide) ?_
    refine lv_icmp_ne (tgt := 125) hx hb dX11_readsLine_120 (by decide) (fun c3 => ?_) (fun c3 => ?_)
    · have hf := ie_e c3 hf
      refine lv_aload_n hx hb dX11_readsLine_125 rfl (lv_at hl 1 rfl) ?_
      obtain ⟨q4, hq4, hf⟩ := bd_e hf
      refine k_vW (va_runV (C := RX11) (As := []) (rest := []) ⟨hx, hb, hml, hown, hts⟩ (c_X11_token (l := l) (sz := H.size)  hN hI h86 h87 hq4) (cwV 0 hts gX11_readsLine_X11_token rfl rfl rfl (by decide +kernel) ⟨Nat.le_of_ble_eq_true rfl, Nat.le_of_ble_eq_true rfl⟩) (preV_of hK hP (by omega) h86 rfl) rfl rfl hl.1 rfl (lv_room (Nat.le_of_ble_eq_true rfl)) dX11_readsLine_126 ⟨Nat.le_of_ble_eq_true rfl, Nat.le_of_ble_eq_true rfl⟩) hA hAd hS (fun C H locs hP hS hpo => ?_)
      obtain ⟨he, h86⟩ := hpo
      have hag : ∀ i : Nat, i ≠ 86 ∧ i ≠ 88 → C i = C0 i := fun i h => (he i (by omega)).trans (hag i h)
      have h87 := (he 87 (by decide)).trans h87
      have h88 := (he 88 (by decide)).trans h88
      refine lv_aload_n hx hb dX11_readsLine_129 rfl (lv_at hl 1 rfl) ?_
      refine r_get (own := RX11) (T := TX11) (n := 32) (ci := 11) (v := .ref (ad 88)) hx hb hts nX11 hown hK hP (by omega) h86 rfl 2 (by decide) k7 rfl dX11_readsLine_130 ?_
      refine lv_bipush (v := 6) hx hb dX11_readsLine_133 (by decide) ?_
      refine lv_aload_n hx hb dX11_readsLine_135 rfl (lv_at hl 1 rfl) ?_
      refine r_get (own := RX11) (T := TX11) (n := 32) (ci := 11) (v := .int m_rm) hx hb hts nX11 hown hK hP (by omega) h86 rfl 3 (by decide) k9 rfl dX11_readsLine_136 ?_
      refine lv_imul hx hb dX11_readsLine_139 ?_
      refine lv_iload_n hx hb dX11_readsLine_140 rfl (lv_at hl 0 rfl) ?_
      obtain ⟨i6, f5, ef5, hf⟩ := wi_e hf
      refine r_iast hx hb hK hI hAd hP hS (by omega) h88 i6 dX11_readsLine_141 ef5 (fun C H locs hP hS he hn => ?_)
      have hag : ∀ i : Nat, i ≠ 86 ∧ i ≠ 88 → C i = C0 i := fun i h => (he i (by omega)).trans (hag i h)
      have h86 := (he 86 (by decide)).trans h86
      have h87 := (he 87 (by decide)).trans h87
      have h88 : C 88 = aI g 54 f5 := hn
      refine lv_aload_n hx hb dX11_readsLine_142 rfl (lv_at hl 1 rfl) ?_
      refine lv_iload_n hx hb dX11_readsLine_143 rfl (lv_at hl 0 rfl) ?_
      obtain ⟨q7, hq7, hf⟩ := bd_e hf
      refine k_iW (va_runV (C := RX11) (As := [.int q2]) (rest := []) ⟨hx, hb, hml, hown, hts⟩ (c_X11_readsRest (l := l) (sz := H.size) (p0 := q2) hN hI h86 h87 h88 hq7) (cwV 1 hts gX11_readsLine_X11_readsRest rfl rfl rfl (by decide +kernel) ⟨Nat.le_of_ble_eq_true rfl, Nat.le_of_ble_eq_true rfl⟩) (preV_of hK hP (by omega) h86 rfl) rfl rfl hl.1 rfl (lv_room (Nat.le_of_ble_eq_true rfl)) dX11_readsLine_144 ⟨Nat.le_of_ble_eq_true rfl, Nat.le_of_ble_eq_true rfl⟩) hA hAd hS (fun C H locs hP hS hpo hbz_q7 => ?_)
      obtain ⟨he, h86, h88⟩ := hpo
      have hag : ∀ i : Nat, i ≠ 86 ∧ i ≠ 88 → C i = C0 i := fun i h => (he i (by omega)).trans (hag i h)
      have h87 := (he 87 (by decide)).trans h87
      refine lv_if_ne (tgt := 152) hx hb dX11_readsLine_147 (by decide) (fun c8 => ?_) (fun c8 => ?_)
      · have hf := ie_e c8 hf
        refine lv_aload_n hx hb dX11_readsLine_152 rfl (lv_at hl 1 rfl) ?_
        refine lv_dup hx hb dX11_readsLine_153 rfl ?_
        refine r_get (own := RX11) (T := TX11) (n := 32) (ci := 11) (v := .int m_rm) hx hb hts nX11 hown hK hP (by omega) h86 rfl 3 (by decide) k9 rfl dX11_readsLine_154 ?_
        refine lv_iconst (v := 1) hx hb dX11_readsLine_157 (by decide) ?_
        refine lv_iadd hx hb dX11_readsLine_158 ?_
        obtain ⟨x9, ex9, hf⟩ := lt_e hf
        refine tp_i ex9 ?_
        refine r_put (own := RX11) (T := TX11) (n := 32) (ci := 11) (v := .int x9) hx hb hts nX11 tyX11 tyX11_ok nmX11 hown hK hI hAd hP hS (by omega) h86 rfl 3 (by decide) k9 rfl rfl rfl (Nat.le_of_ble_eq_true rfl) dX11_readsLine_159 (fun C H locs hP hS he hn => ?_)
        have hag : ∀ i : Nat, i ≠ 86 ∧ i ≠ 88 → C i = C0 i := fun i h => (he i (by omega)).trans (hag i h)
        have h87 := (he 87 (by decide)).trans h87
        have h88 := (he 88 (by decide)).trans h88
        have h86 : C 86 = .inr (11, [.ref (ad 87), .int m_len, .ref (ad 88), .int x9, .int m_there, .ref (ad 89), .ref (ad 90), .ref (ad 91), .ref (ad 92), .ref (ad 93), .ref (ad 94), .ref (ad 95), .ref (ad 96), .ref (ad 97), .ref (ad 98), .ref (ad 99), .ref (ad 100), .ref (ad 101), .int m_lift, .int m_blank, .ref (ad 102), .int m_fm, .int q7.2.2.1, .int q7.2.2.2.1, .int q7.2.2.2.2, .ref (ad 103), .ref (ad 104), .ref (ad 105), .ref (ad 106), .ref (ad 107), .ref (ad 108), .int m_seed]) := hn
        refine lv_iconst (v := 1) hx hb dX11_readsLine_162 (by decide) ?_
        obtain rfl := Option.some.inj hf
        rw [← hQ]
        exact e_zW hx hb hr rfl bz1 hP hS ⟨hag, h86, h88⟩ hlocks dX11_readsLine_163
      · have hf := it_e c8 hf
        refine lv_iconst (v := 0) hx hb dX11_readsLine_150 (by decide) ?_
        obtain rfl := Option.some.inj hf
        rw [← hQ]
        exact e_zW hx hb hr rfl bz0 hP hS ⟨hag, h86, h88⟩ hlocks dX11_readsLine_151
    · have hf := it_e c3 hf
      refine lv_iconst (v := 0) hx hb dX11_readsLine_123 (by decide) ?_
      obtain rfl := Option.some.inj hf
      rw [← hQ]
      exact e_zW hx hb hr rfl bz0 hP hS ⟨hag, h86, h88⟩ hlocks dX11_readsLine_124
  clear hf
  have hf := htq2
  refine lv_if_eq (tgt := 14) hx hb dX11_readsLine_7 (by decide) (fun c10 => ?_) (fun c10 => ?_)
  · have hf := it_e c10 hf
    refine lv_aload_n hx hb dX11_readsLine_14 rfl (lv_at hl 0 rfl) ?_
    refine lv_ldc (own := RX11) hx hb hown k1 dX11_readsLine_15 ?_
    refine lv_iconst (v := 4) hx hb dX11_readsLine_17 (by decide) ?_
    obtain ⟨q11, hq11, hf⟩ := bd_e hf
    refine k_iR (va_runV (C := RX11) (As := [.int 769414, .int 4]) (rest := []) ⟨hx, hb, hml, hown, hts⟩ (c_X11_isWord (l := l) (sz := H.size) (p0 := 769414) (p1 := 4) hN h86 h87 hq11) (cwV 2 hts gX11_readsLine_X11_isWord rfl rfl rfl (by decide +kernel) ⟨Nat.le_of_ble_eq_true rfl, Nat.le_of_ble_eq_true rfl⟩) (preV_of hK hP (by omega) h86 rfl) rfl rfl hl.1 rfl (lv_room (Nat.le_of_ble_eq_true rfl)) dX11_readsLine_18 ⟨Nat.le_of_ble_eq_true rfl, Nat.le_of_ble_eq_true rfl⟩) hA hP hS (fun H locs hP hS hbz_q11 => ?_)
    refine lv_if_eq (tgt := 28) hx hb dX11_readsLine_21 (by decide) (fun c12 => ?_) (fun c12 => ?_)
    · have hf := it_e c12 hf
      refine lv_aload_n hx hb dX11_readsLine_28 rfl (lv_at hl 0 rfl) ?_
      refine lv_ldc (own := RX11) hx hb hown k2 dX11_readsLine_29 ?_
      refine lv_bipush (v := 6) hx hb dX11_readsLine_31 (by decide) ?_
      obtain ⟨q13, hq13, hf⟩ := bd_e hf
      refine k_iR (va_runV (C := RX11) (As := [.int 171529715, .int 6]) (rest := []) ⟨hx, hb, hml, hown, hts⟩ (c_X11_isWord (l := l) (sz := H.size) (p0 := 171529715) (p1 := 6) hN h86 h87 hq13) (cwV 2 hts gX11_readsLine_X11_isWord rfl rfl rfl (by decide +kernel) ⟨Nat.le_of_ble_eq_true rfl, Nat.le_of_ble_eq_true rfl⟩) (preV_of hK hP (by omega) h86 rfl) rfl rfl hl.1 rfl (lv_room (Nat.le_of_ble_eq_true rfl)) dX11_readsLine_33 ⟨Nat.le_of_ble_eq_true rfl, Nat.le_of_ble_eq_true rfl⟩) hA hP hS (fun H locs hP hS hbz_q13 => ?_)
      refine lv_if_eq (tgt := 43) hx hb dX11_readsLine_36 (by decide) (fun c14 => ?_) (fun c14 => ?_)
      · have hf := it_e c14 hf
        refine lv_aload_n hx hb dX11_readsLine_43 rfl (lv_at hl 0 rfl) ?_
        refine lv_ldc (own := RX11) hx hb hown k3 dX11_readsLine_44 ?_
        refine lv_iconst (v := 4) hx hb dX11_readsLine_46 (by decide) ?_
        obtain ⟨q15, hq15, hf⟩ := bd_e hf
        refine k_iR (va_runV (C := RX11) (As := [.int 537255, .int 4]) (rest := []) ⟨hx, hb, hml, hown, hts⟩ (c_X11_isWord (l := l) (sz := H.size) (p0 := 537255) (p1 := 4) hN h86 h87 hq15) (cwV 2 hts gX11_readsLine_X11_isWord rfl rfl rfl (by decide +kernel) ⟨Nat.le_of_ble_eq_true rfl, Nat.le_of_ble_eq_true rfl⟩) (preV_of hK hP (by omega) h86 rfl) rfl rfl hl.1 rfl (lv_room (Nat.le_of_ble_eq_true rfl)) dX11_readsLine_47 ⟨Nat.le_of_ble_eq_true rfl, Nat.le_of_ble_eq_true rfl⟩) hA hP hS (fun H locs hP hS hbz_q15 => ?_)
        refine lv_if_eq (tgt := 57) hx hb dX11_readsLine_50 (by decide) (fun c16 => ?_) (fun c16 => ?_)
        · have hf := it_e c16 hf
          refine lv_aload_n hx hb dX11_readsLine_57 rfl (lv_at hl 0 rfl) ?_
          refine lv_ldc (own := RX11) hx hb hown k4 dX11_readsLine_58 ?_
          refine lv_iconst (v := 4) hx hb dX11_readsLine_60 (by decide) ?_
          obtain ⟨q17, hq17, hf⟩ := bd_e hf
          refine k_iR (va_runV (C := RX11) (As := [.int 468018, .int 4]) (rest := []) ⟨hx, hb, hml, hown, hts⟩ (c_X11_isWord (l := l) (sz := H.size) (p0 := 468018) (p1 := 4) hN h86 h87 hq17) (cwV 2 hts gX11_readsLine_X11_isWord rfl rfl rfl (by decide +kernel) ⟨Nat.le_of_ble_eq_true rfl, Nat.le_of_ble_eq_true rfl⟩) (preV_of hK hP (by omega) h86 rfl) rfl rfl hl.1 rfl (lv_room (Nat.le_of_ble_eq_true rfl)) dX11_readsLine_61 ⟨Nat.le_of_ble_eq_true rfl, Nat.le_of_ble_eq_true rfl⟩) hA hP hS (fun H locs hP hS hbz_q17 => ?_)
          refine lv_if_eq (tgt := 71) hx hb dX11_readsLine_64 (by decide) (fun c18 => ?_) (fun c18 => ?_)
          · have hf := it_e c18 hf
            refine lv_aload_n hx hb dX11_readsLine_71 rfl (lv_at hl 0 rfl) ?_
            refine lv_sipush (v := 17059) hx hb dX11_readsLine_72 (by decide) ?_
            refine lv_iconst (v := 3) hx hb dX11_readsLine_75 (by decide) ?_
            obtain ⟨q19, hq19, hf⟩ := bd_e hf
            refine k_iR (va_runV (C := RX11) (As := [.int 17059, .int 3]) (rest := []) ⟨hx, hb, hml, hown, hts⟩ (c_X11_isWord (l := l) (sz := H.size) (p0 := 17059) (p1 := 3) hN h86 h87 hq19) (cwV 2 hts gX11_readsLine_X11_isWord rfl rfl rfl (by decide +kernel) ⟨Nat.le_of_ble_eq_true rfl, Nat.le_of_ble_eq_true rfl⟩) (preV_of hK hP (by omega) h86 rfl) rfl rfl hl.1 rfl (lv_room (Nat.le_of_ble_eq_true rfl)) dX11_readsLine_76 ⟨Nat.le_of_ble_eq_true rfl, Nat.le_of_ble_eq_true rfl⟩) hA hP hS (fun H locs hP hS hbz_q19 => ?_)
            refine lv_if_eq (tgt := 86) hx hb dX11_readsLine_79 (by decide) (fun c20 => ?_) (fun c20 => ?_)
            · have hf := it_e c20 hf
              refine lv_aload_n hx hb dX11_readsLine_86 rfl (lv_at hl 0 rfl) ?_
              refine lv_ldc (own := RX11) hx hb hown k5 dX11_readsLine_87 ?_
              refine lv_iconst (v := 4) hx hb dX11_readsLine_89 (by decide) ?_
              obtain ⟨q21, hq21, hf⟩ := bd_e hf
              refine k_iR (va_runV (C := RX11) (As := [.int 661804, .int 4]) (rest := []) ⟨hx, hb, hml, hown, hts⟩ (c_X11_isWord (l := l) (sz := H.size) (p0 := 661804) (p1 := 4) hN h86 h87 hq21) (cwV 2 hts gX11_readsLine_X11_isWord rfl rfl rfl (by decide +kernel) ⟨Nat.le_of_ble_eq_true rfl, Nat.le_of_ble_eq_true rfl⟩) (preV_of hK hP (by omega) h86 rfl) rfl rfl hl.1 rfl (lv_room (Nat.le_of_ble_eq_true rfl)) dX11_readsLine_90 ⟨Nat.le_of_ble_eq_true rfl, Nat.le_of_ble_eq_true rfl⟩) hA hP hS (fun H locs hP hS hbz_q21 => ?_)
              refine lv_if_eq (tgt := 101) hx hb dX11_readsLine_93 (by decide) (fun c22 => ?_) (fun c22 => ?_)
              · have hf := it_e c22 hf
                refine lv_aload_n hx hb dX11_readsLine_101 rfl (lv_at hl 0 rfl) ?_
                refine lv_ldc (own := RX11) hx hb hown k6 dX11_readsLine_102 ?_
                refine lv_iconst (v := 4) hx hb dX11_readsLine_104 (by decide) ?_
                obtain ⟨q23, hq23, hf⟩ := bd_e hf
                refine k_iR (va_runV (C := RX11) (As := [.int 178670, .int 4]) (rest := []) ⟨hx, hb, hml, hown, hts⟩ (c_X11_isWord (l := l) (sz := H.size) (p0 := 178670) (p1 := 4) hN h86 h87 hq23) (cwV 2 hts gX11_readsLine_X11_isWord rfl rfl rfl (by decide +kernel) ⟨Nat.le_of_ble_eq_true rfl, Nat.le_of_ble_eq_true rfl⟩) (preV_of hK hP (by omega) h86 rfl) rfl rfl hl.1 rfl (lv_room (Nat.le_of_ble_eq_true rfl)) dX11_readsLine_105 ⟨Nat.le_of_ble_eq_true rfl, Nat.le_of_ble_eq_true rfl⟩) hA hP hS (fun H locs hP hS hbz_q23 => ?_)
                refine lv_if_eq (tgt := 116) hx hb dX11_readsLine_108 (by decide) (fun c24 => ?_) (fun c24 => ?_)
                · have hf := it_e c24 hf
                  refine lv_iconst (v := (-1)) hx hb dX11_readsLine_116 (by decide) ?_
                  obtain rfl := Option.some.inj hf
                  exact jnq2 C H locs ls hP hS hag h86 h87 h88 (lv_sub hl [0] rfl)
                · have hf := ie_e c24 hf
                  refine lv_bipush (v := 7) hx hb dX11_readsLine_111 (by decide) ?_
                  refine lv_goto (tgt := 117) hx hb dX11_readsLine_113 (by decide) ?_
                  obtain rfl := Option.some.inj hf
                  exact jnq2 C H locs ls hP hS hag h86 h87 h88 (lv_sub hl [0] rfl)
              · have hf := ie_e c22 hf
                refine lv_bipush (v := 6) hx hb dX11_readsLine_96 (by decide) ?_
                refine lv_goto (tgt := 117) hx hb dX11_readsLine_98 (by decide) ?_
                obtain rfl := Option.some.inj hf
                exact jnq2 C H locs ls hP hS hag h86 h87 h88 (lv_sub hl [0] rfl)
            · have hf := ie_e c20 hf
              refine lv_iconst (v := 5) hx hb dX11_readsLine_82 (by decide) ?_
              refine lv_goto (tgt := 117) hx hb dX11_readsLine_83 (by decide) ?_
              obtain rfl := Option.some.inj hf
              exact jnq2 C H locs ls hP hS hag h86 h87 h88 (lv_sub hl [0] rfl)
          · have hf := ie_e c18 hf
            refine lv_iconst (v := 4) hx hb dX11_readsLine_67 (by decide) ?_
            refine lv_goto (tgt := 117) hx hb dX11_readsLine_68 (by decide) ?_
            obtain rfl := Option.some.inj hf
            exact jnq2 C H locs ls hP hS hag h86 h87 h88 (lv_sub hl [0] rfl)
        · have hf := ie_e c16 hf
          refine lv_iconst (v := 3) hx hb dX11_readsLine_53 (by decide) ?_
          refine lv_goto (tgt := 117) hx hb dX11_readsLine_54 (by decide) ?_
          obtain rfl := Option.some.inj hf
          exact jnq2 C H locs ls hP hS hag h86 h87 h88 (lv_sub hl [0] rfl)
      · have hf := ie_e c14 hf
        refine lv_iconst (v := 2) hx hb dX11_readsLine_39 (by decide) ?_
        refine lv_goto (tgt := 117) hx hb dX11_readsLine_40 (by decide) ?_
        obtain rfl := Option.some.inj hf
        exact jnq2 C H locs ls hP hS hag h86 h87 h88 (lv_sub hl [0] rfl)
    · have hf := ie_e c12 hf
      refine lv_iconst (v := 1) hx hb dX11_readsLine_24 (by decide) ?_
      refine lv_goto (tgt := 117) hx hb dX11_readsLine_25 (by decide) ?_
      obtain rfl := Option.some.inj hf
      exact jnq2 C H locs ls hP hS hag h86 h87 h88 (lv_sub hl [0] rfl)
  · have hf := ie_e c10 hf
    refine lv_iconst (v := 0) hx hb dX11_readsLine_10 (by decide) ?_
    refine lv_goto (tgt := 117) hx hb dX11_readsLine_11 (by decide) ?_
    obtain rfl := Option.some.inj hf
    exact jnq2 C H locs ls hP hS hag h86 h87 h88 (lv_sub hl [0] rfl)

def LX11_fault_26 (m_text : Nat → Int32) (m_len : Int32) (ko : Int32 → Int32 → Int32 → (Nat → Int32) → Int32 → Option (Int32 × (Nat → Int32) × Int32 × Int32 × Int32 × Int32)) : Nat → Int32 → Int32 → Int32 → (Nat → Int32) → Int32 → Option (Int32 × (Nat → Int32) × Int32 × Int32 × Int32 × Int32)
  | 0, _, _, _, _, _ => none
  | n + 1, x4, x5, x6, f7, x8 =>
    if m_len ≤ x6 then
      ko x4 x5 x6 f7 x8
    else
      (if (x5 - x6) = 1 then
        ri m_text 200 (x6) fun x22 =>
        if x22 = 59 then
          if 9 ≤ x8 then
            some (0)
          else
            some (1)
        else
          some (0)
      else
        some (0) : Option (Int32)).bind fun q15 =>
      (if q15 = 0 then
        some (q15, x4, x5, x6, f7, x8)
      else
        (f_X11_token m_text m_len x4 x6 x5).bind fun q19 =>
        (f_X11_readsLine m_text f7 m_len x8 q19.1 q19.2.1 q19.2.2).bind fun q20 =>
        some (q20.1, q20.2.2.2.1, q20.2.2.2.2.2, q20.2.2.2.2.1, q20.2.1, q20.2.2.1) : Option (Int32 × Int32 × Int32 × Int32 × (Nat → Int32) × Int32)).bind fun q16 =>
      if q16.1 = 0 then
        some (q16.2.2.2.1, q16.2.2.2.2.1, q16.2.2.2.2.2, q16.2.1, q16.2.2.2.1, q16.2.2.1)
      else
        LX11_fault_26 m_text m_len ko n q16.2.1 q16.2.2.1 q16.2.2.2.1 q16.2.2.2.2.1 q16.2.2.2.2.2
theorem LX11_fault_26_z (m_text : Nat → Int32) (m_len : Int32) (ko : Int32 → Int32 → Int32 → (Nat → Int32) → Int32 → Option (Int32 × (Nat → Int32) × Int32 × Int32 × Int32 × Int32)) (x4 : Int32) (x5 : Int32) (x6 : Int32) (f7 : Nat → Int32) (x8 : Int32) : LX11_fault_26 m_text m_len ko 0 x4 x5 x6 f7 x8 = none := rfl
theorem LX11_fault_26_s (m_text : Nat → Int32) (m_len : Int32) (ko : Int32 → Int32 → Int32 → (Nat → Int32) → Int32 → Option (Int32 × (Nat → Int32) × Int32 × Int32 × Int32 × Int32)) (n : Nat) (x4 : Int32) (x5 : Int32) (x6 : Int32) (f7 : Nat → Int32) (x8 : Int32) : LX11_fault_26 m_text m_len ko (n + 1) x4 x5 x6 f7 x8 =
    if m_len ≤ x6 then
      ko x4 x5 x6 f7 x8
    else
      (if (x5 - x6) = 1 then
        ri m_text 200 (x6) fun x22 =>
        if x22 = 59 then
          if 9 ≤ x8 then
            some (0)
          else
            some (1)
        else
          some (0)
      else
        some (0) : Option (Int32)).bind fun q15 =>
      (if q15 = 0 then
        some (q15, x4, x5, x6, f7, x8)
      else
        (f_X11_token m_text m_len x4 x6 x5).bind fun q19 =>
        (f_X11_readsLine m_text f7 m_len x8 q19.1 q19.2.1 q19.2.2).bind fun q20 =>
        some (q20.1, q20.2.2.2.1, q20.2.2.2.2.2, q20.2.2.2.2.1, q20.2.1, q20.2.2.1) : Option (Int32 × Int32 × Int32 × Int32 × (Nat → Int32) × Int32)).bind fun q16 =>
      if q16.1 = 0 then
        some (q16.2.2.2.1, q16.2.2.2.2.1, q16.2.2.2.2.2, q16.2.1, q16.2.2.2.1, q16.2.2.1)
      else
        LX11_fault_26 m_text m_len ko n q16.2.1 q16.2.2.1 q16.2.2.2.1 q16.2.2.2.2.1 q16.2.2.2.2.2 := rfl
def f_X11_fault (m_text : Nat → Int32) (m_read : Nat → Int32) (m_len : Int32) (m_rm : Int32) (m_at : Int32) (m_pl : Int32) (m_end : Int32) : Option (Int32 × (Nat → Int32) × Int32 × Int32 × Int32 × Int32) :=
  (f_X11_token m_text m_len 0 m_pl m_end).bind fun q1 =>
  (f_X11_readsLine m_text m_read m_len 0 q1.1 q1.2.1 q1.2.2).bind fun q2 =>
  if q2.1 = 0 then
    some (q2.2.2.2.2.1, q2.2.1, q2.2.2.1, q2.2.2.2.1, q2.2.2.2.2.1, q2.2.2.2.2.2)
  else
    LX11_fault_26 m_text m_len (fun x9 x10 x11 f12 x13 =>
      some ((-1), f12, x13, x9, x11, x10)) FU q2.2.2.2.1 q2.2.2.2.2.2 q2.2.2.2.2.1 q2.2.1 q2.2.2.1
abbrev rmX11_fault : Room := { frames := 5, cells := 0, slots := 0, locals := 108 }
set_option maxHeartbeats 4000000 in
set_option maxRecDepth 100000 in
theorem c_X11_fault {l : Launch} {D : va_G} {g : Nat → ClassId} {N : Nat} {ad : Nat → Nat} {C : Nat → va_E} {sz : Nat} {m_len : Int32} {m_rm : Int32} {m_there : Int32} {m_lift : Int32} {m_blank : Int32} {m_fm : Int32} {m_at : Int32} {m_pl : Int32} {m_end : Int32} {m_seed : Int32} {m_text : Nat → Int32} {m_read : Nat → Int32}  {rr : Int32 × (Nat → Int32) × Int32 × Int32 × Int32 × Int32} (hN : 109 ≤ N) (hI : Inj N ad) (h86 : C 86 = .inr (11, [.ref (ad 87), .int m_len, .ref (ad 88), .int m_rm, .int m_there, .ref (ad 89), .ref (ad 90), .ref (ad 91), .ref (ad 92), .ref (ad 93), .ref (ad 94), .ref (ad 95), .ref (ad 96), .ref (ad 97), .ref (ad 98), .ref (ad 99), .ref (ad 100), .ref (ad 101), .int m_lift, .int m_blank, .ref (ad 102), .int m_fm, .int m_at, .int m_pl, .int m_end, .ref (ad 103), .ref (ad 104), .ref (ad 105), .ref (ad 106), .ref (ad 107), .ref (ad 108), .int m_seed])) (h87 : C 87 = aI g 200 m_text) (h88 : C 88 = aI g 54 m_read) (hf : f_X11_fault m_text m_read m_len m_rm m_at m_pl m_end = some rr) : Met l yX11_fault wsX11_fault rmX11_fault (PcW D g N ad C sz [.ref (ad 86)]) (QiW D N ad sz tP rr.1 (fun C' => (∀ i : Nat, i ≠ 86 ∧ i ≠ 88 → C' i = C i) ∧ (C' 86 = .inr (11, [.ref (ad 87), .int m_len, .ref (ad 88), .int rr.2.2.1, .int m_there, .ref (ad 89), .ref (ad 90), .ref (ad 91), .ref (ad 92), .ref (ad 93), .ref (ad 94), .ref (ad 95), .ref (ad 96), .ref (ad 97), .ref (ad 98), .ref (ad 99), .ref (ad 100), .ref (ad 101), .int m_lift, .int m_blank, .ref (ad 102), .int m_fm, .int rr.2.2.2.1, .int rr.2.2.2.2.1, .int rr.2.2.2.2.2, .ref (ad 103), .ref (ad 104), .ref (ad 105), .ref (ad 106), .ref (ad 107), .ref (ad 108), .int m_seed])) ∧ (C' 88 = aI g 54 rr.2.1))) 0 0 (Aw N ad sz) := by
  refine Met.ofW (cc := cX11_fault) (maxL := 2) (ret := (some .int)) (by decide) rfl ?_
  intro p e s m args below meth c s₁ B hml hv
  obtain ⟨hav, hsz, hK, hP⟩ := hv
  subst hsz
  have hx := B.exec
  have hb := B.bytes
  have hr := B.returns
  have hts := atoms_spec (ws := wsX11_fault) B.pre
  have hown : s.vm.findClass RX11 = some m.cls := findClass_of_methodNamed B.named
  have hlocks := B.notSynchronized
  generalize hQ : MQ below (QiW D N ad s.heap.size tP rr.1 (fun C' => (∀ i : Nat, i ≠ 86 ∧ i ≠ 88 → C' i = C i) ∧ (C' 86 = .inr (11, [.ref (ad 87), .int m_len, .ref (ad 88), .int rr.2.2.1, .int m_there, .ref (ad 89), .ref (ad 90), .ref (ad 91), .ref (ad 92), .ref (ad 93), .ref (ad 94), .ref (ad 95), .ref (ad 96), .ref (ad 97), .ref (ad 98), .ref (ad 99), .ref (ad 100), .ref (ad 101), .int m_lift, .int m_blank, .ref (ad 102), .int m_fm, .int rr.2.2.2.1, .int rr.2.2.2.2.1, .int rr.2.2.2.2.2, .ref (ad 103), .ref (ad 104), .ref (ad 105), .ref (ad 106), .ref (ad 107), .ref (ad 108), .int m_seed])) ∧ (C' 88 = aI g 54 rr.2.1))) args s 0 0 (Aw N ad s.heap.size) = QQ
  have hS : va_S (Aw N ad s.heap.size) s.heap s.heap [] := va_S.rf
  have hA : ∀ q, s.heap.size ≤ q → (Aw N ad s.heap.size) q := fun q h => Or.inr h
  have hAd : ∀ j : Nat, j < N → (Aw N ad s.heap.size) (ad j) := fun j h => Or.inl ⟨j, h, rfl⟩
  obtain ⟨C0, hC0⟩ : ∃ C0 : Nat → va_E, C0 = C := ⟨_, rfl⟩
  have hag : ∀ i : Nat, i ≠ 86 ∧ i ≠ 88 → C i = C0 i := fun i _ => by rw [hC0]
  rw [← hC0] at hQ
  have k0 := hts (.fieldLink RX11 98 "UpDrainModel" "at" "I") (List.mem_of_getElem? (i := 1) rfl)
  have nX11 : ∀ w ∈ u_ws RX11 TX11 32, w ∈ wsX11_fault := fun _ h => List.mem_cons_of_mem _ (List.mem_append_right _ h)
  have k2 := hts (.fieldLink RX11 111 "UpDrainModel" "readMany" "I") (List.mem_of_getElem? (i := 2) rfl)
  have k3 := hts (.fieldLink RX11 101 "UpDrainModel" "place" "I") (List.mem_of_getElem? (i := 3) rfl)
  have k4 := hts (.fieldLink RX11 93 "UpDrainModel" "length" "I") (List.mem_of_getElem? (i := 4) rfl)
  have k5 := hts (.fieldLink RX11 108 "UpDrainModel" "end" "I") (List.mem_of_getElem? (i := 5) rfl)
  have k6 := hts (.fieldLink RX11 7 "UpDrainModel" "text" "[I") (List.mem_of_getElem? (i := 6) rfl)
  have hE := lg_entry_eq m [.ref (ad 86)] 2
  rw [← hav] at hE
  rw [hE]
  have hl := lv_entry [.ref (ad 86)] (n := 2) (Nat.le_of_ble_eq_true rfl)
  generalize (lg_sl [.ref (ad 86)] ++ List.replicate (2 - (lg_sl [.ref (ad 86)]).length) Slot.unset).toArray = ls at hl ⊢
  have hl : lv_has ls 2 [(0, .ref (ad 86))] := hl
  clear hE
  unfold f_X11_fault at hf
  suffices hgo : ∀ (H : Heap) (locs : List Loc), va_P D vwCl (wd N ad C) H → va_S (Aw N ad s.heap.size) s.heap H locs → W p l e (headSpec wsX11_fault rmX11_fault).room s m args below meth c H locs 0 0 QQ (F0 m 0 ls []) from hgo s.heap [] hP hS
  clear hS hP
  intro H locs hP hS
  refine lv_aload_n hx hb dX11_fault_0 rfl (lv_at hl 0 rfl) ?_
  refine lv_iconst (v := 0) hx hb dX11_fault_1 (by decide) ?_
  refine r_put (own := RX11) (T := TX11) (n := 32) (ci := 11) (v := .int 0) hx hb hts nX11 tyX11 tyX11_ok nmX11 hown hK hI hAd hP hS (by omega) h86 rfl 22 (by decide) k0 rfl rfl rfl (Nat.le_of_ble_eq_true rfl) dX11_fault_2 (fun C H locs hP hS he hn => ?_)
  have hag : ∀ i : Nat, i ≠ 86 ∧ i ≠ 88 → C i = C0 i := fun i h => (he i (by omega)).trans (hag i h)
  have h87 := (he 87 (by decide)).trans h87
  have h88 := (he 88 (by decide)).trans h88
  have h86 : C 86 = .inr (11, [.ref (ad 87), .int m_len, .ref (ad 88), .int m_rm, .int m_there, .ref (ad 89), .ref (ad 90), .ref (ad 91), .ref (ad 92), .ref (ad 93), .ref (ad 94), .ref (ad 95), .ref (ad 96), .ref (ad 97), .ref (ad 98), .ref (ad 99), .ref (ad 100), .ref (ad 101), .int m_lift, .int m_blank, .ref (ad 102), .int m_fm, .int 0, .int m_pl, .int m_end, .ref (ad 103), .ref (ad 104), .ref (ad 105), .ref (ad 106), .ref (ad 107), .ref (ad 108), .int m_seed]) := hn
  refine lv_aload_n hx hb dX11_fault_5 rfl (lv_at hl 0 rfl) ?_
  refine lv_iconst (v := 0) hx hb dX11_fault_6 (by decide) ?_
  refine r_put (own := RX11) (T := TX11) (n := 32) (ci := 11) (v := .int 0) hx hb hts nX11 tyX11 tyX11_ok nmX11 hown hK hI hAd hP hS (by omega) h86 rfl 3 (by decide) k2 rfl rfl rfl (Nat.le_of_ble_eq_true rfl) dX11_fault_7 (fun C H locs hP hS he hn => ?_)
  have hag : ∀ i : Nat, i ≠ 86 ∧ i ≠ 88 → C i = C0 i := fun i h => (he i (by omega)).trans (hag i h)
  have h87 := (he 87 (by decide)).trans h87
  have h88 := (he 88 (by decide)).trans h88
  have h86 : C 86 = .inr (11, [.ref (ad 87), .int m_len, .ref (ad 88), .int 0, .int m_there, .ref (ad 89), .ref (ad 90), .ref (ad 91), .ref (ad 92), .ref (ad 93), .ref (ad 94), .ref (ad 95), .ref (ad 96), .ref (ad 97), .ref (ad 98), .ref (ad 99), .ref (ad 100), .ref (ad 101), .int m_lift, .int m_blank, .ref (ad 102), .int m_fm, .int 0, .int m_pl, .int m_end, .ref (ad 103), .ref (ad 104), .ref (ad 105), .ref (ad 106), .ref (ad 107), .ref (ad 108), .int m_seed]) := hn
  refine lv_aload_n hx hb dX11_fault_10 rfl (lv_at hl 0 rfl) ?_
  obtain ⟨q1, hq1, hf⟩ := bd_e hf
  refine k_vW (va_runV (C := RX11) (As := []) (rest := []) ⟨hx, hb, hml, hown, hts⟩ (c_X11_token (l := l) (sz := H.size)  hN hI h86 h87 hq1) (cwV 0 hts gX11_fault_X11_token rfl rfl rfl (by decide +kernel) ⟨Nat.le_of_ble_eq_true rfl, Nat.le_of_ble_eq_true rfl⟩) (preV_of hK hP (by omega) h86 rfl) rfl rfl hl.1 rfl (lv_room (Nat.le_of_ble_eq_true rfl)) dX11_fault_11 ⟨Nat.le_of_ble_eq_true rfl, Nat.le_of_ble_eq_true rfl⟩) hA hAd hS (fun C H locs hP hS hpo => ?_)
  obtain ⟨he, h86⟩ := hpo
  have hag : ∀ i : Nat, i ≠ 86 ∧ i ≠ 88 → C i = C0 i := fun i h => (he i (by omega)).trans (hag i h)
  have h87 := (he 87 (by decide)).trans h87
  have h88 := (he 88 (by decide)).trans h88
  refine lv_aload_n hx hb dX11_fault_14 rfl (lv_at hl 0 rfl) ?_
  obtain ⟨q2, hq2, hf⟩ := bd_e hf
  refine k_iW (va_runV (C := RX11) (As := []) (rest := []) ⟨hx, hb, hml, hown, hts⟩ (c_X11_readsLine (l := l) (sz := H.size)  hN hI h86 h87 h88 hq2) (cwV 0 hts gX11_fault_X11_readsLine rfl rfl rfl (by decide +kernel) ⟨Nat.le_of_ble_eq_true rfl, Nat.le_of_ble_eq_true rfl⟩) (preV_of hK hP (by omega) h86 rfl) rfl rfl hl.1 rfl (lv_room (Nat.le_of_ble_eq_true rfl)) dX11_fault_15 ⟨Nat.le_of_ble_eq_true rfl, Nat.le_of_ble_eq_true rfl⟩) hA hAd hS (fun C H locs hP hS hpo hbz_q2 => ?_)
  obtain ⟨he, h86, h88⟩ := hpo
  have hag : ∀ i : Nat, i ≠ 86 ∧ i ≠ 88 → C i = C0 i := fun i h => (he i (by omega)).trans (hag i h)
  have h87 := (he 87 (by decide)).trans h87
  refine lv_if_ne (tgt := 26) hx hb dX11_fault_18 (by decide) (fun c3 => ?_) (fun c3 => ?_)
  · have hf := ie_e c3 hf
    have key26 : ∀ (ko : Int32 → Int32 → Int32 → (Nat → Int32) → Int32 → Option (Int32 × (Nat → Int32) × Int32 × Int32 × Int32 × Int32)), (∀ (x9 : Int32) (x10 : Int32) (x11 : Int32) (f12 : Nat → Int32) (x13 : Int32) (C : Nat → va_E) (H : Heap) (locs : List Loc) (ls : Array Slot), va_P D vwCl (wd N ad C) H → va_S (Aw N ad s.heap.size) s.heap H locs → (∀ i : Nat, i ≠ 86 ∧ i ≠ 88 → C i = C0 i) → C 86 = .inr (11, [.ref (ad 87), .int m_len, .ref (ad 88), .int x13, .int m_there, .ref (ad 89), .ref (ad 90), .ref (ad 91), .ref (ad 92), .ref (ad 93), .ref (ad 94), .ref (ad 95), .ref (ad 96), .ref (ad 97), .ref (ad 98), .ref (ad 99), .ref (ad 100), .ref (ad 101), .int m_lift, .int m_blank, .ref (ad 102), .int m_fm, .int x9, .int x11, .int x10, .ref (ad 103), .ref (ad 104), .ref (ad 105), .ref (ad 106), .ref (ad 107), .ref (ad 108), .int m_seed]) → C 87 = aI g 200 m_text → C 88 = aI g 54 f12 → lv_has ls 2 [(0, .ref (ad 86))] → ko x9 x10 x11 f12 x13 = some rr → W p l e (headSpec wsX11_fault rmX11_fault).room s m args below meth c H locs 0 0 QQ (F0 m 104 ls [])) → ∀ (n : Nat) (x4 : Int32) (x5 : Int32) (x6 : Int32) (f7 : Nat → Int32) (x8 : Int32) (C : Nat → va_E) (H : Heap) (locs : List Loc) (ls : Array Slot), va_P D vwCl (wd N ad C) H → va_S (Aw N ad s.heap.size) s.heap H locs → (∀ i : Nat, i ≠ 86 ∧ i ≠ 88 → C i = C0 i) → C 86 = .inr (11, [.ref (ad 87), .int m_len, .ref (ad 88), .int x8, .int m_there, .ref (ad 89), .ref (ad 90), .ref (ad 91), .ref (ad 92), .ref (ad 93), .ref (ad 94), .ref (ad 95), .ref (ad 96), .ref (ad 97), .ref (ad 98), .ref (ad 99), .ref (ad 100), .ref (ad 101), .int m_lift, .int m_blank, .ref (ad 102), .int m_fm, .int x4, .int x6, .int x5, .ref (ad 103), .ref (ad 104), .ref (ad 105), .ref (ad 106), .ref (ad 107), .ref (ad 108), .int m_seed]) → C 87 = aI g 200 m_text → C 88 = aI g 54 f7 → lv_has ls 2 [(0, .ref (ad 86))] → LX11_fault_26 m_text m_len ko n x4 x5 x6 f7 x8 = some rr → W p l e (headSpec wsX11_fault rmX11_fault).room s m args below meth c H locs 0 0 QQ (F0 m 26 ls []) := by
      intro ko hko n
      induction n with
      | zero =>
        intro x4 x5 x6 f7 x8 C H locs ls hP hS hag h86 h87 h88 hl hf
        rw [LX11_fault_26_z] at hf
        cases hf
      | succ n ih =>
        intro x4 x5 x6 f7 x8 C H locs ls hP hS hag h86 h87 h88 hl hf
        rw [LX11_fault_26_s] at hf
        refine lv_aload_n hx hb dX11_fault_26 rfl (lv_at hl 0 rfl) ?_
        refine r_get (own := RX11) (T := TX11) (n := 32) (ci := 11) (v := .int x6) hx hb hts nX11 hown hK hP (by omega) h86 rfl 23 (by decide) k3 rfl dX11_fault_27 ?_
        refine lv_aload_n hx hb dX11_fault_30 rfl (lv_at hl 0 rfl) ?_
        refine r_get (own := RX11) (T := TX11) (n := 32) (ci := 11) (v := .int m_len) hx hb hts nX11 hown hK hP (by omega) h86 rfl 1 (by decide) k4 rfl dX11_fault_31 ?_
        refine lv_icmp_ge (tgt := 104) hx hb dX11_fault_34 (by decide) (fun c14 => ?_) (fun c14 => ?_)
        · have hf := it_e c14 hf
          exact hko x4 x5 x6 f7 x8 C H locs ls hP hS hag h86 h87 h88 (lv_sub hl [0] rfl) hf
        · have hf := ie_e c14 hf
          refine lv_aload_n hx hb dX11_fault_37 rfl (lv_at hl 0 rfl) ?_
          refine r_get (own := RX11) (T := TX11) (n := 32) (ci := 11) (v := .int x5) hx hb hts nX11 hown hK hP (by omega) h86 rfl 24 (by decide) k5 rfl dX11_fault_38 ?_
          refine lv_aload_n hx hb dX11_fault_41 rfl (lv_at hl 0 rfl) ?_
          refine r_get (own := RX11) (T := TX11) (n := 32) (ci := 11) (v := .int x6) hx hb hts nX11 hown hK hP (by omega) h86 rfl 23 (by decide) k3 rfl dX11_fault_42 ?_
          refine lv_isub hx hb dX11_fault_45 ?_
          refine lv_iconst (v := 1) hx hb dX11_fault_46 (by decide) ?_
          obtain ⟨q15, htq15, hf⟩ := bd_e hf
          have jnq15 : ∀ (C : Nat → va_E) (H : Heap) (locs : List Loc) (ls : Array Slot), va_P D vwCl (wd N ad C) H → va_S (Aw N ad s.heap.size) s.heap H locs → (∀ i : Nat, i ≠ 86 ∧ i ≠ 88 → C i = C0 i) → C 86 = .inr (11, [.ref (ad 87), .int m_len, .ref (ad 88), .int x8, .int m_there, .ref (ad 89), .ref (ad 90), .ref (ad 91), .ref (ad 92), .ref (ad 93), .ref (ad 94), .ref (ad 95), .ref (ad 96), .ref (ad 97), .ref (ad 98), .ref (ad 99), .ref (ad 100), .ref (ad 101), .int m_lift, .int m_blank, .ref (ad 102), .int m_fm, .int x4, .int x6, .int x5, .ref (ad 103), .ref (ad 104), .ref (ad 105), .ref (ad 106), .ref (ad 107), .ref (ad 108), .int m_seed]) → C 87 = aI g 200 m_text → C 88 = aI g 54 f7 → lv_has ls 2 [(0, .ref (ad 86))] → W p l e (headSpec wsX11_fault rmX11_fault).room s m args below meth c H locs 0 0 QQ (F0 m 78 ls [.int q15]) := by
            intro C H locs ls hP hS hag h86 h87 h88 hl
            refine lv_istore_n (lv' := [(1, .int q15), (0, .ref (ad 86))]) hx hb dX11_fault_78 rfl hl (by decide) rfl (fun ls hl => ?_)
            refine lv_iload_n hx hb dX11_fault_79 rfl (lv_at hl 0 rfl) ?_
            obtain ⟨q16, htq16, hf⟩ := bd_e hf
            have jnq16 : ∀ (C : Nat → va_E) (H : Heap) (locs : List Loc) (ls : Array Slot), va_P D vwCl (wd N ad C) H → va_S (Aw N ad s.heap.size) s.heap H locs → (∀ i : Nat, i ≠ 86 ∧ i ≠ 88 → C i = C0 i) → C 86 = .inr (11, [.ref (ad 87), .int m_len, .ref (ad 88), .int q16.2.2.2.2.2, .int m_there, .ref (ad 89), .ref (ad 90), .ref (ad 91), .ref (ad 92), .ref (ad 93), .ref (ad 94), .ref (ad 95), .ref (ad 96), .ref (ad 97), .ref (ad 98), .ref (ad 99), .ref (ad 100), .ref (ad 101), .int m_lift, .int m_blank, .ref (ad 102), .int m_fm, .int q16.2.1, .int q16.2.2.2.1, .int q16.2.2.1, .ref (ad 103), .ref (ad 104), .ref (ad 105), .ref (ad 106), .ref (ad 107), .ref (ad 108), .int m_seed]) → C 87 = aI g 200 m_text → C 88 = aI g 54 q16.2.2.2.2.1 → lv_has ls 2 [(0, .ref (ad 86)), (1, .int q16.1)] → W p l e (headSpec wsX11_fault rmX11_fault).room s m args below meth c H locs 0 0 QQ (F0 m 92 ls []) := by
              intro C H locs ls hP hS hag h86 h87 h88 hl
              refine lv_iload_n hx hb dX11_fault_92 rfl (lv_at hl 1 rfl) ?_
              refine lv_if_ne (tgt := 101) hx hb dX11_fault_93 (by decide) (fun c17 => ?_) (fun c17 => ?_)
              · have hf := ie_e c17 hf
                refine lv_goto (tgt := 26) hx hb dX11_fault_101 (by decide) ?_
                exact ih q16.2.1 q16.2.2.1 q16.2.2.2.1 q16.2.2.2.2.1 q16.2.2.2.2.2 C H locs ls hP hS hag h86 h87 h88 (lv_sub hl [0] rfl) hf
              · have hf := it_e c17 hf
                refine lv_aload_n hx hb dX11_fault_96 rfl (lv_at hl 0 rfl) ?_
                refine r_get (own := RX11) (T := TX11) (n := 32) (ci := 11) (v := .int q16.2.2.2.1) hx hb hts nX11 hown hK hP (by omega) h86 rfl 23 (by decide) k3 rfl dX11_fault_97 ?_
                obtain rfl := Option.some.inj hf
                rw [← hQ]
                exact e_iW hx hb hr rfl (tP_i _) hP hS ⟨hag, h86, h88⟩ hlocks dX11_fault_100
            clear hf
            have hf := htq16
            refine lv_if_eq (tgt := 92) hx hb dX11_fault_80 (by decide) (fun c18 => ?_) (fun c18 => ?_)
            · have hf := it_e c18 hf
              obtain rfl := Option.some.inj hf
              exact jnq16 C H locs ls hP hS hag h86 h87 h88 (lv_sub hl [1, 0] rfl)
            · have hf := ie_e c18 hf
              refine lv_aload_n hx hb dX11_fault_83 rfl (lv_at hl 1 rfl) ?_
              obtain ⟨q19, hq19, hf⟩ := bd_e hf
              refine k_vW (va_runV (C := RX11) (As := []) (rest := []) ⟨hx, hb, hml, hown, hts⟩ (c_X11_token (l := l) (sz := H.size)  hN hI h86 h87 hq19) (cwV 0 hts gX11_fault_X11_token rfl rfl rfl (by decide +kernel) ⟨Nat.le_of_ble_eq_true rfl, Nat.le_of_ble_eq_true rfl⟩) (preV_of hK hP (by omega) h86 rfl) rfl rfl hl.1 rfl (lv_room (Nat.le_of_ble_eq_true rfl)) dX11_fault_84 ⟨Nat.le_of_ble_eq_true rfl, Nat.le_of_ble_eq_true rfl⟩) hA hAd hS (fun C H locs hP hS hpo => ?_)
              obtain ⟨he, h86⟩ := hpo
              have hag : ∀ i : Nat, i ≠ 86 ∧ i ≠ 88 → C i = C0 i := fun i h => (he i (by omega)).trans (hag i h)
              have h87 := (he 87 (by decide)).trans h87
              have h88 := (he 88 (by decide)).trans h88
              refine lv_aload_n hx hb dX11_fault_87 rfl (lv_at hl 1 rfl) ?_
              obtain ⟨q20, hq20, hf⟩ := bd_e hf
              refine k_iW (va_runV (C := RX11) (As := []) (rest := []) ⟨hx, hb, hml, hown, hts⟩ (c_X11_readsLine (l := l) (sz := H.size)  hN hI h86 h87 h88 hq20) (cwV 0 hts gX11_fault_X11_readsLine rfl rfl rfl (by decide +kernel) ⟨Nat.le_of_ble_eq_true rfl, Nat.le_of_ble_eq_true rfl⟩) (preV_of hK hP (by omega) h86 rfl) rfl rfl hl.1 rfl (lv_room (Nat.le_of_ble_eq_true rfl)) dX11_fault_88 ⟨Nat.le_of_ble_eq_true rfl, Nat.le_of_ble_eq_true rfl⟩) hA hAd hS (fun C H locs hP hS hpo hbz_q20 => ?_)
              obtain ⟨he, h86, h88⟩ := hpo
              have hag : ∀ i : Nat, i ≠ 86 ∧ i ≠ 88 → C i = C0 i := fun i h => (he i (by omega)).trans (hag i h)
              have h87 := (he 87 (by decide)).trans h87
              refine lv_istore_n (lv' := [(1, .int q20.1), (0, .ref (ad 86))]) hx hb dX11_fault_91 rfl hl (by decide) rfl (fun ls hl => ?_)
              obtain rfl := Option.some.inj hf
              exact jnq16 C H locs ls hP hS hag h86 h87 h88 (lv_sub hl [1, 0] rfl)
          clear hf
          have hf := htq15
          refine lv_icmp_ne (tgt := 77) hx hb dX11_fault_47 (by decide) (fun c21 => ?_) (fun c21 => ?_)
          · have hf := ie_e c21 hf
            refine lv_iconst (v := 0) hx hb dX11_fault_77 (by decide) ?_
            obtain rfl := Option.some.inj hf
            exact jnq15 C H locs ls hP hS hag h86 h87 h88 (lv_sub hl [0] rfl)
          · have hf := it_e c21 hf
            refine lv_aload_n hx hb dX11_fault_50 rfl (lv_at hl 0 rfl) ?_
            refine r_get (own := RX11) (T := TX11) (n := 32) (ci := 11) (v := .ref (ad 87)) hx hb hts nX11 hown hK hP (by omega) h86 rfl 0 (by decide) k6 rfl dX11_fault_51 ?_
            refine lv_aload_n hx hb dX11_fault_54 rfl (lv_at hl 0 rfl) ?_
            refine r_get (own := RX11) (T := TX11) (n := 32) (ci := 11) (v := .int x6) hx hb hts nX11 hown hK hP (by omega) h86 rfl 23 (by decide) k3 rfl dX11_fault_55 ?_
            obtain ⟨i23, x22, ex22, hf⟩ := ri_e hf
            refine r_iald hx hb hK hP (by omega) h87 i23 dX11_fault_58 ex22 ?_
            refine lv_bipush (v := 59) hx hb dX11_fault_59 (by decide) ?_
            refine lv_icmp_ne (tgt := 77) hx hb dX11_fault_61 (by decide) (fun c24 => ?_) (fun c24 => ?_)
            · have hf := ie_e c24 hf
              refine lv_iconst (v := 0) hx hb dX11_fault_77 (by decide) ?_
              obtain rfl := Option.some.inj hf
              exact jnq15 C H locs ls hP hS hag h86 h87 h88 (lv_sub hl [0] rfl)
            · have hf := it_e c24 hf
              refine lv_aload_n hx hb dX11_fault_64 rfl (lv_at hl 0 rfl) ?_
              refine r_get (own := RX11) (T := TX11) (n := 32) (ci := 11) (v := .int x8) hx hb hts nX11 hown hK hP (by omega) h86 rfl 3 (by decide) k2 rfl dX11_fault_65 ?_
              refine lv_bipush (v := 9) hx hb dX11_fault_68 (by decide) ?_
              refine lv_icmp_ge (tgt := 77) hx hb dX11_fault_70 (by decide) (fun c25 => ?_) (fun c25 => ?_)
              · have hf := it_e c25 hf
                refine lv_iconst (v := 0) hx hb dX11_fault_77 (by decide) ?_
                obtain rfl := Option.some.inj hf
                exact jnq15 C H locs ls hP hS hag h86 h87 h88 (lv_sub hl [0] rfl)
              · have hf := ie_e c25 hf
                refine lv_iconst (v := 1) hx hb dX11_fault_73 (by decide) ?_
                refine lv_goto (tgt := 78) hx hb dX11_fault_74 (by decide) ?_
                obtain rfl := Option.some.inj hf
                exact jnq15 C H locs ls hP hS hag h86 h87 h88 (lv_sub hl [0] rfl)
    refine key26 _ (fun x9 x10 x11 f12 x13 C H locs ls hP hS hag h86 h87 h88 hl hf => ?_) FU q2.2.2.2.1 q2.2.2.2.2.2 q2.2.2.2.2.1 q2.2.1 q2.2.2.1 C H locs ls hP hS hag h86 h87 h88 (lv_sub hl [0] rfl) hf
    refine lv_iconst (v := (-1)) hx hb dX11_fault_104 (by decide) ?_
    obtain rfl := Option.some.inj hf
    rw [← hQ]
    exact e_iW hx hb hr rfl (tP_i _) hP hS ⟨hag, h86, h88⟩ hlocks dX11_fault_105
  · have hf := it_e c3 hf
    refine lv_aload_n hx hb dX11_fault_21 rfl (lv_at hl 0 rfl) ?_
    refine r_get (own := RX11) (T := TX11) (n := 32) (ci := 11) (v := .int q2.2.2.2.2.1) hx hb hts nX11 hown hK hP (by omega) h86 rfl 23 (by decide) k3 rfl dX11_fault_22 ?_
    obtain rfl := Option.some.inj hf
    rw [← hQ]
    exact e_iW hx hb hr rfl (tP_i _) hP hS ⟨hag, h86, h88⟩ hlocks dX11_fault_25

def f_X11_lay (p0 : Int32) (p1 : Int32) (p2 : Int32) (p3 : Int32) (p4 : Int32) (m_down : Nat → Int32) (m_min : Nat → Int32) (m_walk : Nat → Int32) (m_gone : Nat → Int32) (m_there : Int32) : Option ((Nat → Int32) × (Nat → Int32) × (Nat → Int32) × (Nat → Int32) × Int32) :=
  wi m_down 12 (p0) (p1) fun f1 =>
  wi m_min 12 (p0) (p2) fun f3 =>
  wi m_walk 12 (p0) (p3) fun f5 =>
  wi m_gone 12 (p0) (p4) fun f7 =>
  lt ((m_there ||| (1 <<< (p0 &&& 31))) : Int32) fun x9 =>
  some (f1, f3, f5, f7, x9)
abbrev rmX11_lay : Room := { frames := 0, cells := 0, slots := 0, locals := 0 }
set_option maxHeartbeats 4000000 in
set_option maxRecDepth 100000 in
theorem c_X11_lay {l : Launch} {D : va_G} {g : Nat → ClassId} {N : Nat} {ad : Nat → Nat} {C : Nat → va_E} {sz : Nat} {m_len : Int32} {m_rm : Int32} {m_there : Int32} {m_lift : Int32} {m_blank : Int32} {m_fm : Int32} {m_at : Int32} {m_pl : Int32} {m_end : Int32} {m_seed : Int32} {m_down : Nat → Int32} {m_min : Nat → Int32} {m_walk : Nat → Int32} {m_gone : Nat → Int32} {p0 : Int32} {p1 : Int32} {p2 : Int32} {p3 : Int32} {p4 : Int32} {rr : (Nat → Int32) × (Nat → Int32) × (Nat → Int32) × (Nat → Int32) × Int32} (hN : 109 ≤ N) (hI : Inj N ad) (h86 : C 86 = .inr (11, [.ref (ad 87), .int m_len, .ref (ad 88), .int m_rm, .int m_there, .ref (ad 89), .ref (ad 90), .ref (ad 91), .ref (ad 92), .ref (ad 93), .ref (ad 94), .ref (ad 95), .ref (ad 96), .ref (ad 97), .ref (ad 98), .ref (ad 99), .ref (ad 100), .ref (ad 101), .int m_lift, .int m_blank, .ref (ad 102), .int m_fm, .int m_at, .int m_pl, .int m_end, .ref (ad 103), .ref (ad 104), .ref (ad 105), .ref (ad 106), .ref (ad 107), .ref (ad 108), .int m_seed])) (h89 : C 89 = aI g 12 m_down) (h90 : C 90 = aI g 12 m_min) (h91 : C 91 = aI g 12 m_walk) (h92 : C 92 = aI g 12 m_gone) (hf : f_X11_lay p0 p1 p2 p3 p4 m_down m_min m_walk m_gone m_there = some rr) : Met l yX11_lay wsX11_lay rmX11_lay (PcW D g N ad C sz [.ref (ad 86), .int p0, .int p1, .int p2, .int p3, .int p4]) (QvW D N ad sz (fun C' => (∀ i : Nat, i ≠ 86 ∧ i ≠ 89 ∧ i ≠ 90 ∧ i ≠ 91 ∧ i ≠ 92 → C' i = C i) ∧ (C' 86 = .inr (11, [.ref (ad 87), .int m_len, .ref (ad 88), .int m_rm, .int rr.2.2.2.2, .ref (ad 89), .ref (ad 90), .ref (ad 91), .ref (ad 92), .ref (ad 93), .ref (ad 94), .ref (ad 95), .ref (ad 96), .ref (ad 97), .ref (ad 98), .ref (ad 99), .ref (ad 100), .ref (ad 101), .int m_lift, .int m_blank, .ref (ad 102), .int m_fm, .int m_at, .int m_pl, .int m_end, .ref (ad 103), .ref (ad 104), .ref (ad 105), .ref (ad 106), .ref (ad 107), .ref (ad 108), .int m_seed])) ∧ (C' 89 = aI g 12 rr.1) ∧ (C' 90 = aI g 12 rr.2.1) ∧ (C' 91 = aI g 12 rr.2.2.1) ∧ (C' 92 = aI g 12 rr.2.2.2.1))) 0 0 (Aw N ad sz) := by
  refine Met.ofW (cc := cX11_lay) (maxL := 6) (ret := none) (by decide) rfl ?_
  intro p e s m args below meth c s₁ B hml hv
  obtain ⟨hav, hsz, hK, hP⟩ := hv
  subst hsz
  have hx := B.exec
  have hb := B.bytes
  have hr := B.returns
  have hts := atoms_spec (ws := wsX11_lay) B.pre
  have hown : s.vm.findClass RX11 = some m.cls := findClass_of_methodNamed B.named
  have hlocks := B.notSynchronized
  generalize hQ : MQ below (QvW D N ad s.heap.size (fun C' => (∀ i : Nat, i ≠ 86 ∧ i ≠ 89 ∧ i ≠ 90 ∧ i ≠ 91 ∧ i ≠ 92 → C' i = C i) ∧ (C' 86 = .inr (11, [.ref (ad 87), .int m_len, .ref (ad 88), .int m_rm, .int rr.2.2.2.2, .ref (ad 89), .ref (ad 90), .ref (ad 91), .ref (ad 92), .ref (ad 93), .ref (ad 94), .ref (ad 95), .ref (ad 96), .ref (ad 97), .ref (ad 98), .ref (ad 99), .ref (ad 100), .ref (ad 101), .int m_lift, .int m_blank, .ref (ad 102), .int m_fm, .int m_at, .int m_pl, .int m_end, .ref (ad 103), .ref (ad 104), .ref (ad 105), .ref (ad 106), .ref (ad 107), .ref (ad 108), .int m_seed])) ∧ (C' 89 = aI g 12 rr.1) ∧ (C' 90 = aI g 12 rr.2.1) ∧ (C' 91 = aI g 12 rr.2.2.1) ∧ (C' 92 = aI g 12 rr.2.2.2.1))) args s 0 0 (Aw N ad s.heap.size) = QQ
  have hS : va_S (Aw N ad s.heap.size) s.heap s.heap [] := va_S.rf
  have hA : ∀ q, s.heap.size ≤ q → (Aw N ad s.heap.size) q := fun q h => Or.inr h
  have hAd : ∀ j : Nat, j < N → (Aw N ad s.heap.size) (ad j) := fun j h => Or.inl ⟨j, h, rfl⟩
  obtain ⟨C0, hC0⟩ : ∃ C0 : Nat → va_E, C0 = C := ⟨_, rfl⟩
  have hag : ∀ i : Nat, i ≠ 86 ∧ i ≠ 89 ∧ i ≠ 90 ∧ i ≠ 91 ∧ i ≠ 92 → C i = C0 i := fun i _ => by rw [hC0]
  rw [← hC0] at hQ
  have k0 := hts (.fieldLink RX11 20 "UpDrainModel" "down" "[I") (List.mem_of_getElem? (i := 1) rfl)
  have nX11 : ∀ w ∈ u_ws RX11 TX11 32, w ∈ wsX11_lay := fun _ h => List.mem_cons_of_mem _ (List.mem_append_right _ h)
  have k2 := hts (.fieldLink RX11 23 "UpDrainModel" "minutes" "[I") (List.mem_of_getElem? (i := 2) rfl)
  have k3 := hts (.fieldLink RX11 26 "UpDrainModel" "walks" "[I") (List.mem_of_getElem? (i := 3) rfl)
  have k4 := hts (.fieldLink RX11 29 "UpDrainModel" "gone" "[I") (List.mem_of_getElem? (i := 4) rfl)
  have k5 := hts (.fieldLink RX11 16 "UpDrainModel" "there" "I") (List.mem_of_getElem? (i := 5) rfl)
  have hE := lg_entry_eq m [.ref (ad 86), .int p0, .int p1, .int p2, .int p3, .int p4] 6
  rw [← hav] at hE
  rw [hE]
  have hl := lv_entry [.ref (ad 86), .int p0, .int p1, .int p2, .int p3, .int p4] (n := 6) (Nat.le_of_ble_eq_true rfl)
  generalize (lg_sl [.ref (ad 86), .int p0, .int p1, .int p2, .int p3, .int p4] ++ List.replicate (6 - (lg_sl [.ref (ad 86), .int p0, .int p1, .int p2, .int p3, .int p4]).length) Slot.unset).toArray = ls at hl ⊢
  have hl : lv_has ls 6 [(0, .ref (ad 86)), (1, .int p0), (2, .int p1), (3, .int p2), (4, .int p3), (5, .int p4)] := hl
  clear hE
  unfold f_X11_lay at hf
  suffices hgo : ∀ (H : Heap) (locs : List Loc), va_P D vwCl (wd N ad C) H → va_S (Aw N ad s.heap.size) s.heap H locs → W p l e (headSpec wsX11_lay rmX11_lay).room s m args below meth c H locs 0 0 QQ (F0 m 0 ls []) from hgo s.heap [] hP hS
  clear hS hP
  intro H locs hP hS
  refine lv_aload_n hx hb dX11_lay_0 rfl (lv_at hl 0 rfl) ?_
  refine r_get (own := RX11) (T := TX11) (n := 32) (ci := 11) (v := .ref (ad 89)) hx hb hts nX11 hown hK hP (by omega) h86 rfl 5 (by decide) k0 rfl dX11_lay_1 ?_
  refine lv_iload_n hx hb dX11_lay_4 rfl (lv_at hl 1 rfl) ?_
  refine lv_iload_n hx hb dX11_lay_5 rfl (lv_at hl 2 rfl) ?_
  obtain ⟨i2, f1, ef1, hf⟩ := wi_e hf
  refine r_iast hx hb hK hI hAd hP hS (by omega) h89 i2 dX11_lay_6 ef1 (fun C H locs hP hS he hn => ?_)
  have hag : ∀ i : Nat, i ≠ 86 ∧ i ≠ 89 ∧ i ≠ 90 ∧ i ≠ 91 ∧ i ≠ 92 → C i = C0 i := fun i h => (he i (by omega)).trans (hag i h)
  have h86 := (he 86 (by decide)).trans h86
  have h90 := (he 90 (by decide)).trans h90
  have h91 := (he 91 (by decide)).trans h91
  have h92 := (he 92 (by decide)).trans h92
  have h89 : C 89 = aI g 12 f1 := hn
  refine lv_aload_n hx hb dX11_lay_7 rfl (lv_at hl 0 rfl) ?_
  refine r_get (own := RX11) (T := TX11) (n := 32) (ci := 11) (v := .ref (ad 90)) hx hb hts nX11 hown hK hP (by omega) h86 rfl 6 (by decide) k2 rfl dX11_lay_8 ?_
  refine lv_iload_n hx hb dX11_lay_11 rfl (lv_at hl 1 rfl) ?_
  refine lv_iload_n hx hb dX11_lay_12 rfl (lv_at hl 3 rfl) ?_
  obtain ⟨i4, f3, ef3, hf⟩ := wi_e hf
  refine r_iast hx hb hK hI hAd hP hS (by omega) h90 i4 dX11_lay_13 ef3 (fun C H locs hP hS he hn => ?_)
  have hag : ∀ i : Nat, i ≠ 86 ∧ i ≠ 89 ∧ i ≠ 90 ∧ i ≠ 91 ∧ i ≠ 92 → C i = C0 i := fun i h => (he i (by omega)).trans (hag i h)
  have h86 := (he 86 (by decide)).trans h86
  have h89 := (he 89 (by decide)).trans h89
  have h91 := (he 91 (by decide)).trans h91
  have h92 := (he 92 (by decide)).trans h92
  have h90 : C 90 = aI g 12 f3 := hn
  refine lv_aload_n hx hb dX11_lay_14 rfl (lv_at hl 0 rfl) ?_
  refine r_get (own := RX11) (T := TX11) (n := 32) (ci := 11) (v := .ref (ad 91)) hx hb hts nX11 hown hK hP (by omega) h86 rfl 7 (by decide) k3 rfl dX11_lay_15 ?_
  refine lv_iload_n hx hb dX11_lay_18 rfl (lv_at hl 1 rfl) ?_
  refine lv_iload hx hb dX11_lay_19 (lv_at hl 4 rfl) ?_
  obtain ⟨i6, f5, ef5, hf⟩ := wi_e hf
  refine r_iast hx hb hK hI hAd hP hS (by omega) h91 i6 dX11_lay_21 ef5 (fun C H locs hP hS he hn => ?_)
  have hag : ∀ i : Nat, i ≠ 86 ∧ i ≠ 89 ∧ i ≠ 90 ∧ i ≠ 91 ∧ i ≠ 92 → C i = C0 i := fun i h => (he i (by omega)).trans (hag i h)
  have h86 := (he 86 (by decide)).trans h86
  have h89 := (he 89 (by decide)).trans h89
  have h90 := (he 90 (by decide)).trans h90
  have h92 := (he 92 (by decide)).trans h92
  have h91 : C 91 = aI g 12 f5 := hn
  refine lv_aload_n hx hb dX11_lay_22 rfl (lv_at hl 0 rfl) ?_
  refine r_get (own := RX11) (T := TX11) (n := 32) (ci := 11) (v := .ref (ad 92)) hx hb hts nX11 hown hK hP (by omega) h86 rfl 8 (by decide) k4 rfl dX11_lay_23 ?_
  refine lv_iload_n hx hb dX11_lay_26 rfl (lv_at hl 1 rfl) ?_
  refine lv_iload hx hb dX11_lay_27 (lv_at hl 5 rfl) ?_
  obtain ⟨i8, f7, ef7, hf⟩ := wi_e hf
  refine r_iast hx hb hK hI hAd hP hS (by omega) h92 i8 dX11_lay_29 ef7 (fun C H locs hP hS he hn => ?_)
  have hag : ∀ i : Nat, i ≠ 86 ∧ i ≠ 89 ∧ i ≠ 90 ∧ i ≠ 91 ∧ i ≠ 92 → C i = C0 i := fun i h => (he i (by omega)).trans (hag i h)
  have h86 := (he 86 (by decide)).trans h86
  have h89 := (he 89 (by decide)).trans h89
  have h90 := (he 90 (by decide)).trans h90
  have h91 := (he 91 (by decide)).trans h91
  have h92 : C 92 = aI g 12 f7 := hn
  refine lv_aload_n hx hb dX11_lay_30 rfl (lv_at hl 0 rfl) ?_
  refine lv_dup hx hb dX11_lay_31 rfl ?_
  refine r_get (own := RX11) (T := TX11) (n := 32) (ci := 11) (v := .int m_there) hx hb hts nX11 hown hK hP (by omega) h86 rfl 4 (by decide) k5 rfl dX11_lay_32 ?_
  refine lv_iconst (v := 1) hx hb dX11_lay_35 (by decide) ?_
  refine lv_iload_n hx hb dX11_lay_36 rfl (lv_at hl 1 rfl) ?_
  refine lv_ishl hx hb dX11_lay_37 ?_
  refine lv_ior hx hb dX11_lay_38 ?_
  obtain ⟨x9, ex9, hf⟩ := lt_e hf
  refine tp_i ex9 ?_
  refine r_put (own := RX11) (T := TX11) (n := 32) (ci := 11) (v := .int x9) hx hb hts nX11 tyX11 tyX11_ok nmX11 hown hK hI hAd hP hS (by omega) h86 rfl 4 (by decide) k5 rfl rfl rfl (Nat.le_of_ble_eq_true rfl) dX11_lay_39 (fun C H locs hP hS he hn => ?_)
  have hag : ∀ i : Nat, i ≠ 86 ∧ i ≠ 89 ∧ i ≠ 90 ∧ i ≠ 91 ∧ i ≠ 92 → C i = C0 i := fun i h => (he i (by omega)).trans (hag i h)
  have h89 := (he 89 (by decide)).trans h89
  have h90 := (he 90 (by decide)).trans h90
  have h91 := (he 91 (by decide)).trans h91
  have h92 := (he 92 (by decide)).trans h92
  have h86 : C 86 = .inr (11, [.ref (ad 87), .int m_len, .ref (ad 88), .int m_rm, .int x9, .ref (ad 89), .ref (ad 90), .ref (ad 91), .ref (ad 92), .ref (ad 93), .ref (ad 94), .ref (ad 95), .ref (ad 96), .ref (ad 97), .ref (ad 98), .ref (ad 99), .ref (ad 100), .ref (ad 101), .int m_lift, .int m_blank, .ref (ad 102), .int m_fm, .int m_at, .int m_pl, .int m_end, .ref (ad 103), .ref (ad 104), .ref (ad 105), .ref (ad 106), .ref (ad 107), .ref (ad 108), .int m_seed]) := hn
  obtain rfl := Option.some.inj hf
  rw [← hQ]
  exact e_vW hx hb hr hP hS ⟨hag, h86, h89, h90, h91, h92⟩ hlocks dX11_lay_42

def f_X11_run (p0 : Int32) (m_read : Nat → Int32) (m_down : Nat → Int32) (m_min : Nat → Int32) (m_walk : Nat → Int32) (m_gone : Nat → Int32) (m_flow : Nat → Int32) (m_lik : Nat → Int32) (m_str : Nat → Int32) (m_from : Nat → Int32) (m_to : Nat → Int32) (m_rain : Nat → Int32) (m_tell : Nat → Int32) (m_fy : Nat → Int32) (m_fn : Nat → Int32) (m_there : Int32) (m_lift : Int32) (m_blank : Int32) : Option ((Nat → Int32) × (Nat → Int32) × (Nat → Int32) × (Nat → Int32) × (Nat → Int32) × (Nat → Int32) × (Nat → Int32) × (Nat → Int32) × (Nat → Int32) × (Nat → Int32) × (Nat → Int32) × (Nat → Int32) × (Nat → Int32) × Int32 × Int32 × Int32) :=
  ri m_read 54 ((p0 + 1)) fun x1 =>
  ri m_read 54 ((p0 + 2)) fun x3 =>
  ri m_read 54 ((p0 + 3)) fun x5 =>
  ri m_read 54 (p0) fun x7 =>
  if x7 = 0 then
    (f_X11_has m_there x3).bind fun q10 =>
    (if q10 = 0 then
      (f_X11_lay x3 0 0 1 0 m_down m_min m_walk m_gone m_there).bind fun q18 =>
      some (q18.1, q18.2.2.2.1, q18.2.1, q18.2.2.2.2, q18.2.2.1)
    else
      some (m_down, m_gone, m_min, m_there, m_walk) : Option ((Nat → Int32) × (Nat → Int32) × (Nat → Int32) × Int32 × (Nat → Int32))).bind fun q11 =>
    ri m_read 54 ((p0 + 4)) fun x12 =>
    ri m_read 54 ((p0 + 5)) fun x14 =>
    (f_X11_lay x1 x3 x5 x12 x14 q11.1 q11.2.2.1 q11.2.2.2.2 q11.2.1 q11.2.2.2.1).bind fun q16 =>
    some (q16.1, q16.2.1, q16.2.2.1, q16.2.2.2.1, m_flow, m_lik, m_str, m_from, m_to, m_rain, m_tell, m_fy, m_fn, q16.2.2.2.2, m_lift, m_blank)
  else if x7 = 1 then
    wi m_flow 12 (x1) (x3) fun f20 =>
    some (m_down, m_min, m_walk, m_gone, f20, m_lik, m_str, m_from, m_to, m_rain, m_tell, m_fy, m_fn, m_there, m_lift, m_blank)
  else if x7 = 2 then
    wi m_lik 12 (x1) (x3) fun f23 =>
    wi m_str 12 (x1) (x5) fun f25 =>
    wi m_from 12 (x1) (0) fun f27 =>
    wi m_to 12 (x1) (23) fun f29 =>
    some (m_down, m_min, m_walk, m_gone, m_flow, f23, f25, f27, f29, m_rain, m_tell, m_fy, m_fn, m_there, m_lift, m_blank)
  else if x7 = 3 then
    wi m_from 12 (x1) (x3) fun f32 =>
    wi m_to 12 (x1) (x5) fun f34 =>
    some (m_down, m_min, m_walk, m_gone, m_flow, m_lik, m_str, f32, f34, m_rain, m_tell, m_fy, m_fn, m_there, m_lift, m_blank)
  else if x7 = 4 then
    wi m_rain 24 (x1) (x3) fun f37 =>
    some (m_down, m_min, m_walk, m_gone, m_flow, m_lik, m_str, m_from, m_to, f37, m_tell, m_fy, m_fn, m_there, m_lift, m_blank)
  else if x7 = 5 then
    wi m_tell 4 (x1) (x3) fun f40 =>
    wi m_fy 4 (x1) (x5) fun f42 =>
    ri m_read 54 ((p0 + 4)) fun x44 =>
    wi m_fn 4 (x1) (x44) fun f46 =>
    some (m_down, m_min, m_walk, m_gone, m_flow, m_lik, m_str, m_from, m_to, m_rain, f40, f42, f46, m_there, m_lift, m_blank)
  else if x7 = 6 then
    some (m_down, m_min, m_walk, m_gone, m_flow, m_lik, m_str, m_from, m_to, m_rain, m_tell, m_fy, m_fn, m_there, x1, m_blank)
  else 
    some (m_down, m_min, m_walk, m_gone, m_flow, m_lik, m_str, m_from, m_to, m_rain, m_tell, m_fy, m_fn, m_there, m_lift, x1)
abbrev rmX11_run : Room := { frames := 1, cells := 0, slots := 0, locals := 25 }
set_option maxHeartbeats 4000000 in
set_option maxRecDepth 100000 in
theorem c_X11_run {l : Launch} {D : va_G} {g : Nat → ClassId} {N : Nat} {ad : Nat → Nat} {C : Nat → va_E} {sz : Nat} {m_len : Int32} {m_rm : Int32} {m_there : Int32} {m_lift : Int32} {m_blank : Int32} {m_fm : Int32} {m_at : Int32} {m_pl : Int32} {m_end : Int32} {m_seed : Int32} {m_read : Nat → Int32} {m_down : Nat → Int32} {m_min : Nat → Int32} {m_walk : Nat → Int32} {m_gone : Nat → Int32} {m_flow : Nat → Int32} {m_lik : Nat → Int32} {m_str : Nat → Int32} {m_from : Nat → Int32} {m_to : Nat → Int32} {m_rain : Nat → Int32} {m_tell : Nat → Int32} {m_fy : Nat → Int32} {m_fn : Nat → Int32} {p0 : Int32} {rr : (Nat → Int32) × (Nat → Int32) × (Nat → Int32) × (Nat → Int32) × (Nat → Int32) × (Nat → Int32) × (Nat → Int32) × (Nat → Int32) × (Nat → Int32) × (Nat → Int32) × (Nat → Int32) × (Nat → Int32) × (Nat → Int32) × Int32 × Int32 × Int32} (hN : 109 ≤ N) (hI : Inj N ad) (h86 : C 86 = .inr (11, [.ref (ad 87), .int m_len, .ref (ad 88), .int m_rm, .int m_there, .ref (ad 89), .ref (ad 90), .ref (ad 91), .ref (ad 92), .ref (ad 93), .ref (ad 94), .ref (ad 95), .ref (ad 96), .ref (ad 97), .ref (ad 98), .ref (ad 99), .ref (ad 100), .ref (ad 101), .int m_lift, .int m_blank, .ref (ad 102), .int m_fm, .int m_at, .int m_pl, .int m_end, .ref (ad 103), .ref (ad 104), .ref (ad 105), .ref (ad 106), .ref (ad 107), .ref (ad 108), .int m_seed])) (h88 : C 88 = aI g 54 m_read) (h89 : C 89 = aI g 12 m_down) (h90 : C 90 = aI g 12 m_min) (h91 : C 91 = aI g 12 m_walk) (h92 : C 92 = aI g 12 m_gone) (h93 : C 93 = aI g 12 m_flow) (h94 : C 94 = aI g 12 m_lik) (h95 : C 95 = aI g 12 m_str) (h96 : C 96 = aI g 12 m_from) (h97 : C 97 = aI g 12 m_to) (h98 : C 98 = aI g 24 m_rain) (h99 : C 99 = aI g 4 m_tell) (h100 : C 100 = aI g 4 m_fy) (h101 : C 101 = aI g 4 m_fn) (hf : f_X11_run p0 m_read m_down m_min m_walk m_gone m_flow m_lik m_str m_from m_to m_rain m_tell m_fy m_fn m_there m_lift m_blank = some rr) : Met l yX11_run wsX11_run rmX11_run (PcW D g N ad C sz [.ref (ad 86), .int p0]) (QvW D N ad sz (fun C' => (∀ i : Nat, i ≠ 100 ∧ i ≠ 101 ∧ i ≠ 86 ∧ i ≠ 89 ∧ i ≠ 90 ∧ i ≠ 91 ∧ i ≠ 92 ∧ i ≠ 93 ∧ i ≠ 94 ∧ i ≠ 95 ∧ i ≠ 96 ∧ i ≠ 97 ∧ i ≠ 98 ∧ i ≠ 99 → C' i = C i) ∧ (C' 100 = aI g 4 rr.2.2.2.2.2.2.2.2.2.2.2.1) ∧ (C' 101 = aI g 4 rr.2.2.2.2.2.2.2.2.2.2.2.2.1) ∧ (C' 86 = .inr (11, [.ref (ad 87), .int m_len, .ref (ad 88), .int m_rm, .int rr.2.2.2.2.2.2.2.2.2.2.2.2.2.1, .ref (ad 89), .ref (ad 90), .ref (ad 91), .ref (ad 92), .ref (ad 93), .ref (ad 94), .ref (ad 95), .ref (ad 96), .ref (ad 97), .ref (ad 98), .ref (ad 99), .ref (ad 100), .ref (ad 101), .int rr.2.2.2.2.2.2.2.2.2.2.2.2.2.2.1, .int rr.2.2.2.2.2.2.2.2.2.2.2.2.2.2.2, .ref (ad 102), .int m_fm, .int m_at, .int m_pl, .int m_end, .ref (ad 103), .ref (ad 104), .ref (ad 105), .ref (ad 106), .ref (ad 107), .ref (ad 108), .int m_seed])) ∧ (C' 89 = aI g 12 rr.1) ∧ (C' 90 = aI g 12 rr.2.1) ∧ (C' 91 = aI g 12 rr.2.2.1) ∧ (C' 92 = aI g 12 rr.2.2.2.1) ∧ (C' 93 = aI g 12 rr.2.2.2.2.1) ∧ (C' 94 = aI g 12 rr.2.2.2.2.2.1) ∧ (C' 95 = aI g 12 rr.2.2.2.2.2.2.1) ∧ (C' 96 = aI g 12 rr.2.2.2.2.2.2.2.1) ∧ (C' 97 = aI g 12 rr.2.2.2.2.2.2.2.2.1) ∧ (C' 98 = aI g 24 rr.2.2.2.2.2.2.2.2.2.1) ∧ (C' 99 = aI g 4 rr.2.2.2.2.2.2.2.2.2.2.1))) 0 0 (Aw N ad sz) := by
  refine Met.ofW (cc := cX11_run) (maxL := 5) (ret := none) (by decide) rfl ?_
  intro p e s m args below meth c s₁ B hml hv
  obtain ⟨hav, hsz, hK, hP⟩ := hv
  subst hsz
  have hx := B.exec
  have hb := B.bytes
  have hr := B.returns
  have hts := atoms_spec (ws := wsX11_run) B.pre
  have hown : s.vm.findClass RX11 = some m.cls := findClass_of_methodNamed B.named
  have hlocks := B.notSynchronized
  generalize hQ : MQ below (QvW D N ad s.heap.size (fun C' => (∀ i : Nat, i ≠ 100 ∧ i ≠ 101 ∧ i ≠ 86 ∧ i ≠ 89 ∧ i ≠ 90 ∧ i ≠ 91 ∧ i ≠ 92 ∧ i ≠ 93 ∧ i ≠ 94 ∧ i ≠ 95 ∧ i ≠ 96 ∧ i ≠ 97 ∧ i ≠ 98 ∧ i ≠ 99 → C' i = C i) ∧ (C' 100 = aI g 4 rr.2.2.2.2.2.2.2.2.2.2.2.1) ∧ (C' 101 = aI g 4 rr.2.2.2.2.2.2.2.2.2.2.2.2.1) ∧ (C' 86 = .inr (11, [.ref (ad 87), .int m_len, .ref (ad 88), .int m_rm, .int rr.2.2.2.2.2.2.2.2.2.2.2.2.2.1, .ref (ad 89), .ref (ad 90), .ref (ad 91), .ref (ad 92), .ref (ad 93), .ref (ad 94), .ref (ad 95), .ref (ad 96), .ref (ad 97), .ref (ad 98), .ref (ad 99), .ref (ad 100), .ref (ad 101), .int rr.2.2.2.2.2.2.2.2.2.2.2.2.2.2.1, .int rr.2.2.2.2.2.2.2.2.2.2.2.2.2.2.2, .ref (ad 102), .int m_fm, .int m_at, .int m_pl, .int m_end, .ref (ad 103), .ref (ad 104), .ref (ad 105), .ref (ad 106), .ref (ad 107), .ref (ad 108), .int m_seed])) ∧ (C' 89 = aI g 12 rr.1) ∧ (C' 90 = aI g 12 rr.2.1) ∧ (C' 91 = aI g 12 rr.2.2.1) ∧ (C' 92 = aI g 12 rr.2.2.2.1) ∧ (C' 93 = aI g 12 rr.2.2.2.2.1) ∧ (C' 94 = aI g 12 rr.2.2.2.2.2.1) ∧ (C' 95 = aI g 12 rr.2.2.2.2.2.2.1) ∧ (C' 96 = aI g 12 rr.2.2.2.2.2.2.2.1) ∧ (C' 97 = aI g 12 rr.2.2.2.2.2.2.2.2.1) ∧ (C' 98 = aI g 24 rr.2.2.2.2.2.2.2.2.2.1) ∧ (C' 99 = aI g 4 rr.2.2.2.2.2.2.2.2.2.2.1))) args s 0 0 (Aw N ad s.heap.size) = QQ
  have hS : va_S (Aw N ad s.heap.size) s.heap s.heap [] := va_S.rf
  have hA : ∀ q, s.heap.size ≤ q → (Aw N ad s.heap.size) q := fun q h => Or.inr h
  have hAd : ∀ j : Nat, j < N → (Aw N ad s.heap.size) (ad j) := fun j h => Or.inl ⟨j, h, rfl⟩
  obtain ⟨C0, hC0⟩ : ∃ C0 : Nat → va_E, C0 = C := ⟨_, rfl⟩
  have hag : ∀ i : Nat, i ≠ 100 ∧ i ≠ 101 ∧ i ≠ 86 ∧ i ≠ 89 ∧ i ≠ 90 ∧ i ≠ 91 ∧ i ≠ 92 ∧ i ≠ 93 ∧ i ≠ 94 ∧ i ≠ 95 ∧ i ≠ 96 ∧ i ≠ 97 ∧ i ≠ 98 ∧ i ≠ 99 → C i = C0 i := fun i _ => by rw [hC0]
  rw [← hC0] at hQ
  have k0 := hts (.fieldLink RX11 13 "UpDrainModel" "read" "[I") (List.mem_of_getElem? (i := 1) rfl)
  have nX11 : ∀ w ∈ u_ws RX11 TX11 32, w ∈ wsX11_run := fun _ h => List.mem_cons_of_mem _ (List.mem_append_right _ h)
  have k2 := hts (.fieldLink RX11 16 "UpDrainModel" "there" "I") (List.mem_of_getElem? (i := 2) rfl)
  have k3 := hts (.fieldLink RX11 32 "UpDrainModel" "flows" "[I") (List.mem_of_getElem? (i := 3) rfl)
  have k4 := hts (.fieldLink RX11 35 "UpDrainModel" "likely" "[I") (List.mem_of_getElem? (i := 4) rfl)
  have k5 := hts (.fieldLink RX11 38 "UpDrainModel" "strength" "[I") (List.mem_of_getElem? (i := 5) rfl)
  have k6 := hts (.fieldLink RX11 41 "UpDrainModel" "from" "[I") (List.mem_of_getElem? (i := 6) rfl)
  have k7 := hts (.fieldLink RX11 44 "UpDrainModel" "to" "[I") (List.mem_of_getElem? (i := 7) rfl)
  have k8 := hts (.fieldLink RX11 47 "UpDrainModel" "rain" "[I") (List.mem_of_getElem? (i := 8) rfl)
  have k9 := hts (.fieldLink RX11 50 "UpDrainModel" "tells" "[I") (List.mem_of_getElem? (i := 9) rfl)
  have k10 := hts (.fieldLink RX11 53 "UpDrainModel" "falseYes" "[I") (List.mem_of_getElem? (i := 10) rfl)
  have k11 := hts (.fieldLink RX11 56 "UpDrainModel" "falseNo" "[I") (List.mem_of_getElem? (i := 11) rfl)
  have k12 := hts (.fieldLink RX11 143 "UpDrainModel" "lifting" "I") (List.mem_of_getElem? (i := 12) rfl)
  have k13 := hts (.fieldLink RX11 146 "UpDrainModel" "blank" "I") (List.mem_of_getElem? (i := 13) rfl)
  have hE := lg_entry_eq m [.ref (ad 86), .int p0] 5
  rw [← hav] at hE
  rw [hE]
  have hl := lv_entry [.ref (ad 86), .int p0] (n := 5) (Nat.le_of_ble_eq_true rfl)
  generalize (lg_sl [.ref (ad 86), .int p0] ++ List.replicate (5 - (lg_sl [.ref (ad 86), .int p0]).length) Slot.unset).toArray = ls at hl ⊢
  have hl : lv_has ls 5 [(0, .ref (ad 86)), (1, .int p0)] := hl
  clear hE
  unfold f_X11_run at hf
  suffices hgo : ∀ (H : Heap) (locs : List Loc), va_P D vwCl (wd N ad C) H → va_S (Aw N ad s.heap.size) s.heap H locs → W p l e (headSpec wsX11_run rmX11_run).room s m args below meth c H locs 0 0 QQ (F0 m 0 ls []) from hgo s.heap [] hP hS
  clear hS hP
  intro H locs hP hS
  refine lv_aload_n hx hb dX11_run_0 rfl (lv_at hl 0 rfl) ?_
  refine r_get (own := RX11) (T := TX11) (n := 32) (ci := 11) (v := .ref (ad 88)) hx hb hts nX11 hown hK hP (by omega) h86 rfl 2 (by decide) k0 rfl dX11_run_1 ?_
  refine lv_iload_n hx hb dX11_run_4 rfl (lv_at hl 1 rfl) ?_
  refine lv_iconst (v := 1) hx hb dX11_run_5 (by decide) ?_
  refine lv_iadd hx hb dX11_run_6 ?_
  obtain ⟨i2, x1, ex1, hf⟩ := ri_e hf
  refine r_iald hx hb hK hP (by omega) h88 i2 dX11_run_7 ex1 ?_
  refine lv_istore_n (lv' := [(2, .int x1), (0, .ref (ad 86)), (1, .int p0)]) hx hb dX11_run_8 rfl hl (by decide) rfl (fun ls hl => ?_)
  refine lv_aload_n hx hb dX11_run_9 rfl (lv_at hl 1 rfl) ?_
  refine r_get (own := RX11) (T := TX11) (n := 32) (ci := 11) (v := .ref (ad 88)) hx hb hts nX11 hown hK hP (by omega) h86 rfl 2 (by decide) k0 rfl dX11_run_10 ?_
  refine lv_iload_n hx hb dX11_run_13 rfl (lv_at hl 2 rfl) ?_
  refine lv_iconst (v := 2) hx hb dX11_run_14 (by decide) ?_
  refine lv_iadd hx hb dX11_run_15 ?_
  obtain ⟨i4, x3, ex3, hf⟩ := ri_e hf
  refine r_iald hx hb hK hP (by omega) h88 i4 dX11_run_16 ex3 ?_
  refine lv_istore_n (lv' := [(3, .int x3), (2, .int x1), (0, .ref (ad 86)), (1, .int p0)]) hx hb dX11_run_17 rfl hl (by decide) rfl (fun ls hl => ?_)
  refine lv_aload_n hx hb dX11_run_18 rfl (lv_at hl 2 rfl) ?_
  refine r_get (own := RX11) (T := TX11) (n := 32) (ci := 11) (v := .ref (ad 88)) hx hb hts nX11 hown hK hP (by omega) h86 rfl 2 (by decide) k0 rfl dX11_run_19 ?_
  refine lv_iload_n hx hb dX11_run_22 rfl (lv_at hl 3 rfl) ?_
  refine lv_iconst (v := 3) hx hb dX11_run_23 (by decide) ?_
  refine lv_iadd hx hb dX11_run_24 ?_
  obtain ⟨i6, x5, ex5, hf⟩ := ri_e hf
  refine r_iald hx hb hK hP (by omega) h88 i6 dX11_run_25 ex5 ?_
  refine lv_istore (lv' := [(4, .int x5), (3, .int x3), (2, .int x1), (0, .ref (ad 86)), (1, .int p0)]) hx hb dX11_run_26 hl (by decide) rfl (fun ls hl => ?_)
  refine lv_aload_n hx hb dX11_run_28 rfl (lv_at hl 3 rfl) ?_
  refine r_get (own := RX11) (T := TX11) (n := 32) (ci := 11) (v := .ref (ad 88)) hx hb hts nX11 hown hK hP (by omega) h86 rfl 2 (by decide) k0 rfl dX11_run_29 ?_
  refine lv_iload_n hx hb dX11_run_32 rfl (lv_at hl 4 rfl) ?_
  obtain ⟨i8, x7, ex7, hf⟩ := ri_e hf
  refine r_iald hx hb hK hP (by omega) h88 i8 dX11_run_33 ex7 ?_
  by_cases c9 : x7 = 0
  · have hf := it_e c9 hf
    refine lv_tableIn (tgt := 76) hx hb dX11_run_34 (by rw [c9]; decide) (by rw [c9]; decide) (by rw [c9]; rfl) (by decide) ?_
    refine lv_aload_n hx hb dX11_run_76 rfl (lv_at hl 3 rfl) ?_
    refine r_get (own := RX11) (T := TX11) (n := 32) (ci := 11) (v := .int m_there) hx hb hts nX11 hown hK hP (by omega) h86 rfl 4 (by decide) k2 rfl dX11_run_77 ?_
    refine lv_iload_n hx hb dX11_run_80 rfl (lv_at hl 1 rfl) ?_
    obtain ⟨q10, hq10, hf⟩ := bd_e hf
    refine k_iR (va_runS (As := [.int m_there, .int x3]) (rest := []) ⟨hx, hb, hml, hown, hts⟩ (c_X11_has (l := l) (sz := H.size) (p0 := m_there) (p1 := x3) hq10) (va_cwS 2 hts gX11_run_X11_has rfl rfl rfl (by decide +kernel) ⟨Nat.le_of_ble_eq_true rfl, Nat.le_of_ble_eq_true rfl⟩) preS0 rfl rfl hl.1 rfl (lv_room (Nat.le_of_ble_eq_true rfl)) dX11_run_81 ⟨Nat.le_of_ble_eq_true rfl, Nat.le_of_ble_eq_true rfl⟩) hA hP hS (fun H locs hP hS hbz_q10 => ?_)
    obtain ⟨q11, htq11, hf⟩ := bd_e hf
    have jnq11 : ∀ (C : Nat → va_E) (H : Heap) (locs : List Loc) (ls : Array Slot), va_P D vwCl (wd N ad C) H → va_S (Aw N ad s.heap.size) s.heap H locs → (∀ i : Nat, i ≠ 100 ∧ i ≠ 101 ∧ i ≠ 86 ∧ i ≠ 89 ∧ i ≠ 90 ∧ i ≠ 91 ∧ i ≠ 92 ∧ i ≠ 93 ∧ i ≠ 94 ∧ i ≠ 95 ∧ i ≠ 96 ∧ i ≠ 97 ∧ i ≠ 98 ∧ i ≠ 99 → C i = C0 i) → C 86 = .inr (11, [.ref (ad 87), .int m_len, .ref (ad 88), .int m_rm, .int q11.2.2.2.1, .ref (ad 89), .ref (ad 90), .ref (ad 91), .ref (ad 92), .ref (ad 93), .ref (ad 94), .ref (ad 95), .ref (ad 96), .ref (ad 97), .ref (ad 98), .ref (ad 99), .ref (ad 100), .ref (ad 101), .int m_lift, .int m_blank, .ref (ad 102), .int m_fm, .int m_at, .int m_pl, .int m_end, .ref (ad 103), .ref (ad 104), .ref (ad 105), .ref (ad 106), .ref (ad 107), .ref (ad 108), .int m_seed]) → C 88 = aI g 54 m_read → C 89 = aI g 12 q11.1 → C 90 = aI g 12 q11.2.2.1 → C 91 = aI g 12 q11.2.2.2.2 → C 92 = aI g 12 q11.2.1 → C 93 = aI g 12 m_flow → C 94 = aI g 12 m_lik → C 95 = aI g 12 m_str → C 96 = aI g 12 m_from → C 97 = aI g 12 m_to → C 98 = aI g 24 m_rain → C 99 = aI g 4 m_tell → C 100 = aI g 4 m_fy → C 101 = aI g 4 m_fn → lv_has ls 5 [(0, .ref (ad 86)), (1, .int p0), (2, .int x1), (3, .int x3), (4, .int x5)] → W p l e (headSpec wsX11_run rmX11_run).room s m args below meth c H locs 0 0 QQ (F0 m 96 ls []) := by
      intro C H locs ls hP hS hag h86 h88 h89 h90 h91 h92 h93 h94 h95 h96 h97 h98 h99 h100 h101 hl
      refine lv_aload_n hx hb dX11_run_96 rfl (lv_at hl 0 rfl) ?_
      refine lv_iload_n hx hb dX11_run_97 rfl (lv_at hl 2 rfl) ?_
      refine lv_iload_n hx hb dX11_run_98 rfl (lv_at hl 3 rfl) ?_
      refine lv_iload hx hb dX11_run_99 (lv_at hl 4 rfl) ?_
      refine lv_aload_n hx hb dX11_run_101 rfl (lv_at hl 0 rfl) ?_
      refine r_get (own := RX11) (T := TX11) (n := 32) (ci := 11) (v := .ref (ad 88)) hx hb hts nX11 hown hK hP (by omega) h86 rfl 2 (by decide) k0 rfl dX11_run_102 ?_
      refine lv_iload_n hx hb dX11_run_105 rfl (lv_at hl 1 rfl) ?_
      refine lv_iconst (v := 4) hx hb dX11_run_106 (by decide) ?_
      refine lv_iadd hx hb dX11_run_107 ?_
      obtain ⟨i13, x12, ex12, hf⟩ := ri_e hf
      refine r_iald hx hb hK hP (by omega) h88 i13 dX11_run_108 ex12 ?_
      refine lv_aload_n hx hb dX11_run_109 rfl (lv_at hl 0 rfl) ?_
      refine r_get (own := RX11) (T := TX11) (n := 32) (ci := 11) (v := .ref (ad 88)) hx hb hts nX11 hown hK hP (by omega) h86 rfl 2 (by decide) k0 rfl dX11_run_110 ?_
      refine lv_iload_n hx hb dX11_run_113 rfl (lv_at hl 1 rfl) ?_
      refine lv_iconst (v := 5) hx hb dX11_run_114 (by decide) ?_
      refine lv_iadd hx hb dX11_run_115 ?_
      obtain ⟨i15, x14, ex14, hf⟩ := ri_e hf
      refine r_iald hx hb hK hP (by omega) h88 i15 dX11_run_116 ex14 ?_
      obtain ⟨q16, hq16, hf⟩ := bd_e hf
      refine k_vW (va_runV (C := RX11) (As := [.int x1, .int x3, .int x5, .int x12, .int x14]) (rest := []) ⟨hx, hb, hml, hown, hts⟩ (c_X11_lay (l := l) (sz := H.size) (p0 := x1) (p1 := x3) (p2 := x5) (p3 := x12) (p4 := x14) hN hI h86 h89 h90 h91 h92 hq16) (cwV 5 hts gX11_run_X11_lay rfl rfl rfl (by decide +kernel) ⟨Nat.le_of_ble_eq_true rfl, Nat.le_of_ble_eq_true rfl⟩) (preV_of hK hP (by omega) h86 rfl) rfl rfl hl.1 rfl (lv_room (Nat.le_of_ble_eq_true rfl)) dX11_run_117 ⟨Nat.le_of_ble_eq_true rfl, Nat.le_of_ble_eq_true rfl⟩) hA hAd hS (fun C H locs hP hS hpo => ?_)
      obtain ⟨he, h86, h89, h90, h91, h92⟩ := hpo
      have hag : ∀ i : Nat, i ≠ 100 ∧ i ≠ 101 ∧ i ≠ 86 ∧ i ≠ 89 ∧ i ≠ 90 ∧ i ≠ 91 ∧ i ≠ 92 ∧ i ≠ 93 ∧ i ≠ 94 ∧ i ≠ 95 ∧ i ≠ 96 ∧ i ≠ 97 ∧ i ≠ 98 ∧ i ≠ 99 → C i = C0 i := fun i h => (he i (by omega)).trans (hag i h)
      have h88 := (he 88 (by decide)).trans h88
      have h93 := (he 93 (by decide)).trans h93
      have h94 := (he 94 (by decide)).trans h94
      have h95 := (he 95 (by decide)).trans h95
      have h96 := (he 96 (by decide)).trans h96
      have h97 := (he 97 (by decide)).trans h97
      have h98 := (he 98 (by decide)).trans h98
      have h99 := (he 99 (by decide)).trans h99
      have h100 := (he 100 (by decide)).trans h100
      have h101 := (he 101 (by decide)).trans h101
      obtain rfl := Option.some.inj hf
      rw [← hQ]
      exact e_vW hx hb hr hP hS ⟨hag, h100, h101, h86, h89, h90, h91, h92, h93, h94, h95, h96, h97, h98, h99⟩ hlocks dX11_run_120
    clear hf
    have hf := htq11
    refine lv_if_ne (tgt := 96) hx hb dX11_run_84 (by decide) (fun c17 => ?_) (fun c17 => ?_)
    · have hf := ie_e c17 hf
      obtain rfl := Option.some.inj hf
      exact jnq11 C H locs ls hP hS hag h86 h88 h89 h90 h91 h92 h93 h94 h95 h96 h97 h98 h99 h100 h101 (lv_sub hl [3, 4, 2, 1, 0] rfl)
    · have hf := it_e c17 hf
      refine lv_aload_n hx hb dX11_run_87 rfl (lv_at hl 3 rfl) ?_
      refine lv_iload_n hx hb dX11_run_88 rfl (lv_at hl 1 rfl) ?_
      refine lv_iconst (v := 0) hx hb dX11_run_89 (by decide) ?_
      refine lv_iconst (v := 0) hx hb dX11_run_90 (by decide) ?_
      refine lv_iconst (v := 1) hx hb dX11_run_91 (by decide) ?_
      refine lv_iconst (v := 0) hx hb dX11_run_92 (by decide) ?_
      obtain ⟨q18, hq18, hf⟩ := bd_e hf
      refine k_vW (va_runV (C := RX11) (As := [.int x3, .int 0, .int 0, .int 1, .int 0]) (rest := []) ⟨hx, hb, hml, hown, hts⟩ (c_X11_lay (l := l) (sz := H.size) (p0 := x3) (p1 := 0) (p2 := 0) (p3 := 1) (p4 := 0) hN hI h86 h89 h90 h91 h92 hq18) (cwV 5 hts gX11_run_X11_lay rfl rfl rfl (by decide +kernel) ⟨Nat.le_of_ble_eq_true rfl, Nat.le_of_ble_eq_true rfl⟩) (preV_of hK hP (by omega) h86 rfl) rfl rfl hl.1 rfl (lv_room (Nat.le_of_ble_eq_true rfl)) dX11_run_93 ⟨Nat.le_of_ble_eq_true rfl, Nat.le_of_ble_eq_true rfl⟩) hA hAd hS (fun C H locs hP hS hpo => ?_)
      obtain ⟨he, h86, h89, h90, h91, h92⟩ := hpo
      have hag : ∀ i : Nat, i ≠ 100 ∧ i ≠ 101 ∧ i ≠ 86 ∧ i ≠ 89 ∧ i ≠ 90 ∧ i ≠ 91 ∧ i ≠ 92 ∧ i ≠ 93 ∧ i ≠ 94 ∧ i ≠ 95 ∧ i ≠ 96 ∧ i ≠ 97 ∧ i ≠ 98 ∧ i ≠ 99 → C i = C0 i := fun i h => (he i (by omega)).trans (hag i h)
      have h88 := (he 88 (by decide)).trans h88
      have h93 := (he 93 (by decide)).trans h93
      have h94 := (he 94 (by decide)).trans h94
      have h95 := (he 95 (by decide)).trans h95
      have h96 := (he 96 (by decide)).trans h96
      have h97 := (he 97 (by decide)).trans h97
      have h98 := (he 98 (by decide)).trans h98
      have h99 := (he 99 (by decide)).trans h99
      have h100 := (he 100 (by decide)).trans h100
      have h101 := (he 101 (by decide)).trans h101
      obtain rfl := Option.some.inj hf
      exact jnq11 C H locs ls hP hS hag h86 h88 h89 h90 h91 h92 h93 h94 h95 h96 h97 h98 h99 h100 h101 (lv_sub hl [3, 4, 2, 1, 0] rfl)
  have hf := ie_e c9 hf
  by_cases c19 : x7 = 1
  · have hf := it_e c19 hf
    refine lv_tableIn (tgt := 121) hx hb dX11_run_34 (by rw [c19]; decide) (by rw [c19]; decide) (by rw [c19]; rfl) (by decide) ?_
    refine lv_aload_n hx hb dX11_run_121 rfl (lv_at hl 3 rfl) ?_
    refine r_get (own := RX11) (T := TX11) (n := 32) (ci := 11) (v := .ref (ad 93)) hx hb hts nX11 hown hK hP (by omega) h86 rfl 9 (by decide) k3 rfl dX11_run_122 ?_
    refine lv_iload_n hx hb dX11_run_125 rfl (lv_at hl 2 rfl) ?_
    refine lv_iload_n hx hb dX11_run_126 rfl (lv_at hl 1 rfl) ?_
    obtain ⟨i21, f20, ef20, hf⟩ := wi_e hf
    refine r_iast hx hb hK hI hAd hP hS (by omega) h93 i21 dX11_run_127 ef20 (fun C H locs hP hS he hn => ?_)
    have hag : ∀ i : Nat, i ≠ 100 ∧ i ≠ 101 ∧ i ≠ 86 ∧ i ≠ 89 ∧ i ≠ 90 ∧ i ≠ 91 ∧ i ≠ 92 ∧ i ≠ 93 ∧ i ≠ 94 ∧ i ≠ 95 ∧ i ≠ 96 ∧ i ≠ 97 ∧ i ≠ 98 ∧ i ≠ 99 → C i = C0 i := fun i h => (he i (by omega)).trans (hag i h)
    have h86 := (he 86 (by decide)).trans h86
    have h88 := (he 88 (by decide)).trans h88
    have h89 := (he 89 (by decide)).trans h89
    have h90 := (he 90 (by decide)).trans h90
    have h91 := (he 91 (by decide)).trans h91
    have h92 := (he 92 (by decide)).trans h92
    have h94 := (he 94 (by decide)).trans h94
    have h95 := (he 95 (by decide)).trans h95
    have h96 := (he 96 (by decide)).trans h96
    have h97 := (he 97 (by decide)).trans h97
    have h98 := (he 98 (by decide)).trans h98
    have h99 := (he 99 (by decide)).trans h99
    have h100 := (he 100 (by decide)).trans h100
    have h101 := (he 101 (by decide)).trans h101
    have h93 : C 93 = aI g 12 f20 := hn
    obtain rfl := Option.some.inj hf
    rw [← hQ]
    exact e_vW hx hb hr hP hS ⟨hag, h100, h101, h86, h89, h90, h91, h92, h93, h94, h95, h96, h97, h98, h99⟩ hlocks dX11_run_128
  have hf := ie_e c19 hf
  by_cases c22 : x7 = 2
  · have hf := it_e c22 hf
    refine lv_tableIn (tgt := 129) hx hb dX11_run_34 (by rw [c22]; decide) (by rw [c22]; decide) (by rw [c22]; rfl) (by decide) ?_
    refine lv_aload_n hx hb dX11_run_129 rfl (lv_at hl 3 rfl) ?_
    refine r_get (own := RX11) (T := TX11) (n := 32) (ci := 11) (v := .ref (ad 94)) hx hb hts nX11 hown hK hP (by omega) h86 rfl 10 (by decide) k4 rfl dX11_run_130 ?_
    refine lv_iload_n hx hb dX11_run_133 rfl (lv_at hl 2 rfl) ?_
    refine lv_iload_n hx hb dX11_run_134 rfl (lv_at hl 1 rfl) ?_
    obtain ⟨i24, f23, ef23, hf⟩ := wi_e hf
    refine r_iast hx hb hK hI hAd hP hS (by omega) h94 i24 dX11_run_135 ef23 (fun C H locs hP hS he hn => ?_)
    have hag : ∀ i : Nat, i ≠ 100 ∧ i ≠ 101 ∧ i ≠ 86 ∧ i ≠ 89 ∧ i ≠ 90 ∧ i ≠ 91 ∧ i ≠ 92 ∧ i ≠ 93 ∧ i ≠ 94 ∧ i ≠ 95 ∧ i ≠ 96 ∧ i ≠ 97 ∧ i ≠ 98 ∧ i ≠ 99 → C i = C0 i := fun i h => (he i (by omega)).trans (hag i h)
    have h86 := (he 86 (by decide)).trans h86
    have h88 := (he 88 (by decide)).trans h88
    have h89 := (he 89 (by decide)).trans h89
    have h90 := (he 90 (by decide)).trans h90
    have h91 := (he 91 (by decide)).trans h91
    have h92 := (he 92 (by decide)).trans h92
    have h93 := (he 93 (by decide)).trans h93
    have h95 := (he 95 (by decide)).trans h95
    have h96 := (he 96 (by decide)).trans h96
    have h97 := (he 97 (by decide)).trans h97
    have h98 := (he 98 (by decide)).trans h98
    have h99 := (he 99 (by decide)).trans h99
    have h100 := (he 100 (by decide)).trans h100
    have h101 := (he 101 (by decide)).trans h101
    have h94 : C 94 = aI g 12 f23 := hn
    refine lv_aload_n hx hb dX11_run_136 rfl (lv_at hl 3 rfl) ?_
    refine r_get (own := RX11) (T := TX11) (n := 32) (ci := 11) (v := .ref (ad 95)) hx hb hts nX11 hown hK hP (by omega) h86 rfl 11 (by decide) k5 rfl dX11_run_137 ?_
    refine lv_iload_n hx hb dX11_run_140 rfl (lv_at hl 2 rfl) ?_
    refine lv_iload hx hb dX11_run_141 (lv_at hl 0 rfl) ?_
    obtain ⟨i26, f25, ef25, hf⟩ := wi_e hf
    refine r_iast hx hb hK hI hAd hP hS (by omega) h95 i26 dX11_run_143 ef25 (fun C H locs hP hS he hn => ?_)
    have hag : ∀ i : Nat, i ≠ 100 ∧ i ≠ 101 ∧ i ≠ 86 ∧ i ≠ 89 ∧ i ≠ 90 ∧ i ≠ 91 ∧ i ≠ 92 ∧ i ≠ 93 ∧ i ≠ 94 ∧ i ≠ 95 ∧ i ≠ 96 ∧ i ≠ 97 ∧ i ≠ 98 ∧ i ≠ 99 → C i = C0 i := fun i h => (he i (by omega)).trans (hag i h)
    have h86 := (he 86 (by decide)).trans h86
    have h88 := (he 88 (by decide)).trans h88
    have h89 := (he 89 (by decide)).trans h89
    have h90 := (he 90 (by decide)).trans h90
    have h91 := (he 91 (by decide)).trans h91
    have h92 := (he 92 (by decide)).trans h92
    have h93 := (he 93 (by decide)).trans h93
    have h94 := (he 94 (by decide)).trans h94
    have h96 := (he 96 (by decide)).trans h96
    have h97 := (he 97 (by decide)).trans h97
    have h98 := (he 98 (by decide)).trans h98
    have h99 := (he 99 (by decide)).trans h99
    have h100 := (he 100 (by decide)).trans h100
    have h101 := (he 101 (by decide)).trans h101
    have h95 : C 95 = aI g 12 f25 := hn
    refine lv_aload_n hx hb dX11_run_144 rfl (lv_at hl 3 rfl) ?_
    refine r_get (own := RX11) (T := TX11) (n := 32) (ci := 11) (v := .ref (ad 96)) hx hb hts nX11 hown hK hP (by omega) h86 rfl 12 (by decide) k6 rfl dX11_run_145 ?_
    refine lv_iload_n hx hb dX11_run_148 rfl (lv_at hl 2 rfl) ?_
    refine lv_iconst (v := 0) hx hb dX11_run_149 (by decide) ?_
    obtain ⟨i28, f27, ef27, hf⟩ := wi_e hf
    refine r_iast hx hb hK hI hAd hP hS (by omega) h96 i28 dX11_run_150 ef27 (fun C H locs hP hS he hn => ?_)
    have hag : ∀ i : Nat, i ≠ 100 ∧ i ≠ 101 ∧ i ≠ 86 ∧ i ≠ 89 ∧ i ≠ 90 ∧ i ≠ 91 ∧ i ≠ 92 ∧ i ≠ 93 ∧ i ≠ 94 ∧ i ≠ 95 ∧ i ≠ 96 ∧ i ≠ 97 ∧ i ≠ 98 ∧ i ≠ 99 → C i = C0 i := fun i h => (he i (by omega)).trans (hag i h)
    have h86 := (he 86 (by decide)).trans h86
    have h88 := (he 88 (by decide)).trans h88
    have h89 := (he 89 (by decide)).trans h89
    have h90 := (he 90 (by decide)).trans h90
    have h91 := (he 91 (by decide)).trans h91
    have h92 := (he 92 (by decide)).trans h92
    have h93 := (he 93 (by decide)).trans h93
    have h94 := (he 94 (by decide)).trans h94
    have h95 := (he 95 (by decide)).trans h95
    have h97 := (he 97 (by decide)).trans h97
    have h98 := (he 98 (by decide)).trans h98
    have h99 := (he 99 (by decide)).trans h99
    have h100 := (he 100 (by decide)).trans h100
    have h101 := (he 101 (by decide)).trans h101
    have h96 : C 96 = aI g 12 f27 := hn
    refine lv_aload_n hx hb dX11_run_151 rfl (lv_at hl 3 rfl) ?_
    refine r_get (own := RX11) (T := TX11) (n := 32) (ci := 11) (v := .ref (ad 97)) hx hb hts nX11 hown hK hP (by omega) h86 rfl 13 (by decide) k7 rfl dX11_run_152 ?_
    refine lv_iload_n hx hb dX11_run_155 rfl (lv_at hl 2 rfl) ?_
    refine lv_bipush (v := 23) hx hb dX11_run_156 (by decide) ?_
    obtain ⟨i30, f29, ef29, hf⟩ := wi_e hf
    refine r_iast hx hb hK hI hAd hP hS (by omega) h97 i30 dX11_run_158 ef29 (fun C H locs hP hS he hn => ?_)
    have hag : ∀ i : Nat, i ≠ 100 ∧ i ≠ 101 ∧ i ≠ 86 ∧ i ≠ 89 ∧ i ≠ 90 ∧ i ≠ 91 ∧ i ≠ 92 ∧ i ≠ 93 ∧ i ≠ 94 ∧ i ≠ 95 ∧ i ≠ 96 ∧ i ≠ 97 ∧ i ≠ 98 ∧ i ≠ 99 → C i = C0 i := fun i h => (he i (by omega)).trans (hag i h)
    have h86 := (he 86 (by decide)).trans h86
    have h88 := (he 88 (by decide)).trans h88
    have h89 := (he 89 (by decide)).trans h89
    have h90 := (he 90 (by decide)).trans h90
    have h91 := (he 91 (by decide)).trans h91
    have h92 := (he 92 (by decide)).trans h92
    have h93 := (he 93 (by decide)).trans h93
    have h94 := (he 94 (by decide)).trans h94
    have h95 := (he 95 (by decide)).trans h95
    have h96 := (he 96 (by decide)).trans h96
    have h98 := (he 98 (by decide)).trans h98
    have h99 := (he 99 (by decide)).trans h99
    have h100 := (he 100 (by decide)).trans h100
    have h101 := (he 101 (by decide)).trans h101
    have h97 : C 97 = aI g 12 f29 := hn
    obtain rfl := Option.some.inj hf
    rw [← hQ]
    exact e_vW hx hb hr hP hS ⟨hag, h100, h101, h86, h89, h90, h91, h92, h93, h94, h95, h96, h97, h98, h99⟩ hlocks dX11_run_159
  have hf := ie_e c22 hf
  by_cases c31 : x7 = 3
  · have hf := it_e c31 hf
    refine lv_tableIn (tgt := 160) hx hb dX11_run_34 (by rw [c31]; decide) (by rw [c31]; decide) (by rw [c31]; rfl) (by decide) ?_
    refine lv_aload_n hx hb dX11_run_160 rfl (lv_at hl 3 rfl) ?_
    refine r_get (own := RX11) (T := TX11) (n := 32) (ci := 11) (v := .ref (ad 96)) hx hb hts nX11 hown hK hP (by omega) h86 rfl 12 (by decide) k6 rfl dX11_run_161 ?_
    refine lv_iload_n hx hb dX11_run_164 rfl (lv_at hl 2 rfl) ?_
    refine lv_iload_n hx hb dX11_run_165 rfl (lv_at hl 1 rfl) ?_
    obtain ⟨i33, f32, ef32, hf⟩ := wi_e hf
    refine r_iast hx hb hK hI hAd hP hS (by omega) h96 i33 dX11_run_166 ef32 (fun C H locs hP hS he hn => ?_)
    have hag : ∀ i : Nat, i ≠ 100 ∧ i ≠ 101 ∧ i ≠ 86 ∧ i ≠ 89 ∧ i ≠ 90 ∧ i ≠ 91 ∧ i ≠ 92 ∧ i ≠ 93 ∧ i ≠ 94 ∧ i ≠ 95 ∧ i ≠ 96 ∧ i ≠ 97 ∧ i ≠ 98 ∧ i ≠ 99 → C i = C0 i := fun i h => (he i (by omega)).trans (hag i h)
    have h86 := (he 86 (by decide)).trans h86
    have h88 := (he 88 (by decide)).trans h88
    have h89 := (he 89 (by decide)).trans h89
    have h90 := (he 90 (by decide)).trans h90
    have h91 := (he 91 (by decide)).trans h91
    have h92 := (he 92 (by decide)).trans h92
    have h93 := (he 93 (by decide)).trans h93
    have h94 := (he 94 (by decide)).trans h94
    have h95 := (he 95 (by decide)).trans h95
    have h97 := (he 97 (by decide)).trans h97
    have h98 := (he 98 (by decide)).trans h98
    have h99 := (he 99 (by decide)).trans h99
    have h100 := (he 100 (by decide)).trans h100
    have h101 := (he 101 (by decide)).trans h101
    have h96 : C 96 = aI g 12 f32 := hn
    refine lv_aload_n hx hb dX11_run_167 rfl (lv_at hl 3 rfl) ?_
    refine r_get (own := RX11) (T := TX11) (n := 32) (ci := 11) (v := .ref (ad 97)) hx hb hts nX11 hown hK hP (by omega) h86 rfl 13 (by decide) k7 rfl dX11_run_168 ?_
    refine lv_iload_n hx hb dX11_run_171 rfl (lv_at hl 2 rfl) ?_
    refine lv_iload hx hb dX11_run_172 (lv_at hl 0 rfl) ?_
    obtain ⟨i35, f34, ef34, hf⟩ := wi_e hf
    refine r_iast hx hb hK hI hAd hP hS (by omega) h97 i35 dX11_run_174 ef34 (fun C H locs hP hS he hn => ?_)
    have hag : ∀ i : Nat, i ≠ 100 ∧ i ≠ 101 ∧ i ≠ 86 ∧ i ≠ 89 ∧ i ≠ 90 ∧ i ≠ 91 ∧ i ≠ 92 ∧ i ≠ 93 ∧ i ≠ 94 ∧ i ≠ 95 ∧ i ≠ 96 ∧ i ≠ 97 ∧ i ≠ 98 ∧ i ≠ 99 → C i = C0 i := fun i h => (he i (by omega)).trans (hag i h)
    have h86 := (he 86 (by decide)).trans h86
    have h88 := (he 88 (by decide)).trans h88
    have h89 := (he 89 (by decide)).trans h89
    have h90 := (he 90 (by decide)).trans h90
    have h91 := (he 91 (by decide)).trans h91
    have h92 := (he 92 (by decide)).trans h92
    have h93 := (he 93 (by decide)).trans h93
    have h94 := (he 94 (by decide)).trans h94
    have h95 := (he 95 (by decide)).trans h95
    have h96 := (he 96 (by decide)).trans h96
    have h98 := (he 98 (by decide)).trans h98
    have h99 := (he 99 (by decide)).trans h99
    have h100 := (he 100 (by decide)).trans h100
    have h101 := (he 101 (by decide)).trans h101
    have h97 : C 97 = aI g 12 f34 := hn
    obtain rfl := Option.some.inj hf
    rw [← hQ]
    exact e_vW hx hb hr hP hS ⟨hag, h100, h101, h86, h89, h90, h91, h92, h93, h94, h95, h96, h97, h98, h99⟩ hlocks dX11_run_175
  have hf := ie_e c31 hf
  by_cases c36 : x7 = 4
  · have hf := it_e c36 hf
    refine lv_tableIn (tgt := 176) hx hb dX11_run_34 (by rw [c36]; decide) (by rw [c36]; decide) (by rw [c36]; rfl) (by decide) ?_
    refine lv_aload_n hx hb dX11_run_176 rfl (lv_at hl 3 rfl) ?_
    refine r_get (own := RX11) (T := TX11) (n := 32) (ci := 11) (v := .ref (ad 98)) hx hb hts nX11 hown hK hP (by omega) h86 rfl 14 (by decide) k8 rfl dX11_run_177 ?_
    refine lv_iload_n hx hb dX11_run_180 rfl (lv_at hl 2 rfl) ?_
    refine lv_iload_n hx hb dX11_run_181 rfl (lv_at hl 1 rfl) ?_
    obtain ⟨i38, f37, ef37, hf⟩ := wi_e hf
    refine r_iast hx hb hK hI hAd hP hS (by omega) h98 i38 dX11_run_182 ef37 (fun C H locs hP hS he hn => ?_)
    have hag : ∀ i : Nat, i ≠ 100 ∧ i ≠ 101 ∧ i ≠ 86 ∧ i ≠ 89 ∧ i ≠ 90 ∧ i ≠ 91 ∧ i ≠ 92 ∧ i ≠ 93 ∧ i ≠ 94 ∧ i ≠ 95 ∧ i ≠ 96 ∧ i ≠ 97 ∧ i ≠ 98 ∧ i ≠ 99 → C i = C0 i := fun i h => (he i (by omega)).trans (hag i h)
    have h86 := (he 86 (by decide)).trans h86
    have h88 := (he 88 (by decide)).trans h88
    have h89 := (he 89 (by decide)).trans h89
    have h90 := (he 90 (by decide)).trans h90
    have h91 := (he 91 (by decide)).trans h91
    have h92 := (he 92 (by decide)).trans h92
    have h93 := (he 93 (by decide)).trans h93
    have h94 := (he 94 (by decide)).trans h94
    have h95 := (he 95 (by decide)).trans h95
    have h96 := (he 96 (by decide)).trans h96
    have h97 := (he 97 (by decide)).trans h97
    have h99 := (he 99 (by decide)).trans h99
    have h100 := (he 100 (by decide)).trans h100
    have h101 := (he 101 (by decide)).trans h101
    have h98 : C 98 = aI g 24 f37 := hn
    obtain rfl := Option.some.inj hf
    rw [← hQ]
    exact e_vW hx hb hr hP hS ⟨hag, h100, h101, h86, h89, h90, h91, h92, h93, h94, h95, h96, h97, h98, h99⟩ hlocks dX11_run_183
  have hf := ie_e c36 hf
  by_cases c39 : x7 = 5
  · have hf := it_e c39 hf
    refine lv_tableIn (tgt := 184) hx hb dX11_run_34 (by rw [c39]; decide) (by rw [c39]; decide) (by rw [c39]; rfl) (by decide) ?_
    refine lv_aload_n hx hb dX11_run_184 rfl (lv_at hl 3 rfl) ?_
    refine r_get (own := RX11) (T := TX11) (n := 32) (ci := 11) (v := .ref (ad 99)) hx hb hts nX11 hown hK hP (by omega) h86 rfl 15 (by decide) k9 rfl dX11_run_185 ?_
    refine lv_iload_n hx hb dX11_run_188 rfl (lv_at hl 2 rfl) ?_
    refine lv_iload_n hx hb dX11_run_189 rfl (lv_at hl 1 rfl) ?_
    obtain ⟨i41, f40, ef40, hf⟩ := wi_e hf
    refine r_iast hx hb hK hI hAd hP hS (by omega) h99 i41 dX11_run_190 ef40 (fun C H locs hP hS he hn => ?_)
    have hag : ∀ i : Nat, i ≠ 100 ∧ i ≠ 101 ∧ i ≠ 86 ∧ i ≠ 89 ∧ i ≠ 90 ∧ i ≠ 91 ∧ i ≠ 92 ∧ i ≠ 93 ∧ i ≠ 94 ∧ i ≠ 95 ∧ i ≠ 96 ∧ i ≠ 97 ∧ i ≠ 98 ∧ i ≠ 99 → C i = C0 i := fun i h => (he i (by omega)).trans (hag i h)
    have h86 := (he 86 (by decide)).trans h86
    have h88 := (he 88 (by decide)).trans h88
    have h89 := (he 89 (by decide)).trans h89
    have h90 := (he 90 (by decide)).trans h90
    have h91 := (he 91 (by decide)).trans h91
    have h92 := (he 92 (by decide)).trans h92
    have h93 := (he 93 (by decide)).trans h93
    have h94 := (he 94 (by decide)).trans h94
    have h95 := (he 95 (by decide)).trans h95
    have h96 := (he 96 (by decide)).trans h96
    have h97 := (he 97 (by decide)).trans h97
    have h98 := (he 98 (by decide)).trans h98
    have h100 := (he 100 (by decide)).trans h100
    have h101 := (he 101 (by decide)).trans h101
    have h99 : C 99 = aI g 4 f40 := hn
    refine lv_aload_n hx hb dX11_run_191 rfl (lv_at hl 3 rfl) ?_
    refine r_get (own := RX11) (T := TX11) (n := 32) (ci := 11) (v := .ref (ad 100)) hx hb hts nX11 hown hK hP (by omega) h86 rfl 16 (by decide) k10 rfl dX11_run_192 ?_
    refine lv_iload_n hx hb dX11_run_195 rfl (lv_at hl 2 rfl) ?_
    refine lv_iload hx hb dX11_run_196 (lv_at hl 0 rfl) ?_
    obtain ⟨i43, f42, ef42, hf⟩ := wi_e hf
    refine r_iast hx hb hK hI hAd hP hS (by omega) h100 i43 dX11_run_198 ef42 (fun C H locs hP hS he hn => ?_)
    have hag : ∀ i : Nat, i ≠ 100 ∧ i ≠ 101 ∧ i ≠ 86 ∧ i ≠ 89 ∧ i ≠ 90 ∧ i ≠ 91 ∧ i ≠ 92 ∧ i ≠ 93 ∧ i ≠ 94 ∧ i ≠ 95 ∧ i ≠ 96 ∧ i ≠ 97 ∧ i ≠ 98 ∧ i ≠ 99 → C i = C0 i := fun i h => (he i (by omega)).trans (hag i h)
    have h86 := (he 86 (by decide)).trans h86
    have h88 := (he 88 (by decide)).trans h88
    have h89 := (he 89 (by decide)).trans h89
    have h90 := (he 90 (by decide)).trans h90
    have h91 := (he 91 (by decide)).trans h91
    have h92 := (he 92 (by decide)).trans h92
    have h93 := (he 93 (by decide)).trans h93
    have h94 := (he 94 (by decide)).trans h94
    have h95 := (he 95 (by decide)).trans h95
    have h96 := (he 96 (by decide)).trans h96
    have h97 := (he 97 (by decide)).trans h97
    have h98 := (he 98 (by decide)).trans h98
    have h99 := (he 99 (by decide)).trans h99
    have h101 := (he 101 (by decide)).trans h101
    have h100 : C 100 = aI g 4 f42 := hn
    refine lv_aload_n hx hb dX11_run_199 rfl (lv_at hl 3 rfl) ?_
    refine r_get (own := RX11) (T := TX11) (n := 32) (ci := 11) (v := .ref (ad 101)) hx hb hts nX11 hown hK hP (by omega) h86 rfl 17 (by decide) k11 rfl dX11_run_200 ?_
    refine lv_iload_n hx hb dX11_run_203 rfl (lv_at hl 2 rfl) ?_
    refine lv_aload_n hx hb dX11_run_204 rfl (lv_at hl 3 rfl) ?_
    refine r_get (own := RX11) (T := TX11) (n := 32) (ci := 11) (v := .ref (ad 88)) hx hb hts nX11 hown hK hP (by omega) h86 rfl 2 (by decide) k0 rfl dX11_run_205 ?_
    refine lv_iload_n hx hb dX11_run_208 rfl (lv_at hl 4 rfl) ?_
    refine lv_iconst (v := 4) hx hb dX11_run_209 (by decide) ?_
    refine lv_iadd hx hb dX11_run_210 ?_
    obtain ⟨i45, x44, ex44, hf⟩ := ri_e hf
    refine r_iald hx hb hK hP (by omega) h88 i45 dX11_run_211 ex44 ?_
    obtain ⟨i47, f46, ef46, hf⟩ := wi_e hf
    refine r_iast hx hb hK hI hAd hP hS (by omega) h101 i47 dX11_run_212 ef46 (fun C H locs hP hS he hn => ?_)
    have hag : ∀ i : Nat, i ≠ 100 ∧ i ≠ 101 ∧ i ≠ 86 ∧ i ≠ 89 ∧ i ≠ 90 ∧ i ≠ 91 ∧ i ≠ 92 ∧ i ≠ 93 ∧ i ≠ 94 ∧ i ≠ 95 ∧ i ≠ 96 ∧ i ≠ 97 ∧ i ≠ 98 ∧ i ≠ 99 → C i = C0 i := fun i h => (he i (by omega)).trans (hag i h)
    have h86 := (he 86 (by decide)).trans h86
    have h88 := (he 88 (by decide)).trans h88
    have h89 := (he 89 (by decide)).trans h89
    have h90 := (he 90 (by decide)).trans h90
    have h91 := (he 91 (by decide)).trans h91
    have h92 := (he 92 (by decide)).trans h92
    have h93 := (he 93 (by decide)).trans h93
    have h94 := (he 94 (by decide)).trans h94
    have h95 := (he 95 (by decide)).trans h95
    have h96 := (he 96 (by decide)).trans h96
    have h97 := (he 97 (by decide)).trans h97
    have h98 := (he 98 (by decide)).trans h98
    have h99 := (he 99 (by decide)).trans h99
    have h100 := (he 100 (by decide)).trans h100
    have h101 : C 101 = aI g 4 f46 := hn
    obtain rfl := Option.some.inj hf
    rw [← hQ]
    exact e_vW hx hb hr hP hS ⟨hag, h100, h101, h86, h89, h90, h91, h92, h93, h94, h95, h96, h97, h98, h99⟩ hlocks dX11_run_213
  have hf := ie_e c39 hf
  by_cases c48 : x7 = 6
  · have hf := it_e c48 hf
    refine lv_tableIn (tgt := 214) hx hb dX11_run_34 (by rw [c48]; decide) (by rw [c48]; decide) (by rw [c48]; rfl) (by decide) ?_
    refine lv_aload_n hx hb dX11_run_214 rfl (lv_at hl 3 rfl) ?_
    refine lv_iload_n hx hb dX11_run_215 rfl (lv_at hl 2 rfl) ?_
    refine r_put (own := RX11) (T := TX11) (n := 32) (ci := 11) (v := .int x1) hx hb hts nX11 tyX11 tyX11_ok nmX11 hown hK hI hAd hP hS (by omega) h86 rfl 18 (by decide) k12 rfl rfl rfl (Nat.le_of_ble_eq_true rfl) dX11_run_216 (fun C H locs hP hS he hn => ?_)
    have hag : ∀ i : Nat, i ≠ 100 ∧ i ≠ 101 ∧ i ≠ 86 ∧ i ≠ 89 ∧ i ≠ 90 ∧ i ≠ 91 ∧ i ≠ 92 ∧ i ≠ 93 ∧ i ≠ 94 ∧ i ≠ 95 ∧ i ≠ 96 ∧ i ≠ 97 ∧ i ≠ 98 ∧ i ≠ 99 → C i = C0 i := fun i h => (he i (by omega)).trans (hag i h)
    have h88 := (he 88 (by decide)).trans h88
    have h89 := (he 89 (by decide)).trans h89
    have h90 := (he 90 (by decide)).trans h90
    have h91 := (he 91 (by decide)).trans h91
    have h92 := (he 92 (by decide)).trans h92
    have h93 := (he 93 (by decide)).trans h93
    have h94 := (he 94 (by decide)).trans h94
    have h95 := (he 95 (by decide)).trans h95
    have h96 := (he 96 (by decide)).trans h96
    have h97 := (he 97 (by decide)).trans h97
    have h98 := (he 98 (by decide)).trans h98
    have h99 := (he 99 (by decide)).trans h99
    have h100 := (he 100 (by decide)).trans h100
    have h101 := (he 101 (by decide)).trans h101
    have h86 : C 86 = .inr (11, [.ref (ad 87), .int m_len, .ref (ad 88), .int m_rm, .int m_there, .ref (ad 89), .ref (ad 90), .ref (ad 91), .ref (ad 92), .ref (ad 93), .ref (ad 94), .ref (ad 95), .ref (ad 96), .ref (ad 97), .ref (ad 98), .ref (ad 99), .ref (ad 100), .ref (ad 101), .int x1, .int m_blank, .ref (ad 102), .int m_fm, .int m_at, .int m_pl, .int m_end, .ref (ad 103), .ref (ad 104), .ref (ad 105), .ref (ad 106), .ref (ad 107), .ref (ad 108), .int m_seed]) := hn
    obtain rfl := Option.some.inj hf
    rw [← hQ]
    exact e_vW hx hb hr hP hS ⟨hag, h100, h101, h86, h89, h90, h91, h92, h93, h94, h95, h96, h97, h98, h99⟩ hlocks dX11_run_219
  have hf := ie_e c48 hf
  have hsw : Int32.toInt x7 < 0 ∨ 6 < Int32.toInt x7 := by
    have qc9 := ne_toInt c9
    rw [show Int32.toInt 0 = 0 from rfl] at qc9
    have qc19 := ne_toInt c19
    rw [show Int32.toInt 1 = 1 from rfl] at qc19
    have qc22 := ne_toInt c22
    rw [show Int32.toInt 2 = 2 from rfl] at qc22
    have qc31 := ne_toInt c31
    rw [show Int32.toInt 3 = 3 from rfl] at qc31
    have qc36 := ne_toInt c36
    rw [show Int32.toInt 4 = 4 from rfl] at qc36
    have qc39 := ne_toInt c39
    rw [show Int32.toInt 5 = 5 from rfl] at qc39
    have qc48 := ne_toInt c48
    rw [show Int32.toInt 6 = 6 from rfl] at qc48
    omega
  refine lv_tableOut (tgt := 220) hx hb dX11_run_34 hsw (by decide) ?_
  refine lv_aload_n hx hb dX11_run_220 rfl (lv_at hl 3 rfl) ?_
  refine lv_iload_n hx hb dX11_run_221 rfl (lv_at hl 2 rfl) ?_
  refine r_put (own := RX11) (T := TX11) (n := 32) (ci := 11) (v := .int x1) hx hb hts nX11 tyX11 tyX11_ok nmX11 hown hK hI hAd hP hS (by omega) h86 rfl 19 (by decide) k13 rfl rfl rfl (Nat.le_of_ble_eq_true rfl) dX11_run_222 (fun C H locs hP hS he hn => ?_)
  have hag : ∀ i : Nat, i ≠ 100 ∧ i ≠ 101 ∧ i ≠ 86 ∧ i ≠ 89 ∧ i ≠ 90 ∧ i ≠ 91 ∧ i ≠ 92 ∧ i ≠ 93 ∧ i ≠ 94 ∧ i ≠ 95 ∧ i ≠ 96 ∧ i ≠ 97 ∧ i ≠ 98 ∧ i ≠ 99 → C i = C0 i := fun i h => (he i (by omega)).trans (hag i h)
  have h88 := (he 88 (by decide)).trans h88
  have h89 := (he 89 (by decide)).trans h89
  have h90 := (he 90 (by decide)).trans h90
  have h91 := (he 91 (by decide)).trans h91
  have h92 := (he 92 (by decide)).trans h92
  have h93 := (he 93 (by decide)).trans h93
  have h94 := (he 94 (by decide)).trans h94
  have h95 := (he 95 (by decide)).trans h95
  have h96 := (he 96 (by decide)).trans h96
  have h97 := (he 97 (by decide)).trans h97
  have h98 := (he 98 (by decide)).trans h98
  have h99 := (he 99 (by decide)).trans h99
  have h100 := (he 100 (by decide)).trans h100
  have h101 := (he 101 (by decide)).trans h101
  have h86 : C 86 = .inr (11, [.ref (ad 87), .int m_len, .ref (ad 88), .int m_rm, .int m_there, .ref (ad 89), .ref (ad 90), .ref (ad 91), .ref (ad 92), .ref (ad 93), .ref (ad 94), .ref (ad 95), .ref (ad 96), .ref (ad 97), .ref (ad 98), .ref (ad 99), .ref (ad 100), .ref (ad 101), .int m_lift, .int x1, .ref (ad 102), .int m_fm, .int m_at, .int m_pl, .int m_end, .ref (ad 103), .ref (ad 104), .ref (ad 105), .ref (ad 106), .ref (ad 107), .ref (ad 108), .int m_seed]) := hn
  obtain rfl := Option.some.inj hf
  rw [← hQ]
  exact e_vW hx hb hr hP hS ⟨hag, h100, h101, h86, h89, h90, h91, h92, h93, h94, h95, h96, h97, h98, h99⟩ hlocks dX11_run_225

