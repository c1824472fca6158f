def f_X10_has (p0 : Int32) (p1 : Int32) : Option (Int32) :=
  if ((p0 >>> (p1 &&& 31)) &&& 1) = 0 then
    some (0)
  else
    some (1)
abbrev rmX10_has : Room := { frames := 0, cells := 0, slots := 0, locals := 0 }
set_option maxHeartbeats 4000000 in
set_option maxRecDepth 100000 in
theorem c_X10_has {l : Launch} {sz : Nat}  {p0 : Int32} {p1 : Int32} {rr : Int32} (hf : f_X10_has p0 p1 = some rr) : Met l yX10_has wsX10_has rmX10_has (PcS sz [.int p0, .int p1]) (QiR sz bz rr) 0 0 (An sz) := by
  refine Met.ofW (cc := cX10_has) (maxL := 2) (ret := (some .boolean)) (by decide) rfl ?_
  intro p e s m args below meth c s₁ B hml hv
  obtain ⟨hav, hsz⟩ := hv
  subst hsz
  have hx := B.exec
  have hb := B.bytes
  have hr := B.returns
  have hts := atoms_spec (ws := wsX10_has) B.pre
  have hown : s.vm.findClass RX10 = some m.cls := findClass_of_methodNamed B.named
  have hlocks := B.notSynchronized
  generalize hQ : MQ below (QiR s.heap.size bz rr) args s 0 0 (An s.heap.size) = QQ
  have hS : va_S (An s.heap.size) s.heap s.heap [] := va_S.rf
  have hA : ∀ q, s.heap.size ≤ q → (An s.heap.size) q := fun q h => h
  have hE := lg_entry_eq m [.int p0, .int p1] 2
  rw [← hav] at hE
  rw [hE]
  have hl := lv_entry [.int p0, .int p1] (n := 2) (Nat.le_of_ble_eq_true rfl)
  generalize (lg_sl [.int p0, .int p1] ++ List.replicate (2 - (lg_sl [.int p0, .int p1]).length) Slot.unset).toArray = ls at hl ⊢
  have hl : lv_has ls 2 [(0, .int p0), (1, .int p1)] := hl
  clear hE
  unfold f_X10_has at hf
  suffices hgo : ∀ (H : Heap) (locs : List Loc), va_S (An s.heap.size) s.heap H locs → W p l e (headSpec wsX10_has rmX10_has).room s m args below meth c H locs 0 0 QQ (F0 m 0 ls []) from hgo s.heap [] hS
  clear hS
  intro H locs hS
  refine lv_iload_n hx hb dX10_has_0 rfl (lv_at hl 0 rfl) ?_
  refine lv_iload_n hx hb dX10_has_1 rfl (lv_at hl 1 rfl) ?_
  refine lv_ishr hx hb dX10_has_2 ?_
  refine lv_iconst (v := 1) hx hb dX10_has_3 (by decide) ?_
  refine lv_iand hx hb dX10_has_4 ?_
  refine lv_if_eq (tgt := 12) hx hb dX10_has_5 (by decide) (fun c1 => ?_) (fun c1 => ?_)
  · have hf := it_e c1 hf
    refine lv_iconst (v := 0) hx hb dX10_has_12 (by decide) ?_
    obtain rfl := Option.some.inj hf
    rw [← hQ]
    exact e_zR hx hb hr rfl bz0 hS hlocks dX10_has_13
  · have hf := ie_e c1 hf
    refine lv_iconst (v := 1) hx hb dX10_has_8 (by decide) ?_
    refine lv_goto (tgt := 13) hx hb dX10_has_9 (by decide) ?_
    obtain rfl := Option.some.inj hf
    rw [← hQ]
    exact e_zR hx hb hr rfl bz1 hS hlocks dX10_has_13

def f_X11_in (p0 : Int64) (p1 : Int64) (p2 : Int64) : Option (Int32) :=
  if (lg_cmp p0 p1) < 0 then
    some (0)
  else
    if 0 < (lg_cmp p0 p2) then
      some (0)
    else
      some (1)
abbrev rmX11_in : Room := { frames := 0, cells := 0, slots := 0, locals := 0 }
set_option maxHeartbeats 4000000 in
set_option maxRecDepth 100000 in
theorem c_X11_in {l : Launch} {sz : Nat}  {p0 : Int64} {p1 : Int64} {p2 : Int64} {rr : Int32} (hf : f_X11_in p0 p1 p2 = some rr) : Met l yX11_in wsX11_in rmX11_in (PcS sz [.long p0, .long p1, .long p2]) (QiR sz bz rr) 0 0 (An sz) := by
  refine Met.ofW (cc := cX11_in) (maxL := 6) (ret := (some .boolean)) (by decide) rfl ?_
  intro p e s m args below meth c s₁ B hml hv
  obtain ⟨hav, hsz⟩ := hv
  subst hsz
  have hx := B.exec
  have hb := B.bytes
  have hr := B.returns
  have hts := atoms_spec (ws := wsX11_in) B.pre
  have hown : s.vm.findClass RX11 = some m.cls := findClass_of_methodNamed B.named
  have hlocks := B.notSynchronized
  generalize hQ : MQ below (QiR s.heap.size bz rr) args s 0 0 (An s.heap.size) = QQ
  have hS : va_S (An s.heap.size) s.heap s.heap [] := va_S.rf
  have hA : ∀ q, s.heap.size ≤ q → (An s.heap.size) q := fun q h => h
  have hE := lg_entry_eq m [.long p0, .long p1, .long p2] 6
  rw [← hav] at hE
  rw [hE]
  have hl := lv_entry [.long p0, .long p1, .long p2] (n := 6) (Nat.le_of_ble_eq_true rfl)
  generalize (lg_sl [.long p0, .long p1, .long p2] ++ List.replicate (6 - (lg_sl [.long p0, .long p1, .long p2]).length) Slot.unset).toArray = ls at hl ⊢
  have hl : lv_has ls 6 [(0, .long p0), (2, .long p1), (4, .long p2)] := hl
  clear hE
  unfold f_X11_in at hf
  suffices hgo : ∀ (H : Heap) (locs : List Loc), va_S (An s.heap.size) s.heap H locs → W p l e (headSpec wsX11_in rmX11_in).room s m args below meth c H locs 0 0 QQ (F0 m 0 ls []) from hgo s.heap [] hS
  clear hS
  intro H locs hS
  refine lv_lload_n hx hb dX11_in_0 rfl (lv_at hl 0 rfl) ?_
  refine lv_lload_n hx hb dX11_in_1 rfl (lv_at hl 1 rfl) ?_
  refine W.lcmp hx hb dX11_in_2 ?_
  refine lv_if_lt (tgt := 17) hx hb dX11_in_3 (by decide) (fun c1 => ?_) (fun c1 => ?_)
  · have hf := it_e c1 hf
    refine lv_iconst (v := 0) hx hb dX11_in_17 (by decide) ?_
    obtain rfl := Option.some.inj hf
    rw [← hQ]
    exact e_zR hx hb hr rfl bz0 hS hlocks dX11_in_18
  · have hf := ie_e c1 hf
    refine lv_lload_n hx hb dX11_in_6 rfl (lv_at hl 0 rfl) ?_
    refine lv_lload hx hb dX11_in_7 (lv_at hl 2 rfl) ?_
    refine W.lcmp hx hb dX11_in_9 ?_
    refine lv_if_gt (tgt := 17) hx hb dX11_in_10 (by decide) (fun c2 => ?_) (fun c2 => ?_)
    · have hf := it_e c2 hf
      refine lv_iconst (v := 0) hx hb dX11_in_17 (by decide) ?_
      obtain rfl := Option.some.inj hf
      rw [← hQ]
      exact e_zR hx hb hr rfl bz0 hS hlocks dX11_in_18
    · have hf := ie_e c2 hf
      refine lv_iconst (v := 1) hx hb dX11_in_13 (by decide) ?_
      refine lv_goto (tgt := 18) hx hb dX11_in_14 (by decide) ?_
      obtain rfl := Option.some.inj hf
      rw [← hQ]
      exact e_zR hx hb hr rfl bz1 hS hlocks dX11_in_18

def f_X11_has (p0 : Int32) (p1 : Int32) : Option (Int32) :=
  if ((p0 >>> (p1 &&& 31)) &&& 1) = 1 then
    some (1)
  else
    some (0)
abbrev rmX11_has : Room := { frames := 0, cells := 0, slots := 0, locals := 0 }
set_option maxHeartbeats 4000000 in
set_option maxRecDepth 100000 in
theorem c_X11_has {l : Launch} {sz : Nat}  {p0 : Int32} {p1 : Int32} {rr : Int32} (hf : f_X11_has p0 p1 = some rr) : Met l yX11_has wsX11_has rmX11_has (PcS sz [.int p0, .int p1]) (QiR sz bz rr) 0 0 (An sz) := by
  refine Met.ofW (cc := cX11_has) (maxL := 2) (ret := (some .boolean)) (by decide) rfl ?_
  intro p e s m args below meth c s₁ B hml hv
  obtain ⟨hav, hsz⟩ := hv
  subst hsz
  have hx := B.exec
  have hb := B.bytes
  have hr := B.returns
  have hts := atoms_spec (ws := wsX11_has) B.pre
  have hown : s.vm.findClass RX11 = some m.cls := findClass_of_methodNamed B.named
  have hlocks := B.notSynchronized
  generalize hQ : MQ below (QiR s.heap.size bz rr) args s 0 0 (An s.heap.size) = QQ
  have hS : va_S (An s.heap.size) s.heap s.heap [] := va_S.rf
  have hA : ∀ q, s.heap.size ≤ q → (An s.heap.size) q := fun q h => h
  have hE := lg_entry_eq m [.int p0, .int p1] 2
  rw [← hav] at hE
  rw [hE]
  have hl := lv_entry [.int p0, .int p1] (n := 2) (Nat.le_of_ble_eq_true rfl)
  generalize (lg_sl [.int p0, .int p1] ++ List.replicate (2 - (lg_sl [.int p0, .int p1]).length) Slot.unset).toArray = ls at hl ⊢
  have hl : lv_has ls 2 [(0, .int p0), (1, .int p1)] := hl
  clear hE
  unfold f_X11_has at hf
  suffices hgo : ∀ (H : Heap) (locs : List Loc), va_S (An s.heap.size) s.heap H locs → W p l e (headSpec wsX11_has rmX11_has).room s m args below meth c H locs 0 0 QQ (F0 m 0 ls []) from hgo s.heap [] hS
  clear hS
  intro H locs hS
  refine lv_iload_n hx hb dX11_has_0 rfl (lv_at hl 0 rfl) ?_
  refine lv_iload_n hx hb dX11_has_1 rfl (lv_at hl 1 rfl) ?_
  refine lv_ishr hx hb dX11_has_2 ?_
  refine lv_iconst (v := 1) hx hb dX11_has_3 (by decide) ?_
  refine lv_iand hx hb dX11_has_4 ?_
  refine lv_iconst (v := 1) hx hb dX11_has_5 (by decide) ?_
  refine lv_icmp_ne (tgt := 13) hx hb dX11_has_6 (by decide) (fun c1 => ?_) (fun c1 => ?_)
  · have hf := ie_e c1 hf
    refine lv_iconst (v := 0) hx hb dX11_has_13 (by decide) ?_
    obtain rfl := Option.some.inj hf
    rw [← hQ]
    exact e_zR hx hb hr rfl bz0 hS hlocks dX11_has_14
  · have hf := it_e c1 hf
    refine lv_iconst (v := 1) hx hb dX11_has_9 (by decide) ?_
    refine lv_goto (tgt := 14) hx hb dX11_has_10 (by decide) ?_
    obtain rfl := Option.some.inj hf
    rw [← hQ]
    exact e_zR hx hb hr rfl bz1 hS hlocks dX11_has_14

def LX11_many_4 (p0 : Int32) (ko : Int32 → Int32 → Option (Int32)) : Nat → Int32 → Int32 → Option (Int32)
  | 0, _, _ => none
  | n + 1, x1, x2 =>
    if 12 ≤ x2 then
      ko x1 x2
    else
      lt ((x1 + ((p0 >>> (x2 &&& 31)) &&& 1)) : Int32) fun x6 =>
      lt (x2 + 1 : Int32) fun x7 =>
      LX11_many_4 p0 ko n x6 x7
theorem LX11_many_4_z (p0 : Int32) (ko : Int32 → Int32 → Option (Int32)) (x1 : Int32) (x2 : Int32) : LX11_many_4 p0 ko 0 x1 x2 = none := rfl
theorem LX11_many_4_s (p0 : Int32) (ko : Int32 → Int32 → Option (Int32)) (n : Nat) (x1 : Int32) (x2 : Int32) : LX11_many_4 p0 ko (n + 1) x1 x2 =
    if 12 ≤ x2 then
      ko x1 x2
    else
      lt ((x1 + ((p0 >>> (x2 &&& 31)) &&& 1)) : Int32) fun x6 =>
      lt (x2 + 1 : Int32) fun x7 =>
      LX11_many_4 p0 ko n x6 x7 := rfl
def f_X11_many (p0 : Int32) : Option (Int32) :=
  LX11_many_4 p0 (fun x3 x4 =>
    some (x3)) FU 0 0
abbrev rmX11_many : Room := { frames := 0, cells := 0, slots := 0, locals := 0 }
set_option maxHeartbeats 4000000 in
set_option maxRecDepth 100000 in
theorem c_X11_many {l : Launch} {sz : Nat}  {p0 : Int32} {rr : Int32} (hf : f_X11_many p0 = some rr) : Met l yX11_many wsX11_many rmX11_many (PcS sz [.int p0]) (QiR sz tP rr) 0 0 (An sz) := by
  refine Met.ofW (cc := cX11_many) (maxL := 3) (ret := (some .int)) (by decide) rfl ?_
  intro p e s m args below meth c s₁ B hml hv
  obtain ⟨hav, hsz⟩ := hv
  subst hsz
  have hx := B.exec
  have hb := B.bytes
  have hr := B.returns
  have hts := atoms_spec (ws := wsX11_many) B.pre
  have hown : s.vm.findClass RX11 = some m.cls := findClass_of_methodNamed B.named
  have hlocks := B.notSynchronized
  generalize hQ : MQ below (QiR s.heap.size tP rr) args s 0 0 (An s.heap.size) = QQ
  have hS : va_S (An s.heap.size) s.heap s.heap [] := va_S.rf
  have hA : ∀ q, s.heap.size ≤ q → (An s.heap.size) q := fun q h => h
  have hE := lg_entry_eq m [.int p0] 3
  rw [← hav] at hE
  rw [hE]
  have hl := lv_entry [.int p0] (n := 3) (Nat.le_of_ble_eq_true rfl)
  generalize (lg_sl [.int p0] ++ List.replicate (3 - (lg_sl [.int p0]).length) Slot.unset).toArray = ls at hl ⊢
  have hl : lv_has ls 3 [(0, .int p0)] := hl
  clear hE
  unfold f_X11_many at hf
  suffices hgo : ∀ (H : Heap) (locs : List Loc), va_S (An s.heap.size) s.heap H locs → W p l e (headSpec wsX11_many rmX11_many).room s m args below meth c H locs 0 0 QQ (F0 m 0 ls []) from hgo s.heap [] hS
  clear hS
  intro H locs hS
  refine lv_iconst (v := 0) hx hb dX11_many_0 (by decide) ?_
  refine lv_istore_n (lv' := [(1, .int 0), (0, .int p0)]) hx hb dX11_many_1 rfl hl (by decide) rfl (fun ls hl => ?_)
  refine lv_iconst (v := 0) hx hb dX11_many_2 (by decide) ?_
  refine lv_istore_n (lv' := [(2, .int 0), (1, .int 0), (0, .int p0)]) hx hb dX11_many_3 rfl hl (by decide) rfl (fun ls hl => ?_)
  have key4 : ∀ (ko : Int32 → Int32 → Option (Int32)), (∀ (x3 : Int32) (x4 : Int32) (H : Heap) (locs : List Loc) (ls : Array Slot), va_S (An s.heap.size) s.heap H locs → lv_has ls 3 [(0, .int p0), (1, .int x3), (2, .int x4)] → ko x3 x4 = some rr → W p l e (headSpec wsX11_many rmX11_many).room s m args below meth c H locs 0 0 QQ (F0 m 24 ls [])) → ∀ (n : Nat) (x1 : Int32) (x2 : Int32) (H : Heap) (locs : List Loc) (ls : Array Slot), va_S (An s.heap.size) s.heap H locs → lv_has ls 3 [(0, .int p0), (1, .int x1), (2, .int x2)] → LX11_many_4 p0 ko n x1 x2 = some rr → W p l e (headSpec wsX11_many rmX11_many).room s m args below meth c H locs 0 0 QQ (F0 m 4 ls []) := by
    intro ko hko n
    induction n with
    | zero =>
      intro x1 x2 H locs ls hS hl hf
      rw [LX11_many_4_z] at hf
      cases hf
    | succ n ih =>
      intro x1 x2 H locs ls hS hl hf
      rw [LX11_many_4_s] at hf
      refine lv_iload_n hx hb dX11_many_4 rfl (lv_at hl 2 rfl) ?_
      refine lv_bipush (v := 12) hx hb dX11_many_5 (by decide) ?_
      refine lv_icmp_ge (tgt := 24) hx hb dX11_many_7 (by decide) (fun c5 => ?_) (fun c5 => ?_)
      · have hf := it_e c5 hf
        exact hko x1 x2 H locs ls hS (lv_sub hl [0, 1, 2] rfl) hf
      · have hf := ie_e c5 hf
        refine lv_iload_n hx hb dX11_many_10 rfl (lv_at hl 1 rfl) ?_
        refine lv_iload_n hx hb dX11_many_11 rfl (lv_at hl 0 rfl) ?_
        refine lv_iload_n hx hb dX11_many_12 rfl (lv_at hl 2 rfl) ?_
        refine lv_ishr hx hb dX11_many_13 ?_
        refine lv_iconst (v := 1) hx hb dX11_many_14 (by decide) ?_
        refine lv_iand hx hb dX11_many_15 ?_
        refine lv_iadd hx hb dX11_many_16 ?_
        obtain ⟨x6, ex6, hf⟩ := lt_e hf
        refine tp_i ex6 ?_
        refine lv_istore_n (lv' := [(1, .int x6), (0, .int p0), (2, .int x2)]) hx hb dX11_many_17 rfl hl (by decide) rfl (fun ls hl => ?_)
        obtain ⟨x7, ex7, hf⟩ := lt_e hf
        refine lv_iinc (v := x7) (lv' := [(2, .int x7), (1, .int x6), (0, .int p0)]) hx hb dX11_many_18 hl (k := 2) rfl (by rw [ex7]; rfl) (by decide) rfl (fun ls hl => ?_)
        refine lv_goto (tgt := 4) hx hb dX11_many_21 (by decide) ?_
        exact ih x6 x7 H locs ls hS (lv_sub hl [2, 1, 0] rfl) hf
  refine key4 _ (fun x3 x4 H locs ls hS hl hf => ?_) FU 0 0 H locs ls hS (lv_sub hl [2, 1, 0] rfl) hf
  refine lv_iload_n hx hb dX11_many_24 rfl (lv_at hl 1 rfl) ?_
  obtain rfl := Option.some.inj hf
  rw [← hQ]
  exact e_iR hx hb hr rfl (tP_i _) hS hlocks dX11_many_25

def f_X11_isNode (p0 : Int32) (m_there : Int32) : Option (Int32) :=
  (f_X11_in (Int32.toInt64 p0) (0 : Int64) (11 : Int64)).bind fun q1 =>
  if q1 = 0 then
    some (0)
  else
    (f_X11_has m_there p0).bind fun q3 =>
    if q3 = 0 then
      some (0)
    else
      some (1)
abbrev rmX11_isNode : Room := { frames := 1, cells := 0, slots := 0, locals := 25 }
set_option maxHeartbeats 4000000 in
set_option maxRecDepth 100000 in
theorem c_X11_isNode {l : Launch} {D : va_G} {g : Nat → ClassId} {ad : Nat → Nat} {C : Nat → va_E} {sz : Nat} {m_len : Int32} {m_rm : Int32} {m_there : Int32} {m_lift : Int32} {m_blank : Int32} {m_fm : Int32} {m_at : Int32} {m_pl : Int32} {m_end : Int32} {m_seed : Int32} {p0 : Int32} {rr : Int32} (h86 : C 86 = .inr (11, [.ref (ad 87), .int m_len, .ref (ad 88), .int m_rm, .int m_there, .ref (ad 89), .ref (ad 90), .ref (ad 91), .ref (ad 92), .ref (ad 93), .ref (ad 94), .ref (ad 95), .ref (ad 96), .ref (ad 97), .ref (ad 98), .ref (ad 99), .ref (ad 100), .ref (ad 101), .int m_lift, .int m_blank, .ref (ad 102), .int m_fm, .int m_at, .int m_pl, .int m_end, .ref (ad 103), .ref (ad 104), .ref (ad 105), .ref (ad 106), .ref (ad 107), .ref (ad 108), .int m_seed])) (hf : f_X11_isNode p0 m_there = some rr) : Met l yX11_isNode wsX11_isNode rmX11_isNode (PcW D g 109 ad C sz [.ref (ad 86), .int p0]) (QiR sz bz rr) 0 0 (An sz) := by
  refine Met.ofW (cc := cX11_isNode) (maxL := 2) (ret := (some .boolean)) (by decide) rfl ?_
  intro p e s m args below meth c s₁ B hml hv
  obtain ⟨hav, hsz, hK, hP⟩ := hv
  subst hsz
  have hx := B.exec
  have hb := B.bytes
  have hr := B.returns
  have hts := atoms_spec (ws := wsX11_isNode) B.pre
  have hown : s.vm.findClass RX11 = some m.cls := findClass_of_methodNamed B.named
  have hlocks := B.notSynchronized
  generalize hQ : MQ below (QiR s.heap.size bz rr) args s 0 0 (An s.heap.size) = QQ
  have hS : va_S (An s.heap.size) s.heap s.heap [] := va_S.rf
  have hA : ∀ q, s.heap.size ≤ q → (An s.heap.size) q := fun q h => h
  have k0 := hts (.constantLong RX11 81 (11)) (List.mem_of_getElem? (i := 1) rfl)
  have k1 := hts (.fieldLink RX11 16 "UpDrainModel" "there" "I") (List.mem_of_getElem? (i := 2) rfl)
  have nX11 : ∀ w ∈ u_ws RX11 TX11 32, w ∈ wsX11_isNode := fun _ h => List.mem_cons_of_mem _ (List.mem_append_right _ h)
  have hE := lg_entry_eq m [.ref (ad 86), .int p0] 2
  rw [← hav] at hE
  rw [hE]
  have hl := lv_entry [.ref (ad 86), .int p0] (n := 2) (Nat.le_of_ble_eq_true rfl)
  generalize (lg_sl [.ref (ad 86), .int p0] ++ List.replicate (2 - (lg_sl [.ref (ad 86), .int p0]).length) Slot.unset).toArray = ls at hl ⊢
  have hl : lv_has ls 2 [(0, .ref (ad 86)), (1, .int p0)] := hl
  clear hE
  unfold f_X11_isNode at hf
  suffices hgo : ∀ (H : Heap) (locs : List Loc), va_P D vwCl (wd 109 ad C) H → va_S (An s.heap.size) s.heap H locs → W p l e (headSpec wsX11_isNode rmX11_isNode).room s m args below meth c H locs 0 0 QQ (F0 m 0 ls []) from hgo s.heap [] hP hS
  clear hS hP
  intro H locs hP hS
  refine lv_iload_n hx hb dX11_isNode_0 rfl (lv_at hl 1 rfl) ?_
  refine lv_i2l hx hb dX11_isNode_1 rfl ?_
  refine lv_lconst (v := 0) hx hb dX11_isNode_2 (by decide) ?_
  refine lv_ldc2 (own := RX11) hx hb hown k0 dX11_isNode_3 ?_
  obtain ⟨q1, hq1, hf⟩ := bd_e hf
  refine k_iR (va_runS (As := [.long (Int32.toInt64 p0), .long (0 : Int64), .long (11 : Int64)]) (rest := []) ⟨hx, hb, hml, hown, hts⟩ (c_X11_in (l := l) (sz := H.size) (p0 := (Int32.toInt64 p0)) (p1 := (0 : Int64)) (p2 := (11 : Int64)) hq1) (va_cwS 3 hts gX11_isNode_X11_in rfl rfl rfl (by decide +kernel) ⟨Nat.le_of_ble_eq_true rfl, Nat.le_of_ble_eq_true rfl⟩) preS0 rfl rfl hl.1 rfl (lv_room (Nat.le_of_ble_eq_true rfl)) dX11_isNode_6 ⟨Nat.le_refl _, Nat.le_refl _⟩) hA hP hS (fun H locs hP hS hbz_q1 => ?_)
  refine lv_if_eq (tgt := 27) hx hb dX11_isNode_9 (by decide) (fun c2 => ?_) (fun c2 => ?_)
  · have hf := it_e c2 hf
    refine lv_iconst (v := 0) hx hb dX11_isNode_27 (by decide) ?_
    obtain rfl := Option.some.inj hf
    rw [← hQ]
    exact e_zR hx hb hr rfl bz0 hS hlocks dX11_isNode_28
  · have hf := ie_e c2 hf
    refine lv_aload_n hx hb dX11_isNode_12 rfl (lv_at hl 0 rfl) ?_
    refine r_get (own := RX11) (T := TX11) (n := 32) (ci := 11) (v := .int m_there) hx hb hts nX11 hown hK hP (by decide) h86 rfl 4 (by decide) k1 rfl dX11_isNode_13 ?_
    refine lv_iload_n hx hb dX11_isNode_16 rfl (lv_at hl 1 rfl) ?_
    obtain ⟨q3, hq3, hf⟩ := bd_e hf
    refine k_iR (va_runS (As := [.int m_there, .int p0]) (rest := []) ⟨hx, hb, hml, hown, hts⟩ (c_X11_has (l := l) (sz := H.size) (p0 := m_there) (p1 := p0) hq3) (va_cwS 2 hts gX11_isNode_X11_has rfl rfl rfl (by decide +kernel) ⟨Nat.le_of_ble_eq_true rfl, Nat.le_of_ble_eq_true rfl⟩) preS0 rfl rfl hl.1 rfl (lv_room (Nat.le_of_ble_eq_true rfl)) dX11_isNode_17 ⟨Nat.le_refl _, Nat.le_refl _⟩) hA hP hS (fun H locs hP hS hbz_q3 => ?_)
    refine lv_if_eq (tgt := 27) hx hb dX11_isNode_20 (by decide) (fun c4 => ?_) (fun c4 => ?_)
    · have hf := it_e c4 hf
      refine lv_iconst (v := 0) hx hb dX11_isNode_27 (by decide) ?_
      obtain rfl := Option.some.inj hf
      rw [← hQ]
      exact e_zR hx hb hr rfl bz0 hS hlocks dX11_isNode_28
    · have hf := ie_e c4 hf
      refine lv_iconst (v := 1) hx hb dX11_isNode_23 (by decide) ?_
      refine lv_goto (tgt := 28) hx hb dX11_isNode_24 (by decide) ?_
      obtain rfl := Option.some.inj hf
      rw [← hQ]
      exact e_zR hx hb hr rfl bz1 hS hlocks dX11_isNode_28

def f_X11_sort (p0 : Int32) : Option (Int32) :=
  if p0 < 97 then
    if p0 < 48 then
      some (0)
    else
      if 57 < p0 then
        some (0)
      else
        some (2)
  else
    if 122 < p0 then
      if p0 < 48 then
        some (0)
      else
        if 57 < p0 then
          some (0)
        else
          some (2)
    else
      some (1)
abbrev rmX11_sort : Room := { frames := 0, cells := 0, slots := 0, locals := 0 }
set_option maxHeartbeats 4000000 in
set_option maxRecDepth 100000 in
theorem c_X11_sort {l : Launch} {sz : Nat}  {p0 : Int32} {rr : Int32} (hf : f_X11_sort p0 = some rr) : Met l yX11_sort wsX11_sort rmX11_sort (PcS sz [.int p0]) (QiR sz tP rr) 0 0 (An sz) := by
  refine Met.ofW (cc := cX11_sort) (maxL := 1) (ret := (some .int)) (by decide) rfl ?_
  intro p e s m args below meth c s₁ B hml hv
  obtain ⟨hav, hsz⟩ := hv
  subst hsz
  have hx := B.exec
  have hb := B.bytes
  have hr := B.returns
  have hts := atoms_spec (ws := wsX11_sort) B.pre
  have hown : s.vm.findClass RX11 = some m.cls := findClass_of_methodNamed B.named
  have hlocks := B.notSynchronized
  generalize hQ : MQ below (QiR s.heap.size tP rr) args s 0 0 (An s.heap.size) = QQ
  have hS : va_S (An s.heap.size) s.heap s.heap [] := va_S.rf
  have hA : ∀ q, s.heap.size ≤ q → (An s.heap.size) q := fun q h => h
  have hE := lg_entry_eq m [.int p0] 1
  rw [← hav] at hE
  rw [hE]
  have hl := lv_entry [.int p0] (n := 1) (Nat.le_of_ble_eq_true rfl)
  generalize (lg_sl [.int p0] ++ List.replicate (1 - (lg_sl [.int p0]).length) Slot.unset).toArray = ls at hl ⊢
  have hl : lv_has ls 1 [(0, .int p0)] := hl
  clear hE
  unfold f_X11_sort at hf
  suffices hgo : ∀ (H : Heap) (locs : List Loc), va_S (An s.heap.size) s.heap H locs → W p l e (headSpec wsX11_sort rmX11_sort).room s m args below meth c H locs 0 0 QQ (F0 m 0 ls []) from hgo s.heap [] hS
  clear hS
  intro H locs hS
  refine lv_iload_n hx hb dX11_sort_0 rfl (lv_at hl 0 rfl) ?_
  refine lv_bipush (v := 97) hx hb dX11_sort_1 (by decide) ?_
  refine lv_icmp_lt (tgt := 16) hx hb dX11_sort_3 (by decide) (fun c1 => ?_) (fun c1 => ?_)
  · have hf := it_e c1 hf
    refine lv_iload_n hx hb dX11_sort_16 rfl (lv_at hl 0 rfl) ?_
    refine lv_bipush (v := 48) hx hb dX11_sort_17 (by decide) ?_
    refine lv_icmp_lt (tgt := 32) hx hb dX11_sort_19 (by decide) (fun c2 => ?_) (fun c2 => ?_)
    · have hf := it_e c2 hf
      refine lv_iconst (v := 0) hx hb dX11_sort_32 (by decide) ?_
      obtain rfl := Option.some.inj hf
      rw [← hQ]
      exact e_iR hx hb hr rfl (tP_i _) hS hlocks dX11_sort_33
    · have hf := ie_e c2 hf
      refine lv_iload_n hx hb dX11_sort_22 rfl (lv_at hl 0 rfl) ?_
      refine lv_bipush (v := 57) hx hb dX11_sort_23 (by decide) ?_
      refine lv_icmp_gt (tgt := 32) hx hb dX11_sort_25 (by decide) (fun c3 => ?_) (fun c3 => ?_)
      · have hf := it_e c3 hf
        refine lv_iconst (v := 0) hx hb dX11_sort_32 (by decide) ?_
        obtain rfl := Option.some.inj hf
        rw [← hQ]
        exact e_iR hx hb hr rfl (tP_i _) hS hlocks dX11_sort_33
      · have hf := ie_e c3 hf
        refine lv_iconst (v := 2) hx hb dX11_sort_28 (by decide) ?_
        refine lv_goto (tgt := 33) hx hb dX11_sort_29 (by decide) ?_
        obtain rfl := Option.some.inj hf
        rw [← hQ]
        exact e_iR hx hb hr rfl (tP_i _) hS hlocks dX11_sort_33
  · have hf := ie_e c1 hf
    refine lv_iload_n hx hb dX11_sort_6 rfl (lv_at hl 0 rfl) ?_
    refine lv_bipush (v := 122) hx hb dX11_sort_7 (by decide) ?_
    refine lv_icmp_gt (tgt := 16) hx hb dX11_sort_9 (by decide) (fun c4 => ?_) (fun c4 => ?_)
    · have hf := it_e c4 hf
      refine lv_iload_n hx hb dX11_sort_16 rfl (lv_at hl 0 rfl) ?_
      refine lv_bipush (v := 48) hx hb dX11_sort_17 (by decide) ?_
      refine lv_icmp_lt (tgt := 32) hx hb dX11_sort_19 (by decide) (fun c5 => ?_) (fun c5 => ?_)
      · have hf := it_e c5 hf
        refine lv_iconst (v := 0) hx hb dX11_sort_32 (by decide) ?_
        obtain rfl := Option.some.inj hf
        rw [← hQ]
        exact e_iR hx hb hr rfl (tP_i _) hS hlocks dX11_sort_33
      · have hf := ie_e c5 hf
        refine lv_iload_n hx hb dX11_sort_22 rfl (lv_at hl 0 rfl) ?_
        refine lv_bipush (v := 57) hx hb dX11_sort_23 (by decide) ?_
        refine lv_icmp_gt (tgt := 32) hx hb dX11_sort_25 (by decide) (fun c6 => ?_) (fun c6 => ?_)
        · have hf := it_e c6 hf
          refine lv_iconst (v := 0) hx hb dX11_sort_32 (by decide) ?_
          obtain rfl := Option.some.inj hf
          rw [← hQ]
          exact e_iR hx hb hr rfl (tP_i _) hS hlocks dX11_sort_33
        · have hf := ie_e c6 hf
          refine lv_iconst (v := 2) hx hb dX11_sort_28 (by decide) ?_
          refine lv_goto (tgt := 33) hx hb dX11_sort_29 (by decide) ?_
          obtain rfl := Option.some.inj hf
          rw [← hQ]
          exact e_iR hx hb hr rfl (tP_i _) hS hlocks dX11_sort_33
    · have hf := ie_e c4 hf
      refine lv_iconst (v := 1) hx hb dX11_sort_12 (by decide) ?_
      refine lv_goto (tgt := 33) hx hb dX11_sort_13 (by decide) ?_
      obtain rfl := Option.some.inj hf
      rw [← hQ]
      exact e_iR hx hb hr rfl (tP_i _) hS hlocks dX11_sort_33

def LX11_token_0 (m_text : Nat → Int32) (m_len : Int32) (ko : Int32 → Option (Int32 × Int32 × Int32)) : Nat → Int32 → Option (Int32 × Int32 × Int32)
  | 0, _ => none
  | n + 1, x1 =>
    if m_len ≤ x1 then
      ko x1
    else
      ri m_text 200 (x1) fun x4 =>
      if x4 = 32 then
        lt ((x1 + 1) : Int32) fun x7 =>
        LX11_token_0 m_text m_len ko n x7
      else
        ko x1
theorem LX11_token_0_z (m_text : Nat → Int32) (m_len : Int32) (ko : Int32 → Option (Int32 × Int32 × Int32)) (x1 : Int32) : LX11_token_0 m_text m_len ko 0 x1 = none := rfl
theorem LX11_token_0_s (m_text : Nat → Int32) (m_len : Int32) (ko : Int32 → Option (Int32 × Int32 × Int32)) (n : Nat) (x1 : Int32) : LX11_token_0 m_text m_len ko (n + 1) x1 =
    if m_len ≤ x1 then
      ko x1
    else
      ri m_text 200 (x1) fun x4 =>
      if x4 = 32 then
        lt ((x1 + 1) : Int32) fun x7 =>
        LX11_token_0 m_text m_len ko n x7
      else
        ko x1 := rfl
def LX11_token_71 (m_text : Nat → Int32) (m_len : Int32) (x2 : Int32) (ko : Int32 → Option (Int32 × Int32 × Int32)) : Nat → Int32 → Option (Int32 × Int32 × Int32)
  | 0, _ => none
  | n + 1, x10 =>
    if m_len ≤ x10 then
      ko x10
    else
      ri m_text 200 (x2) fun x13 =>
      (f_X11_sort x13).bind fun q15 =>
      if q15 ≤ 0 then
        ko x10
      else
        ri m_text 200 (x10) fun x17 =>
        (f_X11_sort x17).bind fun q19 =>
        ri m_text 200 (x2) fun x20 =>
        (f_X11_sort x20).bind fun q22 =>
        if q19 = q22 then
          lt ((x10 + 1) : Int32) fun x24 =>
          LX11_token_71 m_text m_len x2 ko n x24
        else
          ko x10
theorem LX11_token_71_z (m_text : Nat → Int32) (m_len : Int32) (x2 : Int32) (ko : Int32 → Option (Int32 × Int32 × Int32)) (x10 : Int32) : LX11_token_71 m_text m_len x2 ko 0 x10 = none := rfl
theorem LX11_token_71_s (m_text : Nat → Int32) (m_len : Int32) (x2 : Int32) (ko : Int32 → Option (Int32 × Int32 × Int32)) (n : Nat) (x10 : Int32) : LX11_token_71 m_text m_len x2 ko (n + 1) x10 =
    if m_len ≤ x10 then
      ko x10
    else
      ri m_text 200 (x2) fun x13 =>
      (f_X11_sort x13).bind fun q15 =>
      if q15 ≤ 0 then
        ko x10
      else
        ri m_text 200 (x10) fun x17 =>
        (f_X11_sort x17).bind fun q19 =>
        ri m_text 200 (x2) fun x20 =>
        (f_X11_sort x20).bind fun q22 =>
        if q19 = q22 then
          lt ((x10 + 1) : Int32) fun x24 =>
          LX11_token_71 m_text m_len x2 ko n x24
        else
          ko x10 := rfl
def f_X11_token (m_text : Nat → Int32) (m_len : Int32) (m_at : Int32) (m_pl : Int32) (m_end : Int32) : Option (Int32 × Int32 × Int32) :=
  LX11_token_0 m_text m_len (fun x2 =>
    (if m_len ≤ x2 then
      some (0)
    else
      some (1) : Option (Int32)).bind fun q8 =>
    lt ((x2 + q8) : Int32) fun x9 =>
    LX11_token_71 m_text m_len x2 (fun x11 =>
      some (x11, x2, x11)) FU x9) FU m_at
abbrev rmX11_token : Room := { frames := 1, cells := 0, slots := 0, locals := 20 }
set_option maxHeartbeats 4000000 in
set_option maxRecDepth 100000 in
theorem c_X11_token {l : Launch} {D : va_G} {g : Nat → ClassId} {ad : Nat → Nat} {C : Nat → va_E} {sz : Nat} {m_len : Int32} {m_rm : Int32} {m_there : Int32} {m_lift : Int32} {m_blank : Int32} {m_fm : Int32} {m_at : Int32} {m_pl : Int32} {m_end : Int32} {m_seed : Int32} {m_text : Nat → Int32}  {rr : Int32 × Int32 × Int32} (hI : Inj 109 ad) (h86 : C 86 = .inr (11, [.ref (ad 87), .int m_len, .ref (ad 88), .int m_rm, .int m_there, .ref (ad 89), .ref (ad 90), .ref (ad 91), .ref (ad 92), .ref (ad 93), .ref (ad 94), .ref (ad 95), .ref (ad 96), .ref (ad 97), .ref (ad 98), .ref (ad 99), .ref (ad 100), .ref (ad 101), .int m_lift, .int m_blank, .ref (ad 102), .int m_fm, .int m_at, .int m_pl, .int m_end, .ref (ad 103), .ref (ad 104), .ref (ad 105), .ref (ad 106), .ref (ad 107), .ref (ad 108), .int m_seed])) (h87 : C 87 = aI g 200 m_text) (hf : f_X11_token m_text m_len m_at m_pl m_end = some rr) : Met l yX11_token wsX11_token rmX11_token (PcW D g 109 ad C sz [.ref (ad 86)]) (QvW D 109 ad sz (fun C' => (∀ i : Nat, i ≠ 86 → C' i = C i) ∧ (C' 86 = .inr (11, [.ref (ad 87), .int m_len, .ref (ad 88), .int m_rm, .int m_there, .ref (ad 89), .ref (ad 90), .ref (ad 91), .ref (ad 92), .ref (ad 93), .ref (ad 94), .ref (ad 95), .ref (ad 96), .ref (ad 97), .ref (ad 98), .ref (ad 99), .ref (ad 100), .ref (ad 101), .int m_lift, .int m_blank, .ref (ad 102), .int m_fm, .int rr.1, .int rr.2.1, .int rr.2.2, .ref (ad 103), .ref (ad 104), .ref (ad 105), .ref (ad 106), .ref (ad 107), .ref (ad 108), .int m_seed])))) 0 0 (Aw 109 ad sz) := by
  refine Met.ofW (cc := cX11_token) (maxL := 1) (ret := none) (by decide) rfl ?_
  intro p e s m args below meth c s₁ B hml hv
  obtain ⟨hav, hsz, hK, hP⟩ := hv
  subst hsz
  have hx := B.exec
  have hb := B.bytes
  have hr := B.returns
  have hts := atoms_spec (ws := wsX11_token) B.pre
  have hown : s.vm.findClass RX11 = some m.cls := findClass_of_methodNamed B.named
  have hlocks := B.notSynchronized
  generalize hQ : MQ below (QvW D 109 ad s.heap.size (fun C' => (∀ i : Nat, i ≠ 86 → C' i = C i) ∧ (C' 86 = .inr (11, [.ref (ad 87), .int m_len, .ref (ad 88), .int m_rm, .int m_there, .ref (ad 89), .ref (ad 90), .ref (ad 91), .ref (ad 92), .ref (ad 93), .ref (ad 94), .ref (ad 95), .ref (ad 96), .ref (ad 97), .ref (ad 98), .ref (ad 99), .ref (ad 100), .ref (ad 101), .int m_lift, .int m_blank, .ref (ad 102), .int m_fm, .int rr.1, .int rr.2.1, .int rr.2.2, .ref (ad 103), .ref (ad 104), .ref (ad 105), .ref (ad 106), .ref (ad 107), .ref (ad 108), .int m_seed])))) args s 0 0 (Aw 109 ad s.heap.size) = QQ
  have hS : va_S (Aw 109 ad s.heap.size) s.heap s.heap [] := va_S.rf
  have hA : ∀ q, s.heap.size ≤ q → (Aw 109 ad s.heap.size) q := fun q h => Or.inr h
  have hAd : ∀ j : Nat, j < 109 → (Aw 109 ad s.heap.size) (ad j) := fun j h => Or.inl ⟨j, h, rfl⟩
  obtain ⟨C0, hC0⟩ : ∃ C0 : Nat → va_E, C0 = C := ⟨_, rfl⟩
  have hag : ∀ i : Nat, i ≠ 86 → C i = C0 i := fun i _ => by rw [hC0]
  rw [← hC0] at hQ
  have k0 := hts (.fieldLink RX11 98 "UpDrainModel" "at" "I") (List.mem_of_getElem? (i := 1) rfl)
  have nX11 : ∀ w ∈ u_ws RX11 TX11 32, w ∈ wsX11_token := fun _ h => List.mem_cons_of_mem _ (List.mem_append_right _ h)
  have k2 := hts (.fieldLink RX11 93 "UpDrainModel" "length" "I") (List.mem_of_getElem? (i := 2) rfl)
  have k3 := hts (.fieldLink RX11 7 "UpDrainModel" "text" "[I") (List.mem_of_getElem? (i := 3) rfl)
  have k4 := hts (.fieldLink RX11 101 "UpDrainModel" "place" "I") (List.mem_of_getElem? (i := 4) rfl)
  have k5 := hts (.fieldLink RX11 108 "UpDrainModel" "end" "I") (List.mem_of_getElem? (i := 5) rfl)
  have hE := lg_entry_eq m [.ref (ad 86)] 1
  rw [← hav] at hE
  rw [hE]
  have hl := lv_entry [.ref (ad 86)] (n := 1) (Nat.le_of_ble_eq_true rfl)
  generalize (lg_sl [.ref (ad 86)] ++ List.replicate (1 - (lg_sl [.ref (ad 86)]).length) Slot.unset).toArray = ls at hl ⊢
  have hl : lv_has ls 1 [(0, .ref (ad 86))] := hl
  clear hE
  unfold f_X11_token at hf
  suffices hgo : ∀ (H : Heap) (locs : List Loc), va_P D vwCl (wd 109 ad C) H → va_S (Aw 109 ad s.heap.size) s.heap H locs → W p l e (headSpec wsX11_token rmX11_token).room s m args below meth c H locs 0 0 QQ (F0 m 0 ls []) from hgo s.heap [] hP hS
  clear hS hP
  intro H locs hP hS
  have key0 : ∀ (ko : Int32 → Option (Int32 × Int32 × Int32)), (∀ (x2 : Int32) (C : Nat → va_E) (H : Heap) (locs : List Loc) (ls : Array Slot), va_P D vwCl (wd 109 ad C) H → va_S (Aw 109 ad s.heap.size) s.heap H locs → (∀ i : Nat, i ≠ 86 → C i = C0 i) → C 86 = .inr (11, [.ref (ad 87), .int m_len, .ref (ad 88), .int m_rm, .int m_there, .ref (ad 89), .ref (ad 90), .ref (ad 91), .ref (ad 92), .ref (ad 93), .ref (ad 94), .ref (ad 95), .ref (ad 96), .ref (ad 97), .ref (ad 98), .ref (ad 99), .ref (ad 100), .ref (ad 101), .int m_lift, .int m_blank, .ref (ad 102), .int m_fm, .int x2, .int m_pl, .int m_end, .ref (ad 103), .ref (ad 104), .ref (ad 105), .ref (ad 106), .ref (ad 107), .ref (ad 108), .int m_seed]) → C 87 = aI g 200 m_text → lv_has ls 1 [(0, .ref (ad 86))] → ko x2 = some rr → W p l e (headSpec wsX11_token rmX11_token).room s m args below meth c H locs 0 0 QQ (F0 m 38 ls [])) → ∀ (n : Nat) (x1 : Int32) (C : Nat → va_E) (H : Heap) (locs : List Loc) (ls : Array Slot), va_P D vwCl (wd 109 ad C) H → va_S (Aw 109 ad s.heap.size) s.heap H locs → (∀ i : Nat, i ≠ 86 → C i = C0 i) → C 86 = .inr (11, [.ref (ad 87), .int m_len, .ref (ad 88), .int m_rm, .int m_there, .ref (ad 89), .ref (ad 90), .ref (ad 91), .ref (ad 92), .ref (ad 93), .ref (ad 94), .ref (ad 95), .ref (ad 96), .ref (ad 97), .ref (ad 98), .ref (ad 99), .ref (ad 100), .ref (ad 101), .int m_lift, .int m_blank, .ref (ad 102), .int m_fm, .int x1, .int m_pl, .int m_end, .ref (ad 103), .ref (ad 104), .ref (ad 105), .ref (ad 106), .ref (ad 107), .ref (ad 108), .int m_seed]) → C 87 = aI g 200 m_text → lv_has ls 1 [(0, .ref (ad 86))] → LX11_token_0 m_text m_len ko n x1 = some rr → W p l e (headSpec wsX11_token rmX11_token).room s m args below meth c H locs 0 0 QQ (F0 m 0 ls []) := by
    intro ko hko n
    induction n with
    | zero =>
      intro x1 C H locs ls hP hS hag h86 h87 hl hf
      rw [LX11_token_0_z] at hf
      cases hf
    | succ n ih =>
      intro x1 C H locs ls hP hS hag h86 h87 hl hf
      rw [LX11_token_0_s] at hf
      refine lv_aload_n hx hb dX11_token_0 rfl (lv_at hl 0 rfl) ?_
      refine r_get (own := RX11) (T := TX11) (n := 32) (ci := 11) (v := .int x1) hx hb hts nX11 hown hK hP (by decide) h86 rfl 22 (by decide) k0 rfl dX11_token_1 ?_
      refine lv_aload_n hx hb dX11_token_4 rfl (lv_at hl 0 rfl) ?_
      refine r_get (own := RX11) (T := TX11) (n := 32) (ci := 11) (v := .int m_len) hx hb hts nX11 hown hK hP (by decide) h86 rfl 1 (by decide) k2 rfl dX11_token_5 ?_
      refine lv_icmp_ge (tgt := 38) hx hb dX11_token_8 (by decide) (fun c3 => ?_) (fun c3 => ?_)
      · have hf := it_e c3 hf
        exact hko x1 C H locs ls hP hS hag h86 h87 (lv_sub hl [0] rfl) hf
      · have hf := ie_e c3 hf
        refine lv_aload_n hx hb dX11_token_11 rfl (lv_at hl 0 rfl) ?_
        refine r_get (own := RX11) (T := TX11) (n := 32) (ci := 11) (v := .ref (ad 87)) hx hb hts nX11 hown hK hP (by decide) h86 rfl 0 (by decide) k3 rfl dX11_token_12 ?_
        refine lv_aload_n hx hb dX11_token_15 rfl (lv_at hl 0 rfl) ?_
        refine r_get (own := RX11) (T := TX11) (n := 32) (ci := 11) (v := .int x1) hx hb hts nX11 hown hK hP (by decide) h86 rfl 22 (by decide) k0 rfl dX11_token_16 ?_
        obtain ⟨i5, x4, ex4, hf⟩ := ri_e hf
        refine r_iald hx hb hK hP (by decide) h87 i5 dX11_token_19 ex4 ?_
        refine lv_bipush (v := 32) hx hb dX11_token_20 (by decide) ?_
        refine lv_icmp_ne (tgt := 38) hx hb dX11_token_22 (by decide) (fun c6 => ?_) (fun c6 => ?_)
        · have hf := ie_e c6 hf
          exact hko x1 C H locs ls hP hS hag h86 h87 (lv_sub hl [0] rfl) hf
        · have hf := it_e c6 hf
          refine lv_aload_n hx hb dX11_token_25 rfl (lv_at hl 0 rfl) ?_
          refine lv_dup hx hb dX11_token_26 rfl ?_
          refine r_get (own := RX11) (T := TX11) (n := 32) (ci := 11) (v := .int x1) hx hb hts nX11 hown hK hP (by decide) h86 rfl 22 (by decide) k0 rfl dX11_token_27 ?_
          refine lv_iconst (v := 1) hx hb dX11_token_30 (by decide) ?_
          refine lv_iadd hx hb dX11_token_31 ?_
          obtain ⟨x7, ex7, hf⟩ := lt_e hf
          refine tp_i ex7 ?_
          refine r_put (own := RX11) (T := TX11) (n := 32) (ci := 11) (v := .int x7) hx hb hts nX11 tyX11 tyX11_ok nmX11 hown hK hI hAd hP hS (by decide) h86 rfl 22 (by decide) k0 rfl rfl rfl (Nat.le_of_ble_eq_true rfl) dX11_token_32 (fun C H locs hP hS he hn => ?_)
          have hag : ∀ i : Nat, i ≠ 86 → C i = C0 i := fun i h => (he i (by omega)).trans (hag i h)
          have h87 := (he 87 (by decide)).trans h87
          have h86 : C 86 = .inr (11, [.ref (ad 87), .int m_len, .ref (ad 88), .int m_rm, .int m_there, .ref (ad 89), .ref (ad 90), .ref (ad 91), .ref (ad 92), .ref (ad 93), .ref (ad 94), .ref (ad 95), .ref (ad 96), .ref (ad 97), .ref (ad 98), .ref (ad 99), .ref (ad 100), .ref (ad 101), .int m_lift, .int m_blank, .ref (ad 102), .int m_fm, .int x7, .int m_pl, .int m_end, .ref (ad 103), .ref (ad 104), .ref (ad 105), .ref (ad 106), .ref (ad 107), .ref (ad 108), .int m_seed]) := hn
          refine lv_goto (tgt := 0) hx hb dX11_token_35 (by decide) ?_
          exact ih x7 C H locs ls hP hS hag h86 h87 (lv_sub hl [0] rfl) hf
  refine key0 _ (fun x2 C H locs ls hP hS hag h86 h87 hl hf => ?_) FU m_at C H locs ls hP hS hag h86 h87 (lv_sub hl [0] rfl) hf
  refine lv_aload_n hx hb dX11_token_38 rfl (lv_at hl 0 rfl) ?_
  refine lv_aload_n hx hb dX11_token_39 rfl (lv_at hl 0 rfl) ?_
  refine r_get (own := RX11) (T := TX11) (n := 32) (ci := 11) (v := .int x2) hx hb hts nX11 hown hK hP (by decide) h86 rfl 22 (by decide) k0 rfl dX11_token_40 ?_
  refine r_put (own := RX11) (T := TX11) (n := 32) (ci := 11) (v := .int x2) hx hb hts nX11 tyX11 tyX11_ok nmX11 hown hK hI hAd hP hS (by decide) h86 rfl 23 (by decide) k4 rfl rfl rfl (Nat.le_of_ble_eq_true rfl) dX11_token_43 (fun C H locs hP hS he hn => ?_)
  have hag : ∀ i : Nat, i ≠ 86 → C i = C0 i := fun i h => (he i (by omega)).trans (hag i h)
  have h87 := (he 87 (by decide)).trans h87
  have h86 : C 86 = .inr (11, [.ref (ad 87), .int m_len, .ref (ad 88), .int m_rm, .int m_there, .ref (ad 89), .ref (ad 90), .ref (ad 91), .ref (ad 92), .ref (ad 93), .ref (ad 94), .ref (ad 95), .ref (ad 96), .ref (ad 97), .ref (ad 98), .ref (ad 99), .ref (ad 100), .ref (ad 101), .int m_lift, .int m_blank, .ref (ad 102), .int m_fm, .int x2, .int x2, .int m_end, .ref (ad 103), .ref (ad 104), .ref (ad 105), .ref (ad 106), .ref (ad 107), .ref (ad 108), .int m_seed]) := hn
  refine lv_aload_n hx hb dX11_token_46 rfl (lv_at hl 0 rfl) ?_
  refine lv_dup hx hb dX11_token_47 rfl ?_
  refine r_get (own := RX11) (T := TX11) (n := 32) (ci := 11) (v := .int x2) hx hb hts nX11 hown hK hP (by decide) h86 rfl 22 (by decide) k0 rfl dX11_token_48 ?_
  refine lv_aload_n hx hb dX11_token_51 rfl (lv_at hl 0 rfl) ?_
  refine r_get (own := RX11) (T := TX11) (n := 32) (ci := 11) (v := .int x2) hx hb hts nX11 hown hK hP (by decide) h86 rfl 22 (by decide) k0 rfl dX11_token_52 ?_
  refine lv_aload_n hx hb dX11_token_55 rfl (lv_at hl 0 rfl) ?_
  refine r_get (own := RX11) (T := TX11) (n := 32) (ci := 11) (v := .int m_len) hx hb hts nX11 hown hK hP (by decide) h86 rfl 1 (by decide) k2 rfl dX11_token_56 ?_
  obtain ⟨q8, htq8, hf⟩ := bd_e hf
  have jnq8 : ∀ (C : Nat → va_E) (H : Heap) (locs : List Loc) (ls : Array Slot), va_P D vwCl (wd 109 ad C) H → va_S (Aw 109 ad s.heap.size) s.heap H locs → (∀ i : Nat, i ≠ 86 → C i = C0 i) → C 86 = .inr (11, [.ref (ad 87), .int m_len, .ref (ad 88), .int m_rm, .int m_there, .ref (ad 89), .ref (ad 90), .ref (ad 91), .ref (ad 92), .ref (ad 93), .ref (ad 94), .ref (ad 95), .ref (ad 96), .ref (ad 97), .ref (ad 98), .ref (ad 99), .ref (ad 100), .ref (ad 101), .int m_lift, .int m_blank, .ref (ad 102), .int m_fm, .int x2, .int x2, .int m_end, .ref (ad 103), .ref (ad 104), .ref (ad 105), .ref (ad 106), .ref (ad 107), .ref (ad 108), .int m_seed]) → C 87 = aI g 200 m_text → lv_has ls 1 [(0, .ref (ad 86))] → W p l e (headSpec wsX11_token rmX11_token).room s m args below meth c H locs 0 0 QQ (F0 m 67 ls [.int q8, .int x2, .ref (ad 86)]) := by
    intro C H locs ls hP hS hag h86 h87 hl
    refine lv_iadd hx hb dX11_token_67 ?_
    obtain ⟨x9, ex9, hf⟩ := lt_e hf
    refine tp_i ex9 ?_
    refine r_put (own := RX11) (T := TX11) (n := 32) (ci := 11) (v := .int x9) hx hb hts nX11 tyX11 tyX11_ok nmX11 hown hK hI hAd hP hS (by decide) h86 rfl 22 (by decide) k0 rfl rfl rfl (Nat.le_of_ble_eq_true rfl) dX11_token_68 (fun C H locs hP hS he hn => ?_)
    have hag : ∀ i : Nat, i ≠ 86 → C i = C0 i := fun i h => (he i (by omega)).trans (hag i h)
    have h87 := (he 87 (by decide)).trans h87
    have h86 : C 86 = .inr (11, [.ref (ad 87), .int m_len, .ref (ad 88), .int m_rm, .int m_there, .ref (ad 89), .ref (ad 90), .ref (ad 91), .ref (ad 92), .ref (ad 93), .ref (ad 94), .ref (ad 95), .ref (ad 96), .ref (ad 97), .ref (ad 98), .ref (ad 99), .ref (ad 100), .ref (ad 101), .int m_lift, .int m_blank, .ref (ad 102), .int m_fm, .int x9, .int x2, .int m_end, .ref (ad 103), .ref (ad 104), .ref (ad 105), .ref (ad 106), .ref (ad 107), .ref (ad 108), .int m_seed]) := hn
    have key71 : ∀ (ko : Int32 → Option (Int32 × Int32 × Int32)), (∀ (x11 : Int32) (C : Nat → va_E) (H : Heap) (locs : List Loc) (ls : Array Slot), va_P D vwCl (wd 109 ad C) H → va_S (Aw 109 ad s.heap.size) s.heap H locs → (∀ i : Nat, i ≠ 86 → C i = C0 i) → C 86 = .inr (11, [.ref (ad 87), .int m_len, .ref (ad 88), .int m_rm, .int m_there, .ref (ad 89), .ref (ad 90), .ref (ad 91), .ref (ad 92), .ref (ad 93), .ref (ad 94), .ref (ad 95), .ref (ad 96), .ref (ad 97), .ref (ad 98), .ref (ad 99), .ref (ad 100), .ref (ad 101), .int m_lift, .int m_blank, .ref (ad 102), .int m_fm, .int x11, .int x2, .int m_end, .ref (ad 103), .ref (ad 104), .ref (ad 105), .ref (ad 106), .ref (ad 107), .ref (ad 108), .int m_seed]) → C 87 = aI g 200 m_text → lv_has ls 1 [(0, .ref (ad 86))] → ko x11 = some rr → W p l e (headSpec wsX11_token rmX11_token).room s m args below meth c H locs 0 0 QQ (F0 m 137 ls [])) → ∀ (n : Nat) (x10 : Int32) (C : Nat → va_E) (H : Heap) (locs : List Loc) (ls : Array Slot), va_P D vwCl (wd 109 ad C) H → va_S (Aw 109 ad s.heap.size) s.heap H locs → (∀ i : Nat, i ≠ 86 → C i = C0 i) → C 86 = .inr (11, [.ref (ad 87), .int m_len, .ref (ad 88), .int m_rm, .int m_there, .ref (ad 89), .ref (ad 90), .ref (ad 91), .ref (ad 92), .ref (ad 93), .ref (ad 94), .ref (ad 95), .ref (ad 96), .ref (ad 97), .ref (ad 98), .ref (ad 99), .ref (ad 100), .ref (ad 101), .int m_lift, .int m_blank, .ref (ad 102), .int m_fm, .int x10, .int x2, .int m_end, .ref (ad 103), .ref (ad 104), .ref (ad 105), .ref (ad 106), .ref (ad 107), .ref (ad 108), .int m_seed]) → C 87 = aI g 200 m_text → lv_has ls 1 [(0, .ref (ad 86))] → LX11_token_71 m_text m_len x2 ko n x10 = some rr → W p l e (headSpec wsX11_token rmX11_token).room s m args below meth c H locs 0 0 QQ (F0 m 71 ls []) := by
      intro ko hko n
      induction n with
      | zero =>
        intro x10 C H locs ls hP hS hag h86 h87 hl hf
        rw [LX11_token_71_z] at hf
        cases hf
      | succ n ih =>
        intro x10 C H locs ls hP hS hag h86 h87 hl hf
        rw [LX11_token_71_s] at hf
        refine lv_aload_n hx hb dX11_token_71 rfl (lv_at hl 0 rfl) ?_
        refine r_get (own := RX11) (T := TX11) (n := 32) (ci := 11) (v := .int x10) hx hb hts nX11 hown hK hP (by decide) h86 rfl 22 (by decide) k0 rfl dX11_token_72 ?_
        refine lv_aload_n hx hb dX11_token_75 rfl (lv_at hl 0 rfl) ?_
        refine r_get (own := RX11) (T := TX11) (n := 32) (ci := 11) (v := .int m_len) hx hb hts nX11 hown hK hP (by decide) h86 rfl 1 (by decide) k2 rfl dX11_token_76 ?_
        refine lv_icmp_ge (tgt := 137) hx hb dX11_token_79 (by decide) (fun c12 => ?_) (fun c12 => ?_)
        · have hf := it_e c12 hf
          exact hko x10 C H locs ls hP hS hag h86 h87 (lv_sub hl [0] rfl) hf
        · have hf := ie_e c12 hf
          refine lv_aload_n hx hb dX11_token_82 rfl (lv_at hl 0 rfl) ?_
          refine r_get (own := RX11) (T := TX11) (n := 32) (ci := 11) (v := .ref (ad 87)) hx hb hts nX11 hown hK hP (by decide) h86 rfl 0 (by decide) k3 rfl dX11_token_83 ?_
          refine lv_aload_n hx hb dX11_token_86 rfl (lv_at hl 0 rfl) ?_
          refine r_get (own := RX11) (T := TX11) (n := 32) (ci := 11) (v := .int x2) hx hb hts nX11 hown hK hP (by decide) h86 rfl 23 (by decide) k4 rfl dX11_token_87 ?_
          obtain ⟨i14, x13, ex13, hf⟩ := ri_e hf
          refine r_iald hx hb hK hP (by decide) h87 i14 dX11_token_90 ex13 ?_
          obtain ⟨q15, hq15, hf⟩ := bd_e hf
          refine k_iR (va_runS (As := [.int x13]) (rest := []) ⟨hx, hb, hml, hown, hts⟩ (c_X11_sort (l := l) (sz := H.size) (p0 := x13) hq15) (va_cwS 1 hts gX11_token_X11_sort rfl rfl rfl (by decide +kernel) ⟨Nat.le_of_ble_eq_true rfl, Nat.le_of_ble_eq_true rfl⟩) preS0 rfl rfl hl.1 rfl (lv_room (Nat.le_of_ble_eq_true rfl)) dX11_token_91 ⟨Nat.le_refl _, Nat.le_refl _⟩) hA hP hS (fun H locs hP hS hbz_q15 => ?_)
          refine lv_if_le (tgt := 137) hx hb dX11_token_94 (by decide) (fun c16 => ?_) (fun c16 => ?_)
          · have hf := it_e c16 hf
            exact hko x10 C H locs ls hP hS hag h86 h87 (lv_sub hl [0] rfl) hf
          · have hf := ie_e c16 hf
            refine lv_aload_n hx hb dX11_token_97 rfl (lv_at hl 0 rfl) ?_
            refine r_get (own := RX11) (T := TX11) (n := 32) (ci := 11) (v := .ref (ad 87)) hx hb hts nX11 hown hK hP (by decide) h86 rfl 0 (by decide) k3 rfl dX11_token_98 ?_
            refine lv_aload_n hx hb dX11_token_101 rfl (lv_at hl 0 rfl) ?_
            refine r_get (own := RX11) (T := TX11) (n := 32) (ci := 11) (v := .int x10) hx hb hts nX11 hown hK hP (by decide) h86 rfl 22 (by decide) k0 rfl dX11_token_102 ?_
            obtain ⟨i18, x17, ex17, hf⟩ := ri_e hf
            refine r_iald hx hb hK hP (by decide) h87 i18 dX11_token_105 ex17 ?_
            obtain ⟨q19, hq19, hf⟩ := bd_e hf
            refine k_iR (va_runS (As := [.int x17]) (rest := []) ⟨hx, hb, hml, hown, hts⟩ (c_X11_sort (l := l) (sz := H.size) (p0 := x17) hq19) (va_cwS 1 hts gX11_token_X11_sort rfl rfl rfl (by decide +kernel) ⟨Nat.le_of_ble_eq_true rfl, Nat.le_of_ble_eq_true rfl⟩) preS0 rfl rfl hl.1 rfl (lv_room (Nat.le_of_ble_eq_true rfl)) dX11_token_106 ⟨Nat.le_refl _, Nat.le_refl _⟩) hA hP hS (fun H locs hP hS hbz_q19 => ?_)
            refine lv_aload_n hx hb dX11_token_109 rfl (lv_at hl 0 rfl) ?_
            refine r_get (own := RX11) (T := TX11) (n := 32) (ci := 11) (v := .ref (ad 87)) hx hb hts nX11 hown hK hP (by decide) h86 rfl 0 (by decide) k3 rfl dX11_token_110 ?_
            refine lv_aload_n hx hb dX11_token_113 rfl (lv_at hl 0 rfl) ?_
            refine r_get (own := RX11) (T := TX11) (n := 32) (ci := 11) (v := .int x2) hx hb hts nX11 hown hK hP (by decide) h86 rfl 23 (by decide) k4 rfl dX11_token_114 ?_
            obtain ⟨i21, x20, ex20, hf⟩ := ri_e hf
            refine r_iald hx hb hK hP (by decide) h87 i21 dX11_token_117 ex20 ?_
            obtain ⟨q22, hq22, hf⟩ := bd_e hf
            refine k_iR (va_runS (As := [.int x20]) (rest := [.int q19]) ⟨hx, hb, hml, hown, hts⟩ (c_X11_sort (l := l) (sz := H.size) (p0 := x20) hq22) (va_cwS 1 hts gX11_token_X11_sort rfl rfl rfl (by decide +kernel) ⟨Nat.le_of_ble_eq_true rfl, Nat.le_of_ble_eq_true rfl⟩) preS0 rfl rfl hl.1 rfl (lv_room (Nat.le_of_ble_eq_true rfl)) dX11_token_118 ⟨Nat.le_refl _, Nat.le_refl _⟩) hA hP hS (fun H locs hP hS hbz_q22 => ?_)
            refine lv_icmp_ne (tgt := 137) hx hb dX11_token_121 (by decide) (fun c23 => ?_) (fun c23 => ?_)
            · have hf := ie_e c23 hf
              exact hko x10 C H locs ls hP hS hag h86 h87 (lv_sub hl [0] rfl) hf
            · have hf := it_e c23 hf
              refine lv_aload_n hx hb dX11_token_124 rfl (lv_at hl 0 rfl) ?_
              refine lv_dup hx hb dX11_token_125 rfl ?_
              refine r_get (own := RX11) (T := TX11) (n := 32) (ci := 11) (v := .int x10) hx hb hts nX11 hown hK hP (by decide) h86 rfl 22 (by decide) k0 rfl dX11_token_126 ?_
              refine lv_iconst (v := 1) hx hb dX11_token_129 (by decide) ?_
              refine lv_iadd hx hb dX11_token_130 ?_
              obtain ⟨x24, ex24, hf⟩ := lt_e hf
              refine tp_i ex24 ?_
              refine r_put (own := RX11) (T := TX11) (n := 32) (ci := 11) (v := .int x24) hx hb hts nX11 tyX11 tyX11_ok nmX11 hown hK hI hAd hP hS (by decide) h86 rfl 22 (by decide) k0 rfl rfl rfl (Nat.le_of_ble_eq_true rfl) dX11_token_131 (fun C H locs hP hS he hn => ?_)
              have hag : ∀ i : Nat, i ≠ 86 → C i = C0 i := fun i h => (he i (by omega)).trans (hag i h)
              have h87 := (he 87 (by decide)).trans h87
              have h86 : C 86 = .inr (11, [.ref (ad 87), .int m_len, .ref (ad 88), .int m_rm, .int m_there, .ref (ad 89), .ref (ad 90), .ref (ad 91), .ref (ad 92), .ref (ad 93), .ref (ad 94), .ref (ad 95), .ref (ad 96), .ref (ad 97), .ref (ad 98), .ref (ad 99), .ref (ad 100), .ref (ad 101), .int m_lift, .int m_blank, .ref (ad 102), .int m_fm, .int x24, .int x2, .int m_end, .ref (ad 103), .ref (ad 104), .ref (ad 105), .ref (ad 106), .ref (ad 107), .ref (ad 108), .int m_seed]) := hn
              refine lv_goto (tgt := 71) hx hb dX11_token_134 (by decide) ?_
              exact ih x24 C H locs ls hP hS hag h86 h87 (lv_sub hl [0] rfl) hf
    refine key71 _ (fun x11 C H locs ls hP hS hag h86 h87 hl hf => ?_) FU x9 C H locs ls hP hS hag h86 h87 (lv_sub hl [0] rfl) hf
    refine lv_aload_n hx hb dX11_token_137 rfl (lv_at hl 0 rfl) ?_
    refine lv_aload_n hx hb dX11_token_138 rfl (lv_at hl 0 rfl) ?_
    refine r_get (own := RX11) (T := TX11) (n := 32) (ci := 11) (v := .int x11) hx hb hts nX11 hown hK hP (by decide) h86 rfl 22 (by decide) k0 rfl dX11_token_139 ?_
    refine r_put (own := RX11) (T := TX11) (n := 32) (ci := 11) (v := .int x11) hx hb hts nX11 tyX11 tyX11_ok nmX11 hown hK hI hAd hP hS (by decide) h86 rfl 24 (by decide) k5 rfl rfl rfl (Nat.le_of_ble_eq_true rfl) dX11_token_142 (fun C H locs hP hS he hn => ?_)
    have hag : ∀ i : Nat, i ≠ 86 → C i = C0 i := fun i h => (he i (by omega)).trans (hag i h)
    have h87 := (he 87 (by decide)).trans h87
    have h86 : C 86 = .inr (11, [.ref (ad 87), .int m_len, .ref (ad 88), .int m_rm, .int m_there, .ref (ad 89), .ref (ad 90), .ref (ad 91), .ref (ad 92), .ref (ad 93), .ref (ad 94), .ref (ad 95), .ref (ad 96), .ref (ad 97), .ref (ad 98), .ref (ad 99), .ref (ad 100), .ref (ad 101), .int m_lift, .int m_blank, .ref (ad 102), .int m_fm, .int x11, .int x2, .int x11, .ref (ad 103), .ref (ad 104), .ref (ad 105), .ref (ad 106), .ref (ad 107), .ref (ad 108), .int m_seed]) := hn
    obtain rfl := Option.some.inj hf
    rw [← hQ]
    exact e_vW hx hb hr hP hS ⟨hag, h86⟩ hlocks dX11_token_145
  clear hf
  have hf := htq8
  refine lv_icmp_ge (tgt := 66) hx hb dX11_token_59 (by decide) (fun c25 => ?_) (fun c25 => ?_)
  · have hf := it_e c25 hf
    refine lv_iconst (v := 0) hx hb dX11_token_66 (by decide) ?_
    obtain rfl := Option.some.inj hf
    exact jnq8 C H locs ls hP hS hag h86 h87 (lv_sub hl [0] rfl)
  · have hf := ie_e c25 hf
    refine lv_iconst (v := 1) hx hb dX11_token_62 (by decide) ?_
    refine lv_goto (tgt := 67) hx hb dX11_token_63 (by decide) ?_
    obtain rfl := Option.some.inj hf
    exact jnq8 C H locs ls hP hS hag h86 h87 (lv_sub hl [0] rfl)

def f_X11_erase (m_len : Int32) : Option (Int32 × Int32) :=
  some (m_len, 0)
abbrev rmX11_erase : Room := { frames := 0, cells := 0, slots := 0, locals := 0 }
set_option maxHeartbeats 4000000 in
set_option maxRecDepth 100000 in
theorem c_X11_erase {l : Launch} {D : va_G} {g : Nat → ClassId} {ad : Nat → Nat} {C : Nat → va_E} {sz : Nat} {m_len : Int32} {m_rm : Int32} {m_there : Int32} {m_lift : Int32} {m_blank : Int32} {m_fm : Int32} {m_at : Int32} {m_pl : Int32} {m_end : Int32} {m_seed : Int32}  {rr : Int32 × Int32} (hI : Inj 109 ad) (h86 : C 86 = .inr (11, [.ref (ad 87), .int m_len, .ref (ad 88), .int m_rm, .int m_there, .ref (ad 89), .ref (ad 90), .ref (ad 91), .ref (ad 92), .ref (ad 93), .ref (ad 94), .ref (ad 95), .ref (ad 96), .ref (ad 97), .ref (ad 98), .ref (ad 99), .ref (ad 100), .ref (ad 101), .int m_lift, .int m_blank, .ref (ad 102), .int m_fm, .int m_at, .int m_pl, .int m_end, .ref (ad 103), .ref (ad 104), .ref (ad 105), .ref (ad 106), .ref (ad 107), .ref (ad 108), .int m_seed])) (hf : f_X11_erase m_len = some rr) : Met l yX11_erase wsX11_erase rmX11_erase (PcW D g 109 ad C sz [.ref (ad 86)]) (QiW D 109 ad sz tP rr.1 (fun C' => (∀ i : Nat, i ≠ 86 → C' i = C i) ∧ (C' 86 = .inr (11, [.ref (ad 87), .int rr.2, .ref (ad 88), .int m_rm, .int m_there, .ref (ad 89), .ref (ad 90), .ref (ad 91), .ref (ad 92), .ref (ad 93), .ref (ad 94), .ref (ad 95), .ref (ad 96), .ref (ad 97), .ref (ad 98), .ref (ad 99), .ref (ad 100), .ref (ad 101), .int m_lift, .int m_blank, .ref (ad 102), .int m_fm, .int m_at, .int m_pl, .int m_end, .ref (ad 103), .ref (ad 104), .ref (ad 105), .ref (ad 106), .ref (ad 107), .ref (ad 108), .int m_seed])))) 0 0 (Aw 109 ad sz) := by
  refine Met.ofW (cc := cX11_erase) (maxL := 2) (ret := (some .int)) (by decide) rfl ?_
  intro p e s m args below meth c s₁ B hml hv
  obtain ⟨hav, hsz, hK, hP⟩ := hv
  subst hsz
  have hx := B.exec
  have hb := B.bytes
  have hr := B.returns
  have hts := atoms_spec (ws := wsX11_erase) B.pre
  have hown : s.vm.findClass RX11 = some m.cls := findClass_of_methodNamed B.named
  have hlocks := B.notSynchronized
  generalize hQ : MQ below (QiW D 109 ad s.heap.size tP rr.1 (fun C' => (∀ i : Nat, i ≠ 86 → C' i = C i) ∧ (C' 86 = .inr (11, [.ref (ad 87), .int rr.2, .ref (ad 88), .int m_rm, .int m_there, .ref (ad 89), .ref (ad 90), .ref (ad 91), .ref (ad 92), .ref (ad 93), .ref (ad 94), .ref (ad 95), .ref (ad 96), .ref (ad 97), .ref (ad 98), .ref (ad 99), .ref (ad 100), .ref (ad 101), .int m_lift, .int m_blank, .ref (ad 102), .int m_fm, .int m_at, .int m_pl, .int m_end, .ref (ad 103), .ref (ad 104), .ref (ad 105), .ref (ad 106), .ref (ad 107), .ref (ad 108), .int m_seed])))) args s 0 0 (Aw 109 ad s.heap.size) = QQ
  have hS : va_S (Aw 109 ad s.heap.size) s.heap s.heap [] := va_S.rf
  have hA : ∀ q, s.heap.size ≤ q → (Aw 109 ad s.heap.size) q := fun q h => Or.inr h
  have hAd : ∀ j : Nat, j < 109 → (Aw 109 ad s.heap.size) (ad j) := fun j h => Or.inl ⟨j, h, rfl⟩
  obtain ⟨C0, hC0⟩ : ∃ C0 : Nat → va_E, C0 = C := ⟨_, rfl⟩
  have hag : ∀ i : Nat, i ≠ 86 → C i = C0 i := fun i _ => by rw [hC0]
  rw [← hC0] at hQ
  have k0 := hts (.fieldLink RX11 93 "UpDrainModel" "length" "I") (List.mem_of_getElem? (i := 1) rfl)
  have nX11 : ∀ w ∈ u_ws RX11 TX11 32, w ∈ wsX11_erase := fun _ h => List.mem_cons_of_mem _ (List.mem_append_right _ h)
  have hE := lg_entry_eq m [.ref (ad 86)] 2
  rw [← hav] at hE
  rw [hE]
  have hl := lv_entry [.ref (ad 86)] (n := 2) (Nat.le_of_ble_eq_true rfl)
  generalize (lg_sl [.ref (ad 86)] ++ List.replicate (2 - (lg_sl [.ref (ad 86)]).length) Slot.unset).toArray = ls at hl ⊢
  have hl : lv_has ls 2 [(0, .ref (ad 86))] := hl
  clear hE
  unfold f_X11_erase at hf
  suffices hgo : ∀ (H : Heap) (locs : List Loc), va_P D vwCl (wd 109 ad C) H → va_S (Aw 109 ad s.heap.size) s.heap H locs → W p l e (headSpec wsX11_erase rmX11_erase).room s m args below meth c H locs 0 0 QQ (F0 m 0 ls []) from hgo s.heap [] hP hS
  clear hS hP
  intro H locs hP hS
  refine lv_aload_n hx hb dX11_erase_0 rfl (lv_at hl 0 rfl) ?_
  refine r_get (own := RX11) (T := TX11) (n := 32) (ci := 11) (v := .int m_len) hx hb hts nX11 hown hK hP (by decide) h86 rfl 1 (by decide) k0 rfl dX11_erase_1 ?_
  refine lv_istore_n (lv' := [(1, .int m_len), (0, .ref (ad 86))]) hx hb dX11_erase_4 rfl hl (by decide) rfl (fun ls hl => ?_)
  refine lv_aload_n hx hb dX11_erase_5 rfl (lv_at hl 1 rfl) ?_
  refine lv_iconst (v := 0) hx hb dX11_erase_6 (by decide) ?_
  refine r_put (own := RX11) (T := TX11) (n := 32) (ci := 11) (v := .int 0) hx hb hts nX11 tyX11 tyX11_ok nmX11 hown hK hI hAd hP hS (by decide) h86 rfl 1 (by decide) k0 rfl rfl rfl (Nat.le_of_ble_eq_true rfl) dX11_erase_7 (fun C H locs hP hS he hn => ?_)
  have hag : ∀ i : Nat, i ≠ 86 → C i = C0 i := fun i h => (he i (by omega)).trans (hag i h)
  have h86 : C 86 = .inr (11, [.ref (ad 87), .int 0, .ref (ad 88), .int m_rm, .int m_there, .ref (ad 89), .ref (ad 90), .ref (ad 91), .ref (ad 92), .ref (ad 93), .ref (ad 94), .ref (ad 95), .ref (ad 96), .ref (ad 97), .ref (ad 98), .ref (ad 99), .ref (ad 100), .ref (ad 101), .int m_lift, .int m_blank, .ref (ad 102), .int m_fm, .int m_at, .int m_pl, .int m_end, .ref (ad 103), .ref (ad 104), .ref (ad 105), .ref (ad 106), .ref (ad 107), .ref (ad 108), .int m_seed]) := hn
  refine lv_iload_n hx hb dX11_erase_10 rfl (lv_at hl 0 rfl) ?_
  obtain rfl := Option.some.inj hf
  rw [← hQ]
  exact e_iW hx hb hr rfl (tP_i _) hP hS ⟨hag, h86⟩ hlocks dX11_erase_11

def LX11_wayOf_6 (m_down : Nat → Int32) (ko : Int32 → Int32 → Option (Int32)) : Nat → Int32 → Int32 → Option (Int32)
  | 0, _, _ => none
  | n + 1, x2, x3 =>
    if x3 ≤ 0 then
      ko x2 x3
    else
      ri m_down 12 (x3) fun x7 =>
      lt ((x2 ||| (1 <<< (x7 &&& 31))) : Int32) fun x9 =>
      LX11_wayOf_6 m_down ko n x9 x7
theorem LX11_wayOf_6_z (m_down : Nat → Int32) (ko : Int32 → Int32 → Option (Int32)) (x2 : Int32) (x3 : Int32) : LX11_wayOf_6 m_down ko 0 x2 x3 = none := rfl
theorem LX11_wayOf_6_s (m_down : Nat → Int32) (ko : Int32 → Int32 → Option (Int32)) (n : Nat) (x2 : Int32) (x3 : Int32) : LX11_wayOf_6 m_down ko (n + 1) x2 x3 =
    if x3 ≤ 0 then
      ko x2 x3
    else
      ri m_down 12 (x3) fun x7 =>
      lt ((x2 ||| (1 <<< (x7 &&& 31))) : Int32) fun x9 =>
      LX11_wayOf_6 m_down ko n x9 x7 := rfl
def f_X11_wayOf (p0 : Int32) (m_down : Nat → Int32) : Option (Int32) :=
  lt ((1 <<< (p0 &&& 31)) : Int32) fun x1 =>
  LX11_wayOf_6 m_down (fun x4 x5 =>
    some (x4)) FU x1 p0
abbrev rmX11_wayOf : Room := { frames := 0, cells := 0, slots := 0, locals := 0 }
set_option maxHeartbeats 4000000 in
set_option maxRecDepth 100000 in
theorem c_X11_wayOf {l : Launch} {D : va_G} {g : Nat → ClassId} {ad : Nat → Nat} {C : Nat → va_E} {sz : Nat} {m_len : Int32} {m_rm : Int32} {m_there : Int32} {m_lift : Int32} {m_blank : Int32} {m_fm : Int32} {m_at : Int32} {m_pl : Int32} {m_end : Int32} {m_seed : Int32} {m_down : Nat → Int32} {p0 : Int32} {rr : Int32} (h86 : C 86 = .inr (11, [.ref (ad 87), .int m_len, .ref (ad 88), .int m_rm, .int m_there, .ref (ad 89), .ref (ad 90), .ref (ad 91), .ref (ad 92), .ref (ad 93), .ref (ad 94), .ref (ad 95), .ref (ad 96), .ref (ad 97), .ref (ad 98), .ref (ad 99), .ref (ad 100), .ref (ad 101), .int m_lift, .int m_blank, .ref (ad 102), .int m_fm, .int m_at, .int m_pl, .int m_end, .ref (ad 103), .ref (ad 104), .ref (ad 105), .ref (ad 106), .ref (ad 107), .ref (ad 108), .int m_seed])) (h89 : C 89 = aI g 12 m_down) (hf : f_X11_wayOf p0 m_down = some rr) : Met l yX11_wayOf wsX11_wayOf rmX11_wayOf (PcW D g 109 ad C sz [.ref (ad 86), .int p0]) (QiR sz tP rr) 0 0 (An sz) := by
  refine Met.ofW (cc := cX11_wayOf) (maxL := 4) (ret := (some .int)) (by decide) rfl ?_
  intro p e s m args below meth c s₁ B hml hv
  obtain ⟨hav, hsz, hK, hP⟩ := hv
  subst hsz
  have hx := B.exec
  have hb := B.bytes
  have hr := B.returns
  have hts := atoms_spec (ws := wsX11_wayOf) B.pre
  have hown : s.vm.findClass RX11 = some m.cls := findClass_of_methodNamed B.named
  have hlocks := B.notSynchronized
  generalize hQ : MQ below (QiR s.heap.size tP rr) args s 0 0 (An s.heap.size) = QQ
  have hS : va_S (An s.heap.size) s.heap s.heap [] := va_S.rf
  have hA : ∀ q, s.heap.size ≤ q → (An s.heap.size) q := fun q h => h
  have k0 := hts (.fieldLink RX11 20 "UpDrainModel" "down" "[I") (List.mem_of_getElem? (i := 1) rfl)
  have nX11 : ∀ w ∈ u_ws RX11 TX11 32, w ∈ wsX11_wayOf := fun _ h => List.mem_cons_of_mem _ (List.mem_append_right _ h)
  have hE := lg_entry_eq m [.ref (ad 86), .int p0] 4
  rw [← hav] at hE
  rw [hE]
  have hl := lv_entry [.ref (ad 86), .int p0] (n := 4) (Nat.le_of_ble_eq_true rfl)
  generalize (lg_sl [.ref (ad 86), .int p0] ++ List.replicate (4 - (lg_sl [.ref (ad 86), .int p0]).length) Slot.unset).toArray = ls at hl ⊢
  have hl : lv_has ls 4 [(0, .ref (ad 86)), (1, .int p0)] := hl
  clear hE
  unfold f_X11_wayOf at hf
  suffices hgo : ∀ (H : Heap) (locs : List Loc), va_P D vwCl (wd 109 ad C) H → va_S (An s.heap.size) s.heap H locs → W p l e (headSpec wsX11_wayOf rmX11_wayOf).room s m args below meth c H locs 0 0 QQ (F0 m 0 ls []) from hgo s.heap [] hP hS
  clear hS hP
  intro H locs hP hS
  refine lv_iconst (v := 1) hx hb dX11_wayOf_0 (by decide) ?_
  refine lv_iload_n hx hb dX11_wayOf_1 rfl (lv_at hl 1 rfl) ?_
  refine lv_ishl hx hb dX11_wayOf_2 ?_
  obtain ⟨x1, ex1, hf⟩ := lt_e hf
  refine tp_i ex1 ?_
  refine lv_istore_n (lv' := [(2, .int x1), (0, .ref (ad 86)), (1, .int p0)]) hx hb dX11_wayOf_3 rfl hl (by decide) rfl (fun ls hl => ?_)
  refine lv_iload_n hx hb dX11_wayOf_4 rfl (lv_at hl 2 rfl) ?_
  refine lv_istore_n (lv' := [(3, .int p0), (2, .int x1), (0, .ref (ad 86)), (1, .int p0)]) hx hb dX11_wayOf_5 rfl hl (by decide) rfl (fun ls hl => ?_)
  have key6 : ∀ (ko : Int32 → Int32 → Option (Int32)), (∀ (x4 : Int32) (x5 : Int32) (C : Nat → va_E) (H : Heap) (locs : List Loc) (ls : Array Slot), va_P D vwCl (wd 109 ad C) H → va_S (An s.heap.size) s.heap H locs → C 86 = .inr (11, [.ref (ad 87), .int m_len, .ref (ad 88), .int m_rm, .int m_there, .ref (ad 89), .ref (ad 90), .ref (ad 91), .ref (ad 92), .ref (ad 93), .ref (ad 94), .ref (ad 95), .ref (ad 96), .ref (ad 97), .ref (ad 98), .ref (ad 99), .ref (ad 100), .ref (ad 101), .int m_lift, .int m_blank, .ref (ad 102), .int m_fm, .int m_at, .int m_pl, .int m_end, .ref (ad 103), .ref (ad 104), .ref (ad 105), .ref (ad 106), .ref (ad 107), .ref (ad 108), .int m_seed]) → C 89 = aI g 12 m_down → lv_has ls 4 [(0, .ref (ad 86)), (1, .int p0), (2, .int x4), (3, .int x5)] → ko x4 x5 = some rr → W p l e (headSpec wsX11_wayOf rmX11_wayOf).room s m args below meth c H locs 0 0 QQ (F0 m 26 ls [])) → ∀ (n : Nat) (x2 : Int32) (x3 : Int32) (C : Nat → va_E) (H : Heap) (locs : List Loc) (ls : Array Slot), va_P D vwCl (wd 109 ad C) H → va_S (An s.heap.size) s.heap H locs → C 86 = .inr (11, [.ref (ad 87), .int m_len, .ref (ad 88), .int m_rm, .int m_there, .ref (ad 89), .ref (ad 90), .ref (ad 91), .ref (ad 92), .ref (ad 93), .ref (ad 94), .ref (ad 95), .ref (ad 96), .ref (ad 97), .ref (ad 98), .ref (ad 99), .ref (ad 100), .ref (ad 101), .int m_lift, .int m_blank, .ref (ad 102), .int m_fm, .int m_at, .int m_pl, .int m_end, .ref (ad 103), .ref (ad 104), .ref (ad 105), .ref (ad 106), .ref (ad 107), .ref (ad 108), .int m_seed]) → C 89 = aI g 12 m_down → lv_has ls 4 [(0, .ref (ad 86)), (1, .int p0), (2, .int x2), (3, .int x3)] → LX11_wayOf_6 m_down ko n x2 x3 = some rr → W p l e (headSpec wsX11_wayOf rmX11_wayOf).room s m args below meth c H locs 0 0 QQ (F0 m 6 ls []) := by
    intro ko hko n
    induction n with
    | zero =>
      intro x2 x3 C H locs ls hP hS h86 h89 hl hf
      rw [LX11_wayOf_6_z] at hf
      cases hf
    | succ n ih =>
      intro x2 x3 C H locs ls hP hS h86 h89 hl hf
      rw [LX11_wayOf_6_s] at hf
      refine lv_iload_n hx hb dX11_wayOf_6 rfl (lv_at hl 3 rfl) ?_
      refine lv_if_le (tgt := 26) hx hb dX11_wayOf_7 (by decide) (fun c6 => ?_) (fun c6 => ?_)
      · have hf := it_e c6 hf
        exact hko x2 x3 C H locs ls hP hS h86 h89 (lv_sub hl [0, 1, 2, 3] rfl) hf
      · have hf := ie_e c6 hf
        refine lv_aload_n hx hb dX11_wayOf_10 rfl (lv_at hl 0 rfl) ?_
        refine r_get (own := RX11) (T := TX11) (n := 32) (ci := 11) (v := .ref (ad 89)) hx hb hts nX11 hown hK hP (by decide) h86 rfl 5 (by decide) k0 rfl dX11_wayOf_11 ?_
        refine lv_iload_n hx hb dX11_wayOf_14 rfl (lv_at hl 3 rfl) ?_
        obtain ⟨i8, x7, ex7, hf⟩ := ri_e hf
        refine r_iald hx hb hK hP (by decide) h89 i8 dX11_wayOf_15 ex7 ?_
        refine lv_istore_n (lv' := [(3, .int x7), (0, .ref (ad 86)), (1, .int p0), (2, .int x2)]) hx hb dX11_wayOf_16 rfl hl (by decide) rfl (fun ls hl => ?_)
        refine lv_iload_n hx hb dX11_wayOf_17 rfl (lv_at hl 3 rfl) ?_
        refine lv_iconst (v := 1) hx hb dX11_wayOf_18 (by decide) ?_
        refine lv_iload_n hx hb dX11_wayOf_19 rfl (lv_at hl 0 rfl) ?_
        refine lv_ishl hx hb dX11_wayOf_20 ?_
        refine lv_ior hx hb dX11_wayOf_21 ?_
        obtain ⟨x9, ex9, hf⟩ := lt_e hf
        refine tp_i ex9 ?_
        refine lv_istore_n (lv' := [(2, .int x9), (3, .int x7), (0, .ref (ad 86)), (1, .int p0)]) hx hb dX11_wayOf_22 rfl hl (by decide) rfl (fun ls hl => ?_)
        refine lv_goto (tgt := 6) hx hb dX11_wayOf_23 (by decide) ?_
        exact ih x9 x7 C H locs ls hP hS h86 h89 (lv_sub hl [2, 3, 0, 1] rfl) hf
  refine key6 _ (fun x4 x5 C H locs ls hP hS h86 h89 hl hf => ?_) FU x1 p0 C H locs ls hP hS h86 h89 (lv_sub hl [2, 3, 1, 0] rfl) hf
  refine lv_iload_n hx hb dX11_wayOf_26 rfl (lv_at hl 2 rfl) ?_
  obtain rfl := Option.some.inj hf
  rw [← hQ]
  exact e_iR hx hb hr rfl (tP_i _) hS hlocks dX11_wayOf_27

def LX11_aboveOf_4 (p0 : Int32) (m_down : Nat → Int32) (m_there : Int32) (ko : Int32 → Int32 → Option (Int32)) : Nat → Int32 → Int32 → Option (Int32)
  | 0, _, _ => none
  | n + 1, x1, x2 =>
    if 12 ≤ x2 then
      ko x1 x2
    else
      (f_X11_has m_there x2).bind fun q6 =>
      (if q6 = 0 then
        some (0)
      else
        (f_X11_wayOf x2 m_down).bind fun q11 =>
        (f_X11_has q11 p0).bind fun q12 =>
        if q12 = 0 then
          some (0)
        else
          some ((1 <<< (x2 &&& 31))) : Option (Int32)).bind fun q7 =>
      lt ((x1 ||| q7) : Int32) fun x8 =>
      lt (x2 + 1 : Int32) fun x9 =>
      LX11_aboveOf_4 p0 m_down m_there ko n x8 x9
theorem LX11_aboveOf_4_z (p0 : Int32) (m_down : Nat → Int32) (m_there : Int32) (ko : Int32 → Int32 → Option (Int32)) (x1 : Int32) (x2 : Int32) : LX11_aboveOf_4 p0 m_down m_there ko 0 x1 x2 = none := rfl
theorem LX11_aboveOf_4_s (p0 : Int32) (m_down : Nat → Int32) (m_there : Int32) (ko : Int32 → Int32 → Option (Int32)) (n : Nat) (x1 : Int32) (x2 : Int32) : LX11_aboveOf_4 p0 m_down m_there ko (n + 1) x1 x2 =
    if 12 ≤ x2 then
      ko x1 x2
    else
      (f_X11_has m_there x2).bind fun q6 =>
      (if q6 = 0 then
        some (0)
      else
        (f_X11_wayOf x2 m_down).bind fun q11 =>
        (f_X11_has q11 p0).bind fun q12 =>
        if q12 = 0 then
          some (0)
        else
          some ((1 <<< (x2 &&& 31))) : Option (Int32)).bind fun q7 =>
      lt ((x1 ||| q7) : Int32) fun x8 =>
      lt (x2 + 1 : Int32) fun x9 =>
      LX11_aboveOf_4 p0 m_down m_there ko n x8 x9 := rfl
def f_X11_aboveOf (p0 : Int32) (m_down : Nat → Int32) (m_there : Int32) : Option (Int32) :=
  LX11_aboveOf_4 p0 m_down m_there (fun x3 x4 =>
    some (x3)) FU 0 0
abbrev rmX11_aboveOf : Room := { frames := 1, cells := 0, slots := 0, locals := 23 }
set_option maxHeartbeats 4000000 in
set_option maxRecDepth 100000 in
theorem c_X11_aboveOf {l : Launch} {D : va_G} {g : Nat → ClassId} {ad : Nat → Nat} {C : Nat → va_E} {sz : Nat} {m_len : Int32} {m_rm : Int32} {m_there : Int32} {m_lift : Int32} {m_blank : Int32} {m_fm : Int32} {m_at : Int32} {m_pl : Int32} {m_end : Int32} {m_seed : Int32} {m_down : Nat → Int32} {p0 : Int32} {rr : Int32} (h86 : C 86 = .inr (11, [.ref (ad 87), .int m_len, .ref (ad 88), .int m_rm, .int m_there, .ref (ad 89), .ref (ad 90), .ref (ad 91), .ref (ad 92), .ref (ad 93), .ref (ad 94), .ref (ad 95), .ref (ad 96), .ref (ad 97), .ref (ad 98), .ref (ad 99), .ref (ad 100), .ref (ad 101), .int m_lift, .int m_blank, .ref (ad 102), .int m_fm, .int m_at, .int m_pl, .int m_end, .ref (ad 103), .ref (ad 104), .ref (ad 105), .ref (ad 106), .ref (ad 107), .ref (ad 108), .int m_seed])) (h89 : C 89 = aI g 12 m_down) (hf : f_X11_aboveOf p0 m_down m_there = some rr) : Met l yX11_aboveOf wsX11_aboveOf rmX11_aboveOf (PcW D g 109 ad C sz [.ref (ad 86), .int p0]) (QiR sz tP rr) 0 0 (An sz) := by
  refine Met.ofW (cc := cX11_aboveOf) (maxL := 4) (ret := (some .int)) (by decide) rfl ?_
  intro p e s m args below meth c s₁ B hml hv
  obtain ⟨hav, hsz, hK, hP⟩ := hv
  subst hsz
  have hx := B.exec
  have hb := B.bytes
  have hr := B.returns
  have hts := atoms_spec (ws := wsX11_aboveOf) B.pre
  have hown : s.vm.findClass RX11 = some m.cls := findClass_of_methodNamed B.named
  have hlocks := B.notSynchronized
  generalize hQ : MQ below (QiR s.heap.size tP rr) args s 0 0 (An s.heap.size) = QQ
  have hS : va_S (An s.heap.size) s.heap s.heap [] := va_S.rf
  have hA : ∀ q, s.heap.size ≤ q → (An s.heap.size) q := fun q h => h
  have k0 := hts (.fieldLink RX11 16 "UpDrainModel" "there" "I") (List.mem_of_getElem? (i := 1) rfl)
  have nX11 : ∀ w ∈ u_ws RX11 TX11 32, w ∈ wsX11_aboveOf := fun _ h => List.mem_cons_of_mem _ (List.mem_append_right _ h)
  have hE := lg_entry_eq m [.ref (ad 86), .int p0] 4
  rw [← hav] at hE
  rw [hE]
  have hl := lv_entry [.ref (ad 86), .int p0] (n := 4) (Nat.le_of_ble_eq_true rfl)
  generalize (lg_sl [.ref (ad 86), .int p0] ++ List.replicate (4 - (lg_sl [.ref (ad 86), .int p0]).length) Slot.unset).toArray = ls at hl ⊢
  have hl : lv_has ls 4 [(0, .ref (ad 86)), (1, .int p0)] := hl
  clear hE
  unfold f_X11_aboveOf at hf
  suffices hgo : ∀ (H : Heap) (locs : List Loc), va_P D vwCl (wd 109 ad C) H → va_S (An s.heap.size) s.heap H locs → W p l e (headSpec wsX11_aboveOf rmX11_aboveOf).room s m args below meth c H locs 0 0 QQ (F0 m 0 ls []) from hgo s.heap [] hP hS
  clear hS hP
  intro H locs hP hS
  refine lv_iconst (v := 0) hx hb dX11_aboveOf_0 (by decide) ?_
  refine lv_istore_n (lv' := [(2, .int 0), (0, .ref (ad 86)), (1, .int p0)]) hx hb dX11_aboveOf_1 rfl hl (by decide) rfl (fun ls hl => ?_)
  refine lv_iconst (v := 0) hx hb dX11_aboveOf_2 (by decide) ?_
  refine lv_istore_n (lv' := [(3, .int 0), (2, .int 0), (0, .ref (ad 86)), (1, .int p0)]) hx hb dX11_aboveOf_3 rfl hl (by decide) rfl (fun ls hl => ?_)
  have key4 : ∀ (ko : Int32 → Int32 → Option (Int32)), (∀ (x3 : Int32) (x4 : Int32) (C : Nat → va_E) (H : Heap) (locs : List Loc) (ls : Array Slot), va_P D vwCl (wd 109 ad C) H → va_S (An s.heap.size) s.heap H locs → C 86 = .inr (11, [.ref (ad 87), .int m_len, .ref (ad 88), .int m_rm, .int m_there, .ref (ad 89), .ref (ad 90), .ref (ad 91), .ref (ad 92), .ref (ad 93), .ref (ad 94), .ref (ad 95), .ref (ad 96), .ref (ad 97), .ref (ad 98), .ref (ad 99), .ref (ad 100), .ref (ad 101), .int m_lift, .int m_blank, .ref (ad 102), .int m_fm, .int m_at, .int m_pl, .int m_end, .ref (ad 103), .ref (ad 104), .ref (ad 105), .ref (ad 106), .ref (ad 107), .ref (ad 108), .int m_seed]) → C 89 = aI g 12 m_down → lv_has ls 4 [(0, .ref (ad 86)), (1, .int p0), (2, .int x3), (3, .int x4)] → ko x3 x4 = some rr → W p l e (headSpec wsX11_aboveOf rmX11_aboveOf).room s m args below meth c H locs 0 0 QQ (F0 m 49 ls [])) → ∀ (n : Nat) (x1 : Int32) (x2 : Int32) (C : Nat → va_E) (H : Heap) (locs : List Loc) (ls : Array Slot), va_P D vwCl (wd 109 ad C) H → va_S (An s.heap.size) s.heap H locs → C 86 = .inr (11, [.ref (ad 87), .int m_len, .ref (ad 88), .int m_rm, .int m_there, .ref (ad 89), .ref (ad 90), .ref (ad 91), .ref (ad 92), .ref (ad 93), .ref (ad 94), .ref (ad 95), .ref (ad 96), .ref (ad 97), .ref (ad 98), .ref (ad 99), .ref (ad 100), .ref (ad 101), .int m_lift, .int m_blank, .ref (ad 102), .int m_fm, .int m_at, .int m_pl, .int m_end, .ref (ad 103), .ref (ad 104), .ref (ad 105), .ref (ad 106), .ref (ad 107), .ref (ad 108), .int m_seed]) → C 89 = aI g 12 m_down → lv_has ls 4 [(0, .ref (ad 86)), (1, .int p0), (2, .int x1), (3, .int x2)] → LX11_aboveOf_4 p0 m_down m_there ko n x1 x2 = some rr → W p l e (headSpec wsX11_aboveOf rmX11_aboveOf).room s m args below meth c H locs 0 0 QQ (F0 m 4 ls []) := by
    intro ko hko n
    induction n with
    | zero =>
      intro x1 x2 C H locs ls hP hS h86 h89 hl hf
      rw [LX11_aboveOf_4_z] at hf
      cases hf
    | succ n ih =>
      intro x1 x2 C H locs ls hP hS h86 h89 hl hf
      rw [LX11_aboveOf_4_s] at hf
      refine lv_iload_n hx hb dX11_aboveOf_4 rfl (lv_at hl 3 rfl) ?_
      refine lv_bipush (v := 12) hx hb dX11_aboveOf_5 (by decide) ?_
      refine lv_icmp_ge (tgt := 49) hx hb dX11_aboveOf_7 (by decide) (fun c5 => ?_) (fun c5 => ?_)
      · have hf := it_e c5 hf
        exact hko x1 x2 C H locs ls hP hS h86 h89 (lv_sub hl [0, 1, 2, 3] rfl) hf
      · have hf := ie_e c5 hf
        refine lv_iload_n hx hb dX11_aboveOf_10 rfl (lv_at hl 2 rfl) ?_
        refine lv_aload_n hx hb dX11_aboveOf_11 rfl (lv_at hl 0 rfl) ?_
        refine r_get (own := RX11) (T := TX11) (n := 32) (ci := 11) (v := .int m_there) hx hb hts nX11 hown hK hP (by decide) h86 rfl 4 (by decide) k0 rfl dX11_aboveOf_12 ?_
        refine lv_iload_n hx hb dX11_aboveOf_15 rfl (lv_at hl 3 rfl) ?_
        obtain ⟨q6, hq6, hf⟩ := bd_e hf
        refine k_iR (va_runS (As := [.int m_there, .int x2]) (rest := [.int x1]) ⟨hx, hb, hml, hown, hts⟩ (c_X11_has (l := l) (sz := H.size) (p0 := m_there) (p1 := x2) hq6) (va_cwS 2 hts gX11_aboveOf_X11_has rfl rfl rfl (by decide +kernel) ⟨Nat.le_of_ble_eq_true rfl, Nat.le_of_ble_eq_true rfl⟩) preS0 rfl rfl hl.1 rfl (lv_room (Nat.le_of_ble_eq_true rfl)) dX11_aboveOf_16 ⟨Nat.le_refl _, Nat.le_refl _⟩) hA hP hS (fun H locs hP hS hbz_q6 => ?_)
        obtain ⟨q7, htq7, hf⟩ := bd_e hf
        have jnq7 : ∀ (C : Nat → va_E) (H : Heap) (locs : List Loc) (ls : Array Slot), va_P D vwCl (wd 109 ad C) H → va_S (An s.heap.size) s.heap H locs → C 86 = .inr (11, [.ref (ad 87), .int m_len, .ref (ad 88), .int m_rm, .int m_there, .ref (ad 89), .ref (ad 90), .ref (ad 91), .ref (ad 92), .ref (ad 93), .ref (ad 94), .ref (ad 95), .ref (ad 96), .ref (ad 97), .ref (ad 98), .ref (ad 99), .ref (ad 100), .ref (ad 101), .int m_lift, .int m_blank, .ref (ad 102), .int m_fm, .int m_at, .int m_pl, .int m_end, .ref (ad 103), .ref (ad 104), .ref (ad 105), .ref (ad 106), .ref (ad 107), .ref (ad 108), .int m_seed]) → C 89 = aI g 12 m_down → lv_has ls 4 [(0, .ref (ad 86)), (1, .int p0), (2, .int x1), (3, .int x2)] → W p l e (headSpec wsX11_aboveOf rmX11_aboveOf).room s m args below meth c H locs 0 0 QQ (F0 m 41 ls [.int q7, .int x1]) := by
          intro C H locs ls hP hS h86 h89 hl
          refine lv_ior hx hb dX11_aboveOf_41 ?_
          obtain ⟨x8, ex8, hf⟩ := lt_e hf
          refine tp_i ex8 ?_
          refine lv_istore_n (lv' := [(2, .int x8), (0, .ref (ad 86)), (1, .int p0), (3, .int x2)]) hx hb dX11_aboveOf_42 rfl hl (by decide) rfl (fun ls hl => ?_)
          obtain ⟨x9, ex9, hf⟩ := lt_e hf
          refine lv_iinc (v := x9) (lv' := [(3, .int x9), (2, .int x8), (0, .ref (ad 86)), (1, .int p0)]) hx hb dX11_aboveOf_43 hl (k := 3) rfl (by rw [ex9]; rfl) (by decide) rfl (fun ls hl => ?_)
          refine lv_goto (tgt := 4) hx hb dX11_aboveOf_46 (by decide) ?_
          exact ih x8 x9 C H locs ls hP hS h86 h89 (lv_sub hl [2, 3, 1, 0] rfl) hf
        clear hf
        have hf := htq7
        refine lv_if_eq (tgt := 40) hx hb dX11_aboveOf_19 (by decide) (fun c10 => ?_) (fun c10 => ?_)
        · have hf := it_e c10 hf
          refine lv_iconst (v := 0) hx hb dX11_aboveOf_40 (by decide) ?_
          obtain rfl := Option.some.inj hf
          exact jnq7 C H locs ls hP hS h86 h89 (lv_sub hl [0, 1, 2, 3] rfl)
        · have hf := ie_e c10 hf
          refine lv_aload_n hx hb dX11_aboveOf_22 rfl (lv_at hl 0 rfl) ?_
          refine lv_iload_n hx hb dX11_aboveOf_23 rfl (lv_at hl 3 rfl) ?_
          obtain ⟨q11, hq11, hf⟩ := bd_e hf
          refine k_iR (va_runV (C := RX11) (As := [.int x2]) (rest := [.int x1]) ⟨hx, hb, hml, hown, hts⟩ (c_X11_wayOf (l := l) (sz := H.size) (p0 := x2) h86 h89 hq11) (cwV 1 hts gX11_aboveOf_X11_wayOf rfl rfl rfl (by decide +kernel) ⟨Nat.le_of_ble_eq_true rfl, Nat.le_of_ble_eq_true rfl⟩) (preV_of hK hP (by decide) h86 rfl) rfl rfl hl.1 rfl (lv_room (Nat.le_of_ble_eq_true rfl)) dX11_aboveOf_24 ⟨Nat.le_refl _, Nat.le_refl _⟩) hA hP hS (fun H locs hP hS hbz_q11 => ?_)
          refine lv_iload_n hx hb dX11_aboveOf_27 rfl (lv_at hl 1 rfl) ?_
          obtain ⟨q12, hq12, hf⟩ := bd_e hf
          refine k_iR (va_runS (As := [.int q11, .int p0]) (rest := [.int x1]) ⟨hx, hb, hml, hown, hts⟩ (c_X11_has (l := l) (sz := H.size) (p0 := q11) (p1 := p0) hq12) (va_cwS 2 hts gX11_aboveOf_X11_has rfl rfl rfl (by decide +kernel) ⟨Nat.le_of_ble_eq_true rfl, Nat.le_of_ble_eq_true rfl⟩) preS0 rfl rfl hl.1 rfl (lv_room (Nat.le_of_ble_eq_true rfl)) dX11_aboveOf_28 ⟨Nat.le_refl _, Nat.le_refl _⟩) hA hP hS (fun H locs hP hS hbz_q12 => ?_)
          refine lv_if_eq (tgt := 40) hx hb dX11_aboveOf_31 (by decide) (fun c13 => ?_) (fun c13 => ?_)
          · have hf := it_e c13 hf
            refine lv_iconst (v := 0) hx hb dX11_aboveOf_40 (by decide) ?_
            obtain rfl := Option.some.inj hf
            exact jnq7 C H locs ls hP hS h86 h89 (lv_sub hl [0, 1, 2, 3] rfl)
          · have hf := ie_e c13 hf
            refine lv_iconst (v := 1) hx hb dX11_aboveOf_34 (by decide) ?_
            refine lv_iload_n hx hb dX11_aboveOf_35 rfl (lv_at hl 3 rfl) ?_
            refine lv_ishl hx hb dX11_aboveOf_36 ?_
            refine lv_goto (tgt := 41) hx hb dX11_aboveOf_37 (by decide) ?_
            obtain rfl := Option.some.inj hf
            exact jnq7 C H locs ls hP hS h86 h89 (lv_sub hl [0, 1, 2, 3] rfl)
  refine key4 _ (fun x3 x4 C H locs ls hP hS h86 h89 hl hf => ?_) FU 0 0 C H locs ls hP hS h86 h89 (lv_sub hl [2, 3, 1, 0] rfl) hf
  refine lv_iload_n hx hb dX11_aboveOf_49 rfl (lv_at hl 2 rfl) ?_
  obtain rfl := Option.some.inj hf
  rw [← hQ]
  exact e_iR hx hb hr rfl (tP_i _) hS hlocks dX11_aboveOf_50

def LX11_write_33 (p0 : Int64) (p1 : Int32) (ko : Int32 → Int32 → (Nat → Int32) → Option (Int32 × (Nat → Int32) × Int32)) : Nat → Int32 → Int32 → (Nat → Int32) → Option (Int32 × (Nat → Int32) × Int32)
  | 0, _, _, _ => none
  | n + 1, x4, x5, f6 =>
    if p1 ≤ x4 then
      ko x4 x5 f6
    else
      wi f6 200 (x5) ((Int64.toInt32 ((p0 >>> (Int32.toInt64 (8 * x4) &&& 63)) &&& (255 : Int64)))) fun f11 =>
      lt ((x5 + 1) : Int32) fun x13 =>
      lt (x4 + 1 : Int32) fun x14 =>
      LX11_write_33 p0 p1 ko n x14 x13 f11
theorem LX11_write_33_z (p0 : Int64) (p1 : Int32) (ko : Int32 → Int32 → (Nat → Int32) → Option (Int32 × (Nat → Int32) × Int32)) (x4 : Int32) (x5 : Int32) (f6 : Nat → Int32) : LX11_write_33 p0 p1 ko 0 x4 x5 f6 = none := rfl
theorem LX11_write_33_s (p0 : Int64) (p1 : Int32) (ko : Int32 → Int32 → (Nat → Int32) → Option (Int32 × (Nat → Int32) × Int32)) (n : Nat) (x4 : Int32) (x5 : Int32) (f6 : Nat → Int32) : LX11_write_33 p0 p1 ko (n + 1) x4 x5 f6 =
    if p1 ≤ x4 then
      ko x4 x5 f6
    else
      wi f6 200 (x5) ((Int64.toInt32 ((p0 >>> (Int32.toInt64 (8 * x4) &&& 63)) &&& (255 : Int64)))) fun f11 =>
      lt ((x5 + 1) : Int32) fun x13 =>
      lt (x4 + 1 : Int32) fun x14 =>
      LX11_write_33 p0 p1 ko n x14 x13 f11 := rfl
def f_X11_write (p0 : Int64) (p1 : Int32) (m_text : Nat → Int32) (m_len : Int32) : Option (Int32 × (Nat → Int32) × Int32) :=
  (f_X11_in (Int32.toInt64 p1) (1 : Int64) (8 : Int64)).bind fun q1 =>
  if q1 = 0 then
    some ((-3), m_text, m_len)
  else
    if (m_len + p1) ≤ 200 then
      LX11_write_33 p0 p1 (fun x7 x8 f9 =>
        some (x8, f9, x8)) FU 0 m_len m_text
    else
      some ((-5), m_text, m_len)
abbrev rmX11_write : Room := { frames := 1, cells := 0, slots := 0, locals := 25 }
set_option maxHeartbeats 4000000 in
set_option maxRecDepth 100000 in
theorem c_X11_write {l : Launch} {D : va_G} {g : Nat → ClassId} {ad : Nat → Nat} {C : Nat → va_E} {sz : Nat} {m_len : Int32} {m_rm : Int32} {m_there : Int32} {m_lift : Int32} {m_blank : Int32} {m_fm : Int32} {m_at : Int32} {m_pl : Int32} {m_end : Int32} {m_seed : Int32} {m_text : Nat → Int32} {p0 : Int64} {p1 : Int32} {rr : Int32 × (Nat → Int32) × Int32} (hI : Inj 109 ad) (h86 : C 86 = .inr (11, [.ref (ad 87), .int m_len, .ref (ad 88), .int m_rm, .int m_there, .ref (ad 89), .ref (ad 90), .ref (ad 91), .ref (ad 92), .ref (ad 93), .ref (ad 94), .ref (ad 95), .ref (ad 96), .ref (ad 97), .ref (ad 98), .ref (ad 99), .ref (ad 100), .ref (ad 101), .int m_lift, .int m_blank, .ref (ad 102), .int m_fm, .int m_at, .int m_pl, .int m_end, .ref (ad 103), .ref (ad 104), .ref (ad 105), .ref (ad 106), .ref (ad 107), .ref (ad 108), .int m_seed])) (h87 : C 87 = aI g 200 m_text) (hf : f_X11_write p0 p1 m_text m_len = some rr) : Met l yX11_write wsX11_write rmX11_write (PcW D g 109 ad C sz [.ref (ad 86), .long p0, .int p1]) (QiW D 109 ad sz tP rr.1 (fun C' => (∀ i : Nat, i ≠ 86 ∧ i ≠ 87 → C' i = C i) ∧ (C' 86 = .inr (11, [.ref (ad 87), .int rr.2.2, .ref (ad 88), .int m_rm, .int m_there, .ref (ad 89), .ref (ad 90), .ref (ad 91), .ref (ad 92), .ref (ad 93), .ref (ad 94), .ref (ad 95), .ref (ad 96), .ref (ad 97), .ref (ad 98), .ref (ad 99), .ref (ad 100), .ref (ad 101), .int m_lift, .int m_blank, .ref (ad 102), .int m_fm, .int m_at, .int m_pl, .int m_end, .ref (ad 103), .ref (ad 104), .ref (ad 105), .ref (ad 106), .ref (ad 107), .ref (ad 108), .int m_seed])) ∧ (C' 87 = aI g 200 rr.2.1))) 0 0 (Aw 109 ad sz) := by
  refine Met.ofW (cc := cX11_write) (maxL := 5) (ret := (some .int)) (by decide) rfl ?_
  intro p e s m args below meth c s₁ B hml hv
  obtain ⟨hav, hsz, hK, hP⟩ := hv
  subst hsz
  have hx := B.exec
  have hb := B.bytes
  have hr := B.returns
  have hts := atoms_spec (ws := wsX11_write) B.pre
  have hown : s.vm.findClass RX11 = some m.cls := findClass_of_methodNamed B.named
  have hlocks := B.notSynchronized
  generalize hQ : MQ below (QiW D 109 ad s.heap.size tP rr.1 (fun C' => (∀ i : Nat, i ≠ 86 ∧ i ≠ 87 → C' i = C i) ∧ (C' 86 = .inr (11, [.ref (ad 87), .int rr.2.2, .ref (ad 88), .int m_rm, .int m_there, .ref (ad 89), .ref (ad 90), .ref (ad 91), .ref (ad 92), .ref (ad 93), .ref (ad 94), .ref (ad 95), .ref (ad 96), .ref (ad 97), .ref (ad 98), .ref (ad 99), .ref (ad 100), .ref (ad 101), .int m_lift, .int m_blank, .ref (ad 102), .int m_fm, .int m_at, .int m_pl, .int m_end, .ref (ad 103), .ref (ad 104), .ref (ad 105), .ref (ad 106), .ref (ad 107), .ref (ad 108), .int m_seed])) ∧ (C' 87 = aI g 200 rr.2.1))) args s 0 0 (Aw 109 ad s.heap.size) = QQ
  have hS : va_S (Aw 109 ad s.heap.size) s.heap s.heap [] := va_S.rf
  have hA : ∀ q, s.heap.size ≤ q → (Aw 109 ad s.heap.size) q := fun q h => Or.inr h
  have hAd : ∀ j : Nat, j < 109 → (Aw 109 ad s.heap.size) (ad j) := fun j h => Or.inl ⟨j, h, rfl⟩
  obtain ⟨C0, hC0⟩ : ∃ C0 : Nat → va_E, C0 = C := ⟨_, rfl⟩
  have hag : ∀ i : Nat, i ≠ 86 ∧ i ≠ 87 → C i = C0 i := fun i _ => by rw [hC0]
  rw [← hC0] at hQ
  have k0 := hts (.constantLong RX11 91 (8)) (List.mem_of_getElem? (i := 1) rfl)
  have k1 := hts (.fieldLink RX11 93 "UpDrainModel" "length" "I") (List.mem_of_getElem? (i := 2) rfl)
  have nX11 : ∀ w ∈ u_ws RX11 TX11 32, w ∈ wsX11_write := fun _ h => List.mem_cons_of_mem _ (List.mem_append_right _ h)
  have k3 := hts (.fieldLink RX11 7 "UpDrainModel" "text" "[I") (List.mem_of_getElem? (i := 3) rfl)
  have k4 := hts (.constantLong RX11 96 (255)) (List.mem_of_getElem? (i := 4) rfl)
  have hE := lg_entry_eq m [.ref (ad 86), .long p0, .int p1] 5
  rw [← hav] at hE
  rw [hE]
  have hl := lv_entry [.ref (ad 86), .long p0, .int p1] (n := 5) (Nat.le_of_ble_eq_true rfl)
  generalize (lg_sl [.ref (ad 86), .long p0, .int p1] ++ List.replicate (5 - (lg_sl [.ref (ad 86), .long p0, .int p1]).length) Slot.unset).toArray = ls at hl ⊢
  have hl : lv_has ls 5 [(0, .ref (ad 86)), (1, .long p0), (3, .int p1)] := hl
  clear hE
  unfold f_X11_write at hf
  suffices hgo : ∀ (H : Heap) (locs : List Loc), va_P D vwCl (wd 109 ad C) H → va_S (Aw 109 ad s.heap.size) s.heap H locs → W p l e (headSpec wsX11_write rmX11_write).room s m args below meth c H locs 0 0 QQ (F0 m 0 ls []) from hgo s.heap [] hP hS
  clear hS hP
  intro H locs hP hS
  refine lv_iload_n hx hb dX11_write_0 rfl (lv_at hl 2 rfl) ?_
  refine lv_i2l hx hb dX11_write_1 rfl ?_
  refine lv_lconst (v := 1) hx hb dX11_write_2 (by decide) ?_
  refine lv_ldc2 (own := RX11) hx hb hown k0 dX11_write_3 ?_
  obtain ⟨q1, hq1, hf⟩ := bd_e hf
  refine k_iR (va_runS (As := [.long (Int32.toInt64 p1), .long (1 : Int64), .long (8 : Int64)]) (rest := []) ⟨hx, hb, hml, hown, hts⟩ (c_X11_in (l := l) (sz := H.size) (p0 := (Int32.toInt64 p1)) (p1 := (1 : Int64)) (p2 := (8 : Int64)) hq1) (va_cwS 3 hts gX11_write_X11_in rfl rfl rfl (by decide +kernel) ⟨Nat.le_of_ble_eq_true rfl, Nat.le_of_ble_eq_true rfl⟩) preS0 rfl rfl hl.1 rfl (lv_room (Nat.le_of_ble_eq_true rfl)) dX11_write_6 ⟨Nat.le_refl _, Nat.le_refl _⟩) hA hP hS (fun H locs hP hS hbz_q1 => ?_)
  refine lv_if_ne (tgt := 15) hx hb dX11_write_9 (by decide) (fun c2 => ?_) (fun c2 => ?_)
  · have hf := ie_e c2 hf
    refine lv_aload_n hx hb dX11_write_15 rfl (lv_at hl 0 rfl) ?_
    refine r_get (own := RX11) (T := TX11) (n := 32) (ci := 11) (v := .int m_len) hx hb hts nX11 hown hK hP (by decide) h86 rfl 1 (by decide) k1 rfl dX11_write_16 ?_
    refine lv_iload_n hx hb dX11_write_19 rfl (lv_at hl 2 rfl) ?_
    refine lv_iadd hx hb dX11_write_20 ?_
    refine lv_sipush (v := 200) hx hb dX11_write_21 (by decide) ?_
    refine lv_icmp_le (tgt := 30) hx hb dX11_write_24 (by decide) (fun c3 => ?_) (fun c3 => ?_)
    · have hf := it_e c3 hf
      refine lv_iconst (v := 0) hx hb dX11_write_30 (by decide) ?_
      refine lv_istore (lv' := [(4, .int 0), (0, .ref (ad 86)), (1, .long p0), (3, .int p1)]) hx hb dX11_write_31 hl (by decide) rfl (fun ls hl => ?_)
      have key33 : ∀ (ko : Int32 → Int32 → (Nat → Int32) → Option (Int32 × (Nat → Int32) × Int32)), (∀ (x7 : Int32) (x8 : Int32) (f9 : Nat → Int32) (C : Nat → va_E) (H : Heap) (locs : List Loc) (ls : Array Slot), va_P D vwCl (wd 109 ad C) H → va_S (Aw 109 ad s.heap.size) s.heap H locs → (∀ i : Nat, i ≠ 86 ∧ i ≠ 87 → C i = C0 i) → C 86 = .inr (11, [.ref (ad 87), .int x8, .ref (ad 88), .int m_rm, .int m_there, .ref (ad 89), .ref (ad 90), .ref (ad 91), .ref (ad 92), .ref (ad 93), .ref (ad 94), .ref (ad 95), .ref (ad 96), .ref (ad 97), .ref (ad 98), .ref (ad 99), .ref (ad 100), .ref (ad 101), .int m_lift, .int m_blank, .ref (ad 102), .int m_fm, .int m_at, .int m_pl, .int m_end, .ref (ad 103), .ref (ad 104), .ref (ad 105), .ref (ad 106), .ref (ad 107), .ref (ad 108), .int m_seed]) → C 87 = aI g 200 f9 → lv_has ls 5 [(0, .ref (ad 86)), (1, .long p0), (3, .int p1), (4, .int x7)] → ko x7 x8 f9 = some rr → W p l e (headSpec wsX11_write rmX11_write).room s m args below meth c H locs 0 0 QQ (F0 m 76 ls [])) → ∀ (n : Nat) (x4 : Int32) (x5 : Int32) (f6 : Nat → Int32) (C : Nat → va_E) (H : Heap) (locs : List Loc) (ls : Array Slot), va_P D vwCl (wd 109 ad C) H → va_S (Aw 109 ad s.heap.size) s.heap H locs → (∀ i : Nat, i ≠ 86 ∧ i ≠ 87 → C i = C0 i) → C 86 = .inr (11, [.ref (ad 87), .int x5, .ref (ad 88), .int m_rm, .int m_there, .ref (ad 89), .ref (ad 90), .ref (ad 91), .ref (ad 92), .ref (ad 93), .ref (ad 94), .ref (ad 95), .ref (ad 96), .ref (ad 97), .ref (ad 98), .ref (ad 99), .ref (ad 100), .ref (ad 101), .int m_lift, .int m_blank, .ref (ad 102), .int m_fm, .int m_at, .int m_pl, .int m_end, .ref (ad 103), .ref (ad 104), .ref (ad 105), .ref (ad 106), .ref (ad 107), .ref (ad 108), .int m_seed]) → C 87 = aI g 200 f6 → lv_has ls 5 [(0, .ref (ad 86)), (1, .long p0), (3, .int p1), (4, .int x4)] → LX11_write_33 p0 p1 ko n x4 x5 f6 = some rr → W p l e (headSpec wsX11_write rmX11_write).room s m args below meth c H locs 0 0 QQ (F0 m 33 ls []) := by
        intro ko hko n
        induction n with
        | zero =>
          intro x4 x5 f6 C H locs ls hP hS hag h86 h87 hl hf
          rw [LX11_write_33_z] at hf
          cases hf
        | succ n ih =>
          intro x4 x5 f6 C H locs ls hP hS hag h86 h87 hl hf
          rw [LX11_write_33_s] at hf
          refine lv_iload hx hb dX11_write_33 (lv_at hl 3 rfl) ?_
          refine lv_iload_n hx hb dX11_write_35 rfl (lv_at hl 2 rfl) ?_
          refine lv_icmp_ge (tgt := 76) hx hb dX11_write_36 (by decide) (fun c10 => ?_) (fun c10 => ?_)
          · have hf := it_e c10 hf
            exact hko x4 x5 f6 C H locs ls hP hS hag h86 h87 (lv_sub hl [0, 1, 2, 3] rfl) hf
          · have hf := ie_e c10 hf
            refine lv_aload_n hx hb dX11_write_39 rfl (lv_at hl 0 rfl) ?_
            refine r_get (own := RX11) (T := TX11) (n := 32) (ci := 11) (v := .ref (ad 87)) hx hb hts nX11 hown hK hP (by decide) h86 rfl 0 (by decide) k3 rfl dX11_write_40 ?_
            refine lv_aload_n hx hb dX11_write_43 rfl (lv_at hl 0 rfl) ?_
            refine r_get (own := RX11) (T := TX11) (n := 32) (ci := 11) (v := .int x5) hx hb hts nX11 hown hK hP (by decide) h86 rfl 1 (by decide) k1 rfl dX11_write_44 ?_
            refine lv_lload_n hx hb dX11_write_47 rfl (lv_at hl 1 rfl) ?_
            refine lv_bipush (v := 8) hx hb dX11_write_48 (by decide) ?_
            refine lv_iload hx hb dX11_write_50 (lv_at hl 3 rfl) ?_
            refine lv_imul hx hb dX11_write_52 ?_
            refine lv_lshr hx hb dX11_write_53 rfl ?_
            refine lv_ldc2 (own := RX11) hx hb hown k4 dX11_write_54 ?_
            refine lv_land hx hb dX11_write_57 ?_
            refine lv_l2i hx hb dX11_write_58 rfl ?_
            obtain ⟨i12, f11, ef11, hf⟩ := wi_e hf
            refine r_iast hx hb hK hI hAd hP hS (by decide) h87 i12 dX11_write_59 ef11 (fun C H locs hP hS he hn => ?_)
            have hag : ∀ i : Nat, i ≠ 86 ∧ i ≠ 87 → C i = C0 i := fun i h => (he i (by omega)).trans (hag i h)
            have h86 := (he 86 (by decide)).trans h86
            have h87 : C 87 = aI g 200 f11 := hn
            refine lv_aload_n hx hb dX11_write_60 rfl (lv_at hl 0 rfl) ?_
            refine lv_dup hx hb dX11_write_61 rfl ?_
            refine r_get (own := RX11) (T := TX11) (n := 32) (ci := 11) (v := .int x5) hx hb hts nX11 hown hK hP (by decide) h86 rfl 1 (by decide) k1 rfl dX11_write_62 ?_
            refine lv_iconst (v := 1) hx hb dX11_write_65 (by decide) ?_
            refine lv_iadd hx hb dX11_write_66 ?_
            obtain ⟨x13, ex13, hf⟩ := lt_e hf
            refine tp_i ex13 ?_
            refine r_put (own := RX11) (T := TX11) (n := 32) (ci := 11) (v := .int x13) hx hb hts nX11 tyX11 tyX11_ok nmX11 hown hK hI hAd hP hS (by decide) h86 rfl 1 (by decide) k1 rfl rfl rfl (Nat.le_of_ble_eq_true rfl) dX11_write_67 (fun C H locs hP hS he hn => ?_)
            have hag : ∀ i : Nat, i ≠ 86 ∧ i ≠ 87 → C i = C0 i := fun i h => (he i (by omega)).trans (hag i h)
            have h87 := (he 87 (by decide)).trans h87
            have h86 : C 86 = .inr (11, [.ref (ad 87), .int x13, .ref (ad 88), .int m_rm, .int m_there, .ref (ad 89), .ref (ad 90), .ref (ad 91), .ref (ad 92), .ref (ad 93), .ref (ad 94), .ref (ad 95), .ref (ad 96), .ref (ad 97), .ref (ad 98), .ref (ad 99), .ref (ad 100), .ref (ad 101), .int m_lift, .int m_blank, .ref (ad 102), .int m_fm, .int m_at, .int m_pl, .int m_end, .ref (ad 103), .ref (ad 104), .ref (ad 105), .ref (ad 106), .ref (ad 107), .ref (ad 108), .int m_seed]) := hn
            obtain ⟨x14, ex14, hf⟩ := lt_e hf
            refine lv_iinc (v := x14) (lv' := [(4, .int x14), (0, .ref (ad 86)), (1, .long p0), (3, .int p1)]) hx hb dX11_write_70 hl (k := 3) rfl (by rw [ex14]; rfl) (by decide) rfl (fun ls hl => ?_)
            refine lv_goto (tgt := 33) hx hb dX11_write_73 (by decide) ?_
            exact ih x14 x13 f11 C H locs ls hP hS hag h86 h87 (lv_sub hl [1, 2, 3, 0] rfl) hf
      refine key33 _ (fun x7 x8 f9 C H locs ls hP hS hag h86 h87 hl hf => ?_) FU 0 m_len m_text C H locs ls hP hS hag h86 h87 (lv_sub hl [1, 2, 3, 0] rfl) hf
      refine lv_aload_n hx hb dX11_write_76 rfl (lv_at hl 0 rfl) ?_
      refine r_get (own := RX11) (T := TX11) (n := 32) (ci := 11) (v := .int x8) hx hb hts nX11 hown hK hP (by decide) h86 rfl 1 (by decide) k1 rfl dX11_write_77 ?_
      obtain rfl := Option.some.inj hf
      rw [← hQ]
      exact e_iW hx hb hr rfl (tP_i _) hP hS ⟨hag, h86, h87⟩ hlocks dX11_write_80
    · have hf := ie_e c3 hf
      refine lv_bipush (v := (-5)) hx hb dX11_write_27 (by decide) ?_
      obtain rfl := Option.some.inj hf
      rw [← hQ]
      exact e_iW hx hb hr rfl (tP_i _) hP hS ⟨hag, h86, h87⟩ hlocks dX11_write_29
  · have hf := it_e c2 hf
    refine lv_bipush (v := (-3)) hx hb dX11_write_12 (by decide) ?_
    obtain rfl := Option.some.inj hf
    rw [← hQ]
    exact e_iW hx hb hr rfl (tP_i _) hP hS ⟨hag, h86, h87⟩ hlocks dX11_write_14
