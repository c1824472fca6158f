def LX11_likelyOf_4 (p0 : Int32) (m_lik : Nat → Int32) (ko : Int32 → Int32 → Option (Int32)) : Nat → Int32 → Int32 → Option (Int32)
  | 0, _, _ => none
  | n + 1, x1, x2 =>
    if 12 ≤ x2 then
      ko x1 x2
    else
      (f_X11_has p0 x2).bind fun q6 =>
      (if q6 = 0 then
        some (0)
      else
        ri m_lik 12 (x2) fun x11 =>
        some (x11) : Option (Int32)).bind fun q7 =>
      lt ((x1 + q7) : Int32) fun x8 =>
      lt (x2 + 1 : Int32) fun x9 =>
      LX11_likelyOf_4 p0 m_lik ko n x8 x9
theorem LX11_likelyOf_4_z (p0 : Int32) (m_lik : Nat → Int32) (ko : Int32 → Int32 → Option (Int32)) (x1 : Int32) (x2 : Int32) : LX11_likelyOf_4 p0 m_lik ko 0 x1 x2 = none := rfl
theorem LX11_likelyOf_4_s (p0 : Int32) (m_lik : Nat → Int32) (ko : Int32 → Int32 → Option (Int32)) (n : Nat) (x1 : Int32) (x2 : Int32) : LX11_likelyOf_4 p0 m_lik ko (n + 1) x1 x2 =
    if 12 ≤ x2 then
      ko x1 x2
    else
      (f_X11_has p0 x2).bind fun q6 =>
      (if q6 = 0 then
        some (0)
      else
        ri m_lik 12 (x2) fun x11 =>
        some (x11) : Option (Int32)).bind fun q7 =>
      lt ((x1 + q7) : Int32) fun x8 =>
      lt (x2 + 1 : Int32) fun x9 =>
      LX11_likelyOf_4 p0 m_lik ko n x8 x9 := rfl
def f_X11_likelyOf (p0 : Int32) (m_lik : Nat → Int32) : Option (Int32) :=
  LX11_likelyOf_4 p0 m_lik (fun x3 x4 =>
    some (x3)) FU 0 0
abbrev rmX11_likelyOf : Room := { frames := 1, cells := 0, slots := 0, locals := 21 }
set_option maxHeartbeats 4000000 in
set_option maxRecDepth 100000 in
theorem c_X11_likelyOf {l : Launch} {D : va_G} {g : Nat → ClassId} {N : Nat} {ad : Nat → Nat} {C : Nat → va_E} {sz : Nat} {m_len : Int32} {m_rm : Int32} {m_there : Int32} {m_lift : Int32} {m_blank : Int32} {m_fm : Int32} {m_at : Int32} {m_pl : Int32} {m_end : Int32} {m_seed : Int32} {m_lik : Nat → Int32} {p0 : Int32} {rr : Int32} (hN : 109 ≤ N) (h86 : C 86 = .inr (11, [.ref (ad 87), .int m_len, .ref (ad 88), .int m_rm, .int m_there, .ref (ad 89), .ref (ad 90), .ref (ad 91), .ref (ad 92), .ref (ad 93), .ref (ad 94), .ref (ad 95), .ref (ad 96), .ref (ad 97), .ref (ad 98), .ref (ad 99), .ref (ad 100), .ref (ad 101), .int m_lift, .int m_blank, .ref (ad 102), .int m_fm, .int m_at, .int m_pl, .int m_end, .ref (ad 103), .ref (ad 104), .ref (ad 105), .ref (ad 106), .ref (ad 107), .ref (ad 108), .int m_seed])) (h94 : C 94 = aI g 12 m_lik) (hf : f_X11_likelyOf p0 m_lik = some rr) : Met l yX11_likelyOf wsX11_likelyOf rmX11_likelyOf (PcW D g N ad C sz [.ref (ad 86), .int p0]) (QiR sz tP rr) 0 0 (An sz) := by
  refine Met.ofW (cc := cX11_likelyOf) (maxL := 4) (ret := (some .int)) (by decide) rfl ?_
  intro p e s m args below meth c s₁ B hml hv
  obtain ⟨hav, hsz, hK, hP⟩ := hv
  subst hsz
  have hx := B.exec
  have hb := B.bytes
  have hr := B.returns
  have hts := atoms_spec (ws := wsX11_likelyOf) B.pre
  have hown : s.vm.findClass RX11 = some m.cls := findClass_of_methodNamed B.named
  have hlocks := B.notSynchronized
  generalize hQ : MQ below (QiR s.heap.size tP rr) args s 0 0 (An s.heap.size) = QQ
  have hS : va_S (An s.heap.size) s.heap s.heap [] := va_S.rf
  have hA : ∀ q, s.heap.size ≤ q → (An s.heap.size) q := fun q h => h
  have k0 := hts (.fieldLink RX11 35 "UpDrainModel" "likely" "[I") (List.mem_of_getElem? (i := 1) rfl)
  have nX11 : ∀ w ∈ u_ws RX11 TX11 32, w ∈ wsX11_likelyOf := fun _ h => List.mem_cons_of_mem _ (List.mem_append_right _ h)
  have hE := lg_entry_eq m [.ref (ad 86), .int p0] 4
  rw [← hav] at hE
  rw [hE]
  have hl := lv_entry [.ref (ad 86), .int p0] (n := 4) (Nat.le_of_ble_eq_true rfl)
  generalize (lg_sl [.ref (ad 86), .int p0] ++ List.replicate (4 - (lg_sl [.ref (ad 86), .int p0]).length) Slot.unset).toArray = ls at hl ⊢
  have hl : lv_has ls 4 [(0, .ref (ad 86)), (1, .int p0)] := hl
  clear hE
  unfold f_X11_likelyOf at hf
  suffices hgo : ∀ (H : Heap) (locs : List Loc), va_P D vwCl (wd N ad C) H → va_S (An s.heap.size) s.heap H locs → W p l e (headSpec wsX11_likelyOf rmX11_likelyOf).room s m args below meth c H locs 0 0 QQ (F0 m 0 ls []) from hgo s.heap [] hP hS
  clear hS hP
  intro H locs hP hS
  refine lv_iconst (v := 0) hx hb dX11_likelyOf_0 (by decide) ?_
  refine lv_istore_n (lv' := [(2, .int 0), (0, .ref (ad 86)), (1, .int p0)]) hx hb dX11_likelyOf_1 rfl hl (by decide) rfl (fun ls hl => ?_)
  refine lv_iconst (v := 0) hx hb dX11_likelyOf_2 (by decide) ?_
  refine lv_istore_n (lv' := [(3, .int 0), (2, .int 0), (0, .ref (ad 86)), (1, .int p0)]) hx hb dX11_likelyOf_3 rfl hl (by decide) rfl (fun ls hl => ?_)
  have key4 : ∀ (ko : Int32 → Int32 → Option (Int32)), (∀ (x3 : Int32) (x4 : Int32) (C : Nat → va_E) (H : Heap) (locs : List Loc) (ls : Array Slot), va_P D vwCl (wd N ad C) H → va_S (An s.heap.size) s.heap H locs → C 86 = .inr (11, [.ref (ad 87), .int m_len, .ref (ad 88), .int m_rm, .int m_there, .ref (ad 89), .ref (ad 90), .ref (ad 91), .ref (ad 92), .ref (ad 93), .ref (ad 94), .ref (ad 95), .ref (ad 96), .ref (ad 97), .ref (ad 98), .ref (ad 99), .ref (ad 100), .ref (ad 101), .int m_lift, .int m_blank, .ref (ad 102), .int m_fm, .int m_at, .int m_pl, .int m_end, .ref (ad 103), .ref (ad 104), .ref (ad 105), .ref (ad 106), .ref (ad 107), .ref (ad 108), .int m_seed]) → C 94 = aI g 12 m_lik → lv_has ls 4 [(0, .ref (ad 86)), (1, .int p0), (2, .int x3), (3, .int x4)] → ko x3 x4 = some rr → W p l e (headSpec wsX11_likelyOf rmX11_likelyOf).room s m args below meth c H locs 0 0 QQ (F0 m 37 ls [])) → ∀ (n : Nat) (x1 : Int32) (x2 : Int32) (C : Nat → va_E) (H : Heap) (locs : List Loc) (ls : Array Slot), va_P D vwCl (wd N ad C) H → va_S (An s.heap.size) s.heap H locs → C 86 = .inr (11, [.ref (ad 87), .int m_len, .ref (ad 88), .int m_rm, .int m_there, .ref (ad 89), .ref (ad 90), .ref (ad 91), .ref (ad 92), .ref (ad 93), .ref (ad 94), .ref (ad 95), .ref (ad 96), .ref (ad 97), .ref (ad 98), .ref (ad 99), .ref (ad 100), .ref (ad 101), .int m_lift, .int m_blank, .ref (ad 102), .int m_fm, .int m_at, .int m_pl, .int m_end, .ref (ad 103), .ref (ad 104), .ref (ad 105), .ref (ad 106), .ref (ad 107), .ref (ad 108), .int m_seed]) → C 94 = aI g 12 m_lik → lv_has ls 4 [(0, .ref (ad 86)), (1, .int p0), (2, .int x1), (3, .int x2)] → LX11_likelyOf_4 p0 m_lik ko n x1 x2 = some rr → W p l e (headSpec wsX11_likelyOf rmX11_likelyOf).room s m args below meth c H locs 0 0 QQ (F0 m 4 ls []) := by
    intro ko hko n
    induction n with
    | zero =>
      intro x1 x2 C H locs ls hP hS h86 h94 hl hf
      rw [LX11_likelyOf_4_z] at hf
      cases hf
    | succ n ih =>
      intro x1 x2 C H locs ls hP hS h86 h94 hl hf
      rw [LX11_likelyOf_4_s] at hf
      refine lv_iload_n hx hb dX11_likelyOf_4 rfl (lv_at hl 3 rfl) ?_
      refine lv_bipush (v := 12) hx hb dX11_likelyOf_5 (by decide) ?_
      refine lv_icmp_ge (tgt := 37) hx hb dX11_likelyOf_7 (by decide) (fun c5 => ?_) (fun c5 => ?_)
      · have hf := it_e c5 hf
        exact hko x1 x2 C H locs ls hP hS h86 h94 (lv_sub hl [0, 1, 2, 3] rfl) hf
      · have hf := ie_e c5 hf
        refine lv_iload_n hx hb dX11_likelyOf_10 rfl (lv_at hl 2 rfl) ?_
        refine lv_iload_n hx hb dX11_likelyOf_11 rfl (lv_at hl 1 rfl) ?_
        refine lv_iload_n hx hb dX11_likelyOf_12 rfl (lv_at hl 3 rfl) ?_
        obtain ⟨q6, hq6, hf⟩ := bd_e hf
        refine k_iR (va_runS (As := [.int p0, .int x2]) (rest := [.int x1]) ⟨hx, hb, hml, hown, hts⟩ (c_X11_has (l := l) (sz := H.size) (p0 := p0) (p1 := x2) hq6) (va_cwS 2 hts gX11_likelyOf_X11_has rfl rfl rfl (by decide +kernel) ⟨Nat.le_of_ble_eq_true rfl, Nat.le_of_ble_eq_true rfl⟩) preS0 rfl rfl hl.1 rfl (lv_room (Nat.le_of_ble_eq_true rfl)) dX11_likelyOf_13 ⟨Nat.le_of_ble_eq_true rfl, Nat.le_of_ble_eq_true rfl⟩) hA hP hS (fun H locs hP hS hbz_q6 => ?_)
        obtain ⟨q7, htq7, hf⟩ := bd_e hf
        have jnq7 : ∀ (C : Nat → va_E) (H : Heap) (locs : List Loc) (ls : Array Slot), va_P D vwCl (wd N ad C) H → va_S (An s.heap.size) s.heap H locs → C 86 = .inr (11, [.ref (ad 87), .int m_len, .ref (ad 88), .int m_rm, .int m_there, .ref (ad 89), .ref (ad 90), .ref (ad 91), .ref (ad 92), .ref (ad 93), .ref (ad 94), .ref (ad 95), .ref (ad 96), .ref (ad 97), .ref (ad 98), .ref (ad 99), .ref (ad 100), .ref (ad 101), .int m_lift, .int m_blank, .ref (ad 102), .int m_fm, .int m_at, .int m_pl, .int m_end, .ref (ad 103), .ref (ad 104), .ref (ad 105), .ref (ad 106), .ref (ad 107), .ref (ad 108), .int m_seed]) → C 94 = aI g 12 m_lik → lv_has ls 4 [(0, .ref (ad 86)), (1, .int p0), (2, .int x1), (3, .int x2)] → W p l e (headSpec wsX11_likelyOf rmX11_likelyOf).room s m args below meth c H locs 0 0 QQ (F0 m 29 ls [.int q7, .int x1]) := by
          intro C H locs ls hP hS h86 h94 hl
          refine lv_iadd hx hb dX11_likelyOf_29 ?_
          obtain ⟨x8, ex8, hf⟩ := lt_e hf
          refine tp_i ex8 ?_
          refine lv_istore_n (lv' := [(2, .int x8), (0, .ref (ad 86)), (1, .int p0), (3, .int x2)]) hx hb dX11_likelyOf_30 rfl hl (by decide) rfl (fun ls hl => ?_)
          obtain ⟨x9, ex9, hf⟩ := lt_e hf
          refine lv_iinc (v := x9) (lv' := [(3, .int x9), (2, .int x8), (0, .ref (ad 86)), (1, .int p0)]) hx hb dX11_likelyOf_31 hl (k := 3) rfl (by rw [ex9]; rfl) (by decide) rfl (fun ls hl => ?_)
          refine lv_goto (tgt := 4) hx hb dX11_likelyOf_34 (by decide) ?_
          exact ih x8 x9 C H locs ls hP hS h86 h94 (lv_sub hl [2, 3, 1, 0] rfl) hf
        clear hf
        have hf := htq7
        refine lv_if_eq (tgt := 28) hx hb dX11_likelyOf_16 (by decide) (fun c10 => ?_) (fun c10 => ?_)
        · have hf := it_e c10 hf
          refine lv_iconst (v := 0) hx hb dX11_likelyOf_28 (by decide) ?_
          obtain rfl := Option.some.inj hf
          exact jnq7 C H locs ls hP hS h86 h94 (lv_sub hl [0, 1, 2, 3] rfl)
        · have hf := ie_e c10 hf
          refine lv_aload_n hx hb dX11_likelyOf_19 rfl (lv_at hl 0 rfl) ?_
          refine r_get (own := RX11) (T := TX11) (n := 32) (ci := 11) (v := .ref (ad 94)) hx hb hts nX11 hown hK hP (by omega) h86 rfl 10 (by decide) k0 rfl dX11_likelyOf_20 ?_
          refine lv_iload_n hx hb dX11_likelyOf_23 rfl (lv_at hl 3 rfl) ?_
          obtain ⟨i12, x11, ex11, hf⟩ := ri_e hf
          refine r_iald hx hb hK hP (by omega) h94 i12 dX11_likelyOf_24 ex11 ?_
          refine lv_goto (tgt := 29) hx hb dX11_likelyOf_25 (by decide) ?_
          obtain rfl := Option.some.inj hf
          exact jnq7 C H locs ls hP hS h86 h94 (lv_sub hl [0, 1, 2, 3] rfl)
  refine key4 _ (fun x3 x4 C H locs ls hP hS h86 h94 hl hf => ?_) FU 0 0 C H locs ls hP hS h86 h94 (lv_sub hl [2, 3, 1, 0] rfl) hf
  refine lv_iload_n hx hb dX11_likelyOf_37 rfl (lv_at hl 2 rfl) ?_
  obtain rfl := Option.some.inj hf
  rw [← hQ]
  exact e_iR hx hb hr rfl (tP_i _) hS hlocks dX11_likelyOf_38

def LX11_mean_59 (m_lik : Nat → Int32) (m_there : Int32) (q3 : Int32) (q5 : (Nat → Int32) × (Nat → Int32)) (x6 : Int32) (ko : Int32 → (Nat → Int32) → Option (Int32 × (Nat → Int32) × (Nat → Int32) × (Nat → Int32))) : Nat → Int32 → (Nat → Int32) → Option (Int32 × (Nat → Int32) × (Nat → Int32) × (Nat → Int32))
  | 0, _, _ => none
  | n + 1, x15, f16 =>
    if 12 ≤ x15 then
      ko x15 f16
    else
      (f_X11_many x6).bind fun q20 =>
      if q20 ≤ 1 then
        ko x15 f16
      else
        if (x6 &&& (q3 ^^^ (-1))) = 0 then
          (f_X11_parts x15 x6 q5.1 m_there).bind fun q23 =>
          (if q23 = 0 then
            some (f16)
          else
            (f_X11_likelyOf x6 m_lik).bind fun q27 =>
            ri q5.1 12 (x15) fun x28 =>
            ri f16 4096 ((x6 &&& x28)) fun x30 =>
            ri q5.1 12 (x15) fun x32 =>
            ri f16 4096 ((x6 &&& (x32 ^^^ (-1)))) fun x34 =>
            lt (((q27 + x30) + x34) : Int32) fun x36 =>
            ri f16 4096 (x6) fun x37 =>
            (if x37 ≤ x36 then
              ri f16 4096 (x6) fun x43 =>
              some (x43)
            else
              some (x36) : Option (Int32)).bind fun q39 =>
            wi f16 4096 (x6) (q39) fun f40 =>
            some (f40) : Option ((Nat → Int32))).bind fun q24 =>
          lt (x15 + 1 : Int32) fun x25 =>
          LX11_mean_59 m_lik m_there q3 q5 x6 ko n x25 q24
        else
          ko x15 f16
theorem LX11_mean_59_z (m_lik : Nat → Int32) (m_there : Int32) (q3 : Int32) (q5 : (Nat → Int32) × (Nat → Int32)) (x6 : Int32) (ko : Int32 → (Nat → Int32) → Option (Int32 × (Nat → Int32) × (Nat → Int32) × (Nat → Int32))) (x15 : Int32) (f16 : Nat → Int32) : LX11_mean_59 m_lik m_there q3 q5 x6 ko 0 x15 f16 = none := rfl
theorem LX11_mean_59_s (m_lik : Nat → Int32) (m_there : Int32) (q3 : Int32) (q5 : (Nat → Int32) × (Nat → Int32)) (x6 : Int32) (ko : Int32 → (Nat → Int32) → Option (Int32 × (Nat → Int32) × (Nat → Int32) × (Nat → Int32))) (n : Nat) (x15 : Int32) (f16 : Nat → Int32) : LX11_mean_59 m_lik m_there q3 q5 x6 ko (n + 1) x15 f16 =
    if 12 ≤ x15 then
      ko x15 f16
    else
      (f_X11_many x6).bind fun q20 =>
      if q20 ≤ 1 then
        ko x15 f16
      else
        if (x6 &&& (q3 ^^^ (-1))) = 0 then
          (f_X11_parts x15 x6 q5.1 m_there).bind fun q23 =>
          (if q23 = 0 then
            some (f16)
          else
            (f_X11_likelyOf x6 m_lik).bind fun q27 =>
            ri q5.1 12 (x15) fun x28 =>
            ri f16 4096 ((x6 &&& x28)) fun x30 =>
            ri q5.1 12 (x15) fun x32 =>
            ri f16 4096 ((x6 &&& (x32 ^^^ (-1)))) fun x34 =>
            lt (((q27 + x30) + x34) : Int32) fun x36 =>
            ri f16 4096 (x6) fun x37 =>
            (if x37 ≤ x36 then
              ri f16 4096 (x6) fun x43 =>
              some (x43)
            else
              some (x36) : Option (Int32)).bind fun q39 =>
            wi f16 4096 (x6) (q39) fun f40 =>
            some (f40) : Option ((Nat → Int32))).bind fun q24 =>
          lt (x15 + 1 : Int32) fun x25 =>
          LX11_mean_59 m_lik m_there q3 q5 x6 ko n x25 q24
        else
          ko x15 f16 := rfl
def LX11_mean_28 (m_lik : Nat → Int32) (m_there : Int32) (q3 : Int32) (q5 : (Nat → Int32) × (Nat → Int32)) (ko : Int32 → (Nat → Int32) → Option (Int32 × (Nat → Int32) × (Nat → Int32) × (Nat → Int32))) : Nat → Int32 → (Nat → Int32) → Option (Int32 × (Nat → Int32) × (Nat → Int32) × (Nat → Int32))
  | 0, _, _ => none
  | n + 1, x6, f7 =>
    if 4096 ≤ x6 then
      ko x6 f7
    else
      (f_X11_many x6).bind fun q11 =>
      (if 2 ≤ q11 then
        some (268435456)
      else
        some (0) : Option (Int32)).bind fun q12 =>
      wi f7 4096 (x6) (q12) fun f13 =>
      LX11_mean_59 m_lik m_there q3 q5 x6 (fun x17 f18 =>
        lt (x6 + 1 : Int32) fun x45 =>
        LX11_mean_28 m_lik m_there q3 q5 ko n x45 f18) FU 0 f13
theorem LX11_mean_28_z (m_lik : Nat → Int32) (m_there : Int32) (q3 : Int32) (q5 : (Nat → Int32) × (Nat → Int32)) (ko : Int32 → (Nat → Int32) → Option (Int32 × (Nat → Int32) × (Nat → Int32) × (Nat → Int32))) (x6 : Int32) (f7 : Nat → Int32) : LX11_mean_28 m_lik m_there q3 q5 ko 0 x6 f7 = none := rfl
theorem LX11_mean_28_s (m_lik : Nat → Int32) (m_there : Int32) (q3 : Int32) (q5 : (Nat → Int32) × (Nat → Int32)) (ko : Int32 → (Nat → Int32) → Option (Int32 × (Nat → Int32) × (Nat → Int32) × (Nat → Int32))) (n : Nat) (x6 : Int32) (f7 : Nat → Int32) : LX11_mean_28 m_lik m_there q3 q5 ko (n + 1) x6 f7 =
    if 4096 ≤ x6 then
      ko x6 f7
    else
      (f_X11_many x6).bind fun q11 =>
      (if 2 ≤ q11 then
        some (268435456)
      else
        some (0) : Option (Int32)).bind fun q12 =>
      wi f7 4096 (x6) (q12) fun f13 =>
      LX11_mean_59 m_lik m_there q3 q5 x6 (fun x17 f18 =>
        lt (x6 + 1 : Int32) fun x45 =>
        LX11_mean_28 m_lik m_there q3 q5 ko n x45 f18) FU 0 f13 := rfl
def f_X11_mean (p0 : Int32) (m_down : Nat → Int32) (m_walk : Nat → Int32) (m_lik : Nat → Int32) (m_abv : Nat → Int32) (m_apart : Nat → Int32) (m_mean : Nat → Int32) (m_there : Int32) : Option (Int32 × (Nat → Int32) × (Nat → Int32) × (Nat → Int32)) :=
  (f_X11_isPart p0).bind fun q1 =>
  if q1 = 0 then
    some ((-3), m_abv, m_apart, m_mean)
  else
    (f_X11_sources m_lik m_there).bind fun q3 =>
    if q3 = 0 then
      some ((-4), m_abv, m_apart, m_mean)
    else
      (f_X11_layWays m_down m_walk m_abv m_apart m_there).bind fun q5 =>
      LX11_mean_28 m_lik m_there q3 q5 (fun x8 f9 =>
        ri f9 4096 (q3) fun x47 =>
        (f_X11_likelyOf q3 m_lik).bind fun q49 =>
        (f_X11_lowest (Int32.toInt64 x47) (Int32.toInt64 q49) p0).bind fun q50 =>
        some ((Int64.toInt32 q50), q5.1, q5.2, f9)) FU 0 m_mean
abbrev rmX11_mean : Room := { frames := 3, cells := 0, slots := 0, locals := 70 }
set_option maxHeartbeats 4000000 in
set_option maxRecDepth 100000 in
theorem c_X11_mean {l : Launch} {D : va_G} {g : Nat → ClassId} {N : Nat} {ad : Nat → Nat} {C : Nat → va_E} {sz : Nat} {m_len : Int32} {m_rm : Int32} {m_there : Int32} {m_lift : Int32} {m_blank : Int32} {m_fm : Int32} {m_at : Int32} {m_pl : Int32} {m_end : Int32} {m_seed : Int32} {m_down : Nat → Int32} {m_walk : Nat → Int32} {m_lik : Nat → Int32} {m_abv : Nat → Int32} {m_apart : Nat → Int32} {m_mean : Nat → Int32} {p0 : Int32} {rr : Int32 × (Nat → Int32) × (Nat → Int32) × (Nat → Int32)} (hN : 109 ≤ N) (hI : Inj N ad) (h86 : C 86 = .inr (11, [.ref (ad 87), .int m_len, .ref (ad 88), .int m_rm, .int m_there, .ref (ad 89), .ref (ad 90), .ref (ad 91), .ref (ad 92), .ref (ad 93), .ref (ad 94), .ref (ad 95), .ref (ad 96), .ref (ad 97), .ref (ad 98), .ref (ad 99), .ref (ad 100), .ref (ad 101), .int m_lift, .int m_blank, .ref (ad 102), .int m_fm, .int m_at, .int m_pl, .int m_end, .ref (ad 103), .ref (ad 104), .ref (ad 105), .ref (ad 106), .ref (ad 107), .ref (ad 108), .int m_seed])) (h89 : C 89 = aI g 12 m_down) (h91 : C 91 = aI g 12 m_walk) (h94 : C 94 = aI g 12 m_lik) (h103 : C 103 = aI g 12 m_abv) (h104 : C 104 = aI g 144 m_apart) (h106 : C 106 = aI g 4096 m_mean) (hf : f_X11_mean p0 m_down m_walk m_lik m_abv m_apart m_mean m_there = some rr) : Met l yX11_mean wsX11_mean rmX11_mean (PcW D g N ad C sz [.ref (ad 86), .int p0]) (QiW D N ad sz tP rr.1 (fun C' => (∀ i : Nat, i ≠ 103 ∧ i ≠ 104 ∧ i ≠ 106 → C' i = C i) ∧ (C' 103 = aI g 12 rr.2.1) ∧ (C' 104 = aI g 144 rr.2.2.1) ∧ (C' 106 = aI g 4096 rr.2.2.2))) 0 0 (Aw N ad sz) := by
  refine Met.ofW (cc := cX11_mean) (maxL := 6) (ret := (some .int)) (by decide) rfl ?_
  intro p e s m args below meth c s₁ B hml hv
  obtain ⟨hav, hsz, hK, hP⟩ := hv
  subst hsz
  have hx := B.exec
  have hb := B.bytes
  have hr := B.returns
  have hts := atoms_spec (ws := wsX11_mean) B.pre
  have hown : s.vm.findClass RX11 = some m.cls := findClass_of_methodNamed B.named
  have hlocks := B.notSynchronized
  generalize hQ : MQ below (QiW D N ad s.heap.size tP rr.1 (fun C' => (∀ i : Nat, i ≠ 103 ∧ i ≠ 104 ∧ i ≠ 106 → C' i = C i) ∧ (C' 103 = aI g 12 rr.2.1) ∧ (C' 104 = aI g 144 rr.2.2.1) ∧ (C' 106 = aI g 4096 rr.2.2.2))) args s 0 0 (Aw N ad s.heap.size) = QQ
  have hS : va_S (Aw N ad s.heap.size) s.heap s.heap [] := va_S.rf
  have hA : ∀ q, s.heap.size ≤ q → (Aw N ad s.heap.size) q := fun q h => Or.inr h
  have hAd : ∀ j : Nat, j < N → (Aw N ad s.heap.size) (ad j) := fun j h => Or.inl ⟨j, h, rfl⟩
  obtain ⟨C0, hC0⟩ : ∃ C0 : Nat → va_E, C0 = C := ⟨_, rfl⟩
  have hag : ∀ i : Nat, i ≠ 103 ∧ i ≠ 104 ∧ i ≠ 106 → C i = C0 i := fun i _ => by rw [hC0]
  rw [← hC0] at hQ
  have k0 := hts (.fieldLink RX11 71 "UpDrainModel" "mean" "[I") (List.mem_of_getElem? (i := 1) rfl)
  have nX11 : ∀ w ∈ u_ws RX11 TX11 32, w ∈ wsX11_mean := fun _ h => List.mem_cons_of_mem _ (List.mem_append_right _ h)
  have k2 := hts (.constant RX11 263 (268435456)) (List.mem_of_getElem? (i := 2) rfl)
  have k3 := hts (.fieldLink RX11 62 "UpDrainModel" "aboves" "[I") (List.mem_of_getElem? (i := 3) rfl)
  have hE := lg_entry_eq m [.ref (ad 86), .int p0] 6
  rw [← hav] at hE
  rw [hE]
  have hl := lv_entry [.ref (ad 86), .int p0] (n := 6) (Nat.le_of_ble_eq_true rfl)
  generalize (lg_sl [.ref (ad 86), .int p0] ++ List.replicate (6 - (lg_sl [.ref (ad 86), .int p0]).length) Slot.unset).toArray = ls at hl ⊢
  have hl : lv_has ls 6 [(0, .ref (ad 86)), (1, .int p0)] := hl
  clear hE
  unfold f_X11_mean at hf
  suffices hgo : ∀ (H : Heap) (locs : List Loc), va_P D vwCl (wd N ad C) H → va_S (Aw N ad s.heap.size) s.heap H locs → W p l e (headSpec wsX11_mean rmX11_mean).room s m args below meth c H locs 0 0 QQ (F0 m 0 ls []) from hgo s.heap [] hP hS
  clear hS hP
  intro H locs hP hS
  refine lv_iload_n hx hb dX11_mean_0 rfl (lv_at hl 1 rfl) ?_
  obtain ⟨q1, hq1, hf⟩ := bd_e hf
  refine k_iR (va_runS (As := [.int p0]) (rest := []) ⟨hx, hb, hml, hown, hts⟩ (c_X11_isPart (l := l) (sz := H.size) (p0 := p0) hq1) (va_cwS 1 hts gX11_mean_X11_isPart rfl rfl rfl (by decide +kernel) ⟨Nat.le_of_ble_eq_true rfl, Nat.le_of_ble_eq_true rfl⟩) preS0 rfl rfl hl.1 rfl (lv_room (Nat.le_of_ble_eq_true rfl)) dX11_mean_1 ⟨Nat.le_of_ble_eq_true rfl, Nat.le_of_ble_eq_true rfl⟩) hA hP hS (fun H locs hP hS hbz_q1 => ?_)
  refine lv_if_ne (tgt := 10) hx hb dX11_mean_4 (by decide) (fun c2 => ?_) (fun c2 => ?_)
  · have hf := ie_e c2 hf
    refine lv_aload_n hx hb dX11_mean_10 rfl (lv_at hl 0 rfl) ?_
    obtain ⟨q3, hq3, hf⟩ := bd_e hf
    refine k_iR (va_runV (C := RX11) (As := []) (rest := []) ⟨hx, hb, hml, hown, hts⟩ (c_X11_sources (l := l) (sz := H.size)  hN h86 h94 hq3) (cwV 0 hts gX11_mean_X11_sources rfl rfl rfl (by decide +kernel) ⟨Nat.le_of_ble_eq_true rfl, Nat.le_of_ble_eq_true rfl⟩) (preV_of hK hP (by omega) h86 rfl) rfl rfl hl.1 rfl (lv_room (Nat.le_of_ble_eq_true rfl)) dX11_mean_11 ⟨Nat.le_of_ble_eq_true rfl, Nat.le_of_ble_eq_true rfl⟩) hA hP hS (fun H locs hP hS hbz_q3 => ?_)
    refine lv_istore_n (lv' := [(2, .int q3), (0, .ref (ad 86)), (1, .int p0)]) hx hb dX11_mean_14 rfl hl (by decide) rfl (fun ls hl => ?_)
    refine lv_iload_n hx hb dX11_mean_15 rfl (lv_at hl 0 rfl) ?_
    refine lv_if_ne (tgt := 22) hx hb dX11_mean_16 (by decide) (fun c4 => ?_) (fun c4 => ?_)
    · have hf := ie_e c4 hf
      refine lv_aload_n hx hb dX11_mean_22 rfl (lv_at hl 1 rfl) ?_
      obtain ⟨q5, hq5, hf⟩ := bd_e hf
      refine k_vW (va_runV (C := RX11) (As := []) (rest := []) ⟨hx, hb, hml, hown, hts⟩ (c_X11_layWays (l := l) (sz := H.size)  hN hI h86 h89 h91 h103 h104 hq5) (cwV 0 hts gX11_mean_X11_layWays rfl rfl rfl (by decide +kernel) ⟨Nat.le_of_ble_eq_true rfl, Nat.le_of_ble_eq_true rfl⟩) (preV_of hK hP (by omega) h86 rfl) rfl rfl hl.1 rfl (lv_room (Nat.le_of_ble_eq_true rfl)) dX11_mean_23 ⟨Nat.le_of_ble_eq_true rfl, Nat.le_of_ble_eq_true rfl⟩) hA hAd hS (fun C H locs hP hS hpo => ?_)
      obtain ⟨he, h103, h104⟩ := hpo
      have hag : ∀ i : Nat, i ≠ 103 ∧ i ≠ 104 ∧ i ≠ 106 → C i = C0 i := fun i h => (he i (by omega)).trans (hag i h)
      have h86 := (he 86 (by decide)).trans h86
      have h89 := (he 89 (by decide)).trans h89
      have h91 := (he 91 (by decide)).trans h91
      have h94 := (he 94 (by decide)).trans h94
      have h106 := (he 106 (by decide)).trans h106
      refine lv_iconst (v := 0) hx hb dX11_mean_26 (by decide) ?_
      refine lv_istore_n (lv' := [(3, .int 0), (2, .int q3), (0, .ref (ad 86)), (1, .int p0)]) hx hb dX11_mean_27 rfl hl (by decide) rfl (fun ls hl => ?_)
      have key28 : ∀ (ko : Int32 → (Nat → Int32) → Option (Int32 × (Nat → Int32) × (Nat → Int32) × (Nat → Int32))), (∀ (x8 : Int32) (f9 : Nat → Int32) (C : Nat → va_E) (H : Heap) (locs : List Loc) (ls : Array Slot), va_P D vwCl (wd N ad C) H → va_S (Aw N ad s.heap.size) s.heap H locs → (∀ i : Nat, i ≠ 103 ∧ i ≠ 104 ∧ i ≠ 106 → C i = C0 i) → C 86 = .inr (11, [.ref (ad 87), .int m_len, .ref (ad 88), .int m_rm, .int m_there, .ref (ad 89), .ref (ad 90), .ref (ad 91), .ref (ad 92), .ref (ad 93), .ref (ad 94), .ref (ad 95), .ref (ad 96), .ref (ad 97), .ref (ad 98), .ref (ad 99), .ref (ad 100), .ref (ad 101), .int m_lift, .int m_blank, .ref (ad 102), .int m_fm, .int m_at, .int m_pl, .int m_end, .ref (ad 103), .ref (ad 104), .ref (ad 105), .ref (ad 106), .ref (ad 107), .ref (ad 108), .int m_seed]) → C 89 = aI g 12 m_down → C 91 = aI g 12 m_walk → C 94 = aI g 12 m_lik → C 103 = aI g 12 q5.1 → C 104 = aI g 144 q5.2 → C 106 = aI g 4096 f9 → lv_has ls 6 [(0, .ref (ad 86)), (1, .int p0), (2, .int q3), (3, .int x8)] → ko x8 f9 = some rr → W p l e (headSpec wsX11_mean rmX11_mean).room s m args below meth c H locs 0 0 QQ (F0 m 171 ls [])) → ∀ (n : Nat) (x6 : Int32) (f7 : Nat → Int32) (C : Nat → va_E) (H : Heap) (locs : List Loc) (ls : Array Slot), va_P D vwCl (wd N ad C) H → va_S (Aw N ad s.heap.size) s.heap H locs → (∀ i : Nat, i ≠ 103 ∧ i ≠ 104 ∧ i ≠ 106 → C i = C0 i) → C 86 = .inr (11, [.ref (ad 87), .int m_len, .ref (ad 88), .int m_rm, .int m_there, .ref (ad 89), .ref (ad 90), .ref (ad 91), .ref (ad 92), .ref (ad 93), .ref (ad 94), .ref (ad 95), .ref (ad 96), .ref (ad 97), .ref (ad 98), .ref (ad 99), .ref (ad 100), .ref (ad 101), .int m_lift, .int m_blank, .ref (ad 102), .int m_fm, .int m_at, .int m_pl, .int m_end, .ref (ad 103), .ref (ad 104), .ref (ad 105), .ref (ad 106), .ref (ad 107), .ref (ad 108), .int m_seed]) → C 89 = aI g 12 m_down → C 91 = aI g 12 m_walk → C 94 = aI g 12 m_lik → C 103 = aI g 12 q5.1 → C 104 = aI g 144 q5.2 → C 106 = aI g 4096 f7 → lv_has ls 6 [(0, .ref (ad 86)), (1, .int p0), (2, .int q3), (3, .int x6)] → LX11_mean_28 m_lik m_there q3 q5 ko n x6 f7 = some rr → W p l e (headSpec wsX11_mean rmX11_mean).room s m args below meth c H locs 0 0 QQ (F0 m 28 ls []) := by
        intro ko hko n
        induction n with
        | zero =>
          intro x6 f7 C H locs ls hP hS hag h86 h89 h91 h94 h103 h104 h106 hl hf
          rw [LX11_mean_28_z] at hf
          cases hf
        | succ n ih =>
          intro x6 f7 C H locs ls hP hS hag h86 h89 h91 h94 h103 h104 h106 hl hf
          rw [LX11_mean_28_s] at hf
          refine lv_iload_n hx hb dX11_mean_28 rfl (lv_at hl 3 rfl) ?_
          refine lv_sipush (v := 4096) hx hb dX11_mean_29 (by decide) ?_
          refine lv_icmp_ge (tgt := 171) hx hb dX11_mean_32 (by decide) (fun c10 => ?_) (fun c10 => ?_)
          · have hf := it_e c10 hf
            exact hko x6 f7 C H locs ls hP hS hag h86 h89 h91 h94 h103 h104 h106 (lv_sub hl [0, 1, 2, 3] rfl) hf
          · have hf := ie_e c10 hf
            refine lv_aload_n hx hb dX11_mean_35 rfl (lv_at hl 0 rfl) ?_
            refine r_get (own := RX11) (T := TX11) (n := 32) (ci := 11) (v := .ref (ad 106)) hx hb hts nX11 hown hK hP (by omega) h86 rfl 28 (by decide) k0 rfl dX11_mean_36 ?_
            refine lv_iload_n hx hb dX11_mean_39 rfl (lv_at hl 3 rfl) ?_
            refine lv_iload_n hx hb dX11_mean_40 rfl (lv_at hl 3 rfl) ?_
            obtain ⟨q11, hq11, hf⟩ := bd_e hf
            refine k_iR (va_runS (As := [.int x6]) (rest := [.int x6, .ref (ad 106)]) ⟨hx, hb, hml, hown, hts⟩ (c_X11_many (l := l) (sz := H.size) (p0 := x6) hq11) (va_cwS 1 hts gX11_mean_X11_many rfl rfl rfl (by decide +kernel) ⟨Nat.le_of_ble_eq_true rfl, Nat.le_of_ble_eq_true rfl⟩) preS0 rfl rfl hl.1 rfl (lv_room (Nat.le_of_ble_eq_true rfl)) dX11_mean_41 ⟨Nat.le_of_ble_eq_true rfl, Nat.le_of_ble_eq_true rfl⟩) hA hP hS (fun H locs hP hS hbz_q11 => ?_)
            refine lv_iconst (v := 2) hx hb dX11_mean_44 (by decide) ?_
            obtain ⟨q12, htq12, hf⟩ := bd_e hf
            have jnq12 : ∀ (C : Nat → va_E) (H : Heap) (locs : List Loc) (ls : Array Slot), va_P D vwCl (wd N ad C) H → va_S (Aw N ad s.heap.size) s.heap H locs → (∀ i : Nat, i ≠ 103 ∧ i ≠ 104 ∧ i ≠ 106 → C i = C0 i) → C 86 = .inr (11, [.ref (ad 87), .int m_len, .ref (ad 88), .int m_rm, .int m_there, .ref (ad 89), .ref (ad 90), .ref (ad 91), .ref (ad 92), .ref (ad 93), .ref (ad 94), .ref (ad 95), .ref (ad 96), .ref (ad 97), .ref (ad 98), .ref (ad 99), .ref (ad 100), .ref (ad 101), .int m_lift, .int m_blank, .ref (ad 102), .int m_fm, .int m_at, .int m_pl, .int m_end, .ref (ad 103), .ref (ad 104), .ref (ad 105), .ref (ad 106), .ref (ad 107), .ref (ad 108), .int m_seed]) → C 89 = aI g 12 m_down → C 91 = aI g 12 m_walk → C 94 = aI g 12 m_lik → C 103 = aI g 12 q5.1 → C 104 = aI g 144 q5.2 → C 106 = aI g 4096 f7 → lv_has ls 6 [(0, .ref (ad 86)), (1, .int p0), (2, .int q3), (3, .int x6)] → W p l e (headSpec wsX11_mean rmX11_mean).room s m args below meth c H locs 0 0 QQ (F0 m 55 ls [.int q12, .int x6, .ref (ad 106)]) := by
              intro C H locs ls hP hS hag h86 h89 h91 h94 h103 h104 h106 hl
              obtain ⟨i14, f13, ef13, hf⟩ := wi_e hf
              refine r_iast hx hb hK hI hAd hP hS (by omega) h106 i14 dX11_mean_55 ef13 (fun C H locs hP hS he hn => ?_)
              have hag : ∀ i : Nat, i ≠ 103 ∧ i ≠ 104 ∧ i ≠ 106 → C i = C0 i := fun i h => (he i (by omega)).trans (hag i h)
              have h86 := (he 86 (by decide)).trans h86
              have h89 := (he 89 (by decide)).trans h89
              have h91 := (he 91 (by decide)).trans h91
              have h94 := (he 94 (by decide)).trans h94
              have h103 := (he 103 (by decide)).trans h103
              have h104 := (he 104 (by decide)).trans h104
              have h106 : C 106 = aI g 4096 f13 := hn
              refine lv_iconst (v := 0) hx hb dX11_mean_56 (by decide) ?_
              refine lv_istore (lv' := [(4, .int 0), (0, .ref (ad 86)), (1, .int p0), (2, .int q3), (3, .int x6)]) hx hb dX11_mean_57 hl (by decide) rfl (fun ls hl => ?_)
              have key59 : ∀ (ko : Int32 → (Nat → Int32) → Option (Int32 × (Nat → Int32) × (Nat → Int32) × (Nat → Int32))), (∀ (x17 : Int32) (f18 : Nat → Int32) (C : Nat → va_E) (H : Heap) (locs : List Loc) (ls : Array Slot), va_P D vwCl (wd N ad C) H → va_S (Aw N ad s.heap.size) s.heap H locs → (∀ i : Nat, i ≠ 103 ∧ i ≠ 104 ∧ i ≠ 106 → C i = C0 i) → C 86 = .inr (11, [.ref (ad 87), .int m_len, .ref (ad 88), .int m_rm, .int m_there, .ref (ad 89), .ref (ad 90), .ref (ad 91), .ref (ad 92), .ref (ad 93), .ref (ad 94), .ref (ad 95), .ref (ad 96), .ref (ad 97), .ref (ad 98), .ref (ad 99), .ref (ad 100), .ref (ad 101), .int m_lift, .int m_blank, .ref (ad 102), .int m_fm, .int m_at, .int m_pl, .int m_end, .ref (ad 103), .ref (ad 104), .ref (ad 105), .ref (ad 106), .ref (ad 107), .ref (ad 108), .int m_seed]) → C 89 = aI g 12 m_down → C 91 = aI g 12 m_walk → C 94 = aI g 12 m_lik → C 103 = aI g 12 q5.1 → C 104 = aI g 144 q5.2 → C 106 = aI g 4096 f18 → lv_has ls 6 [(0, .ref (ad 86)), (1, .int p0), (2, .int q3), (3, .int x6), (4, .int x17)] → ko x17 f18 = some rr → W p l e (headSpec wsX11_mean rmX11_mean).room s m args below meth c H locs 0 0 QQ (F0 m 165 ls [])) → ∀ (n : Nat) (x15 : Int32) (f16 : Nat → Int32) (C : Nat → va_E) (H : Heap) (locs : List Loc) (ls : Array Slot), va_P D vwCl (wd N ad C) H → va_S (Aw N ad s.heap.size) s.heap H locs → (∀ i : Nat, i ≠ 103 ∧ i ≠ 104 ∧ i ≠ 106 → C i = C0 i) → C 86 = .inr (11, [.ref (ad 87), .int m_len, .ref (ad 88), .int m_rm, .int m_there, .ref (ad 89), .ref (ad 90), .ref (ad 91), .ref (ad 92), .ref (ad 93), .ref (ad 94), .ref (ad 95), .ref (ad 96), .ref (ad 97), .ref (ad 98), .ref (ad 99), .ref (ad 100), .ref (ad 101), .int m_lift, .int m_blank, .ref (ad 102), .int m_fm, .int m_at, .int m_pl, .int m_end, .ref (ad 103), .ref (ad 104), .ref (ad 105), .ref (ad 106), .ref (ad 107), .ref (ad 108), .int m_seed]) → C 89 = aI g 12 m_down → C 91 = aI g 12 m_walk → C 94 = aI g 12 m_lik → C 103 = aI g 12 q5.1 → C 104 = aI g 144 q5.2 → C 106 = aI g 4096 f16 → lv_has ls 6 [(0, .ref (ad 86)), (1, .int p0), (2, .int q3), (3, .int x6), (4, .int x15)] → LX11_mean_59 m_lik m_there q3 q5 x6 ko n x15 f16 = some rr → W p l e (headSpec wsX11_mean rmX11_mean).room s m args below meth c H locs 0 0 QQ (F0 m 59 ls []) := by
                intro ko hko n
                induction n with
                | zero =>
                  intro x15 f16 C H locs ls hP hS hag h86 h89 h91 h94 h103 h104 h106 hl hf
                  rw [LX11_mean_59_z] at hf
                  cases hf
                | succ n ih =>
                  intro x15 f16 C H locs ls hP hS hag h86 h89 h91 h94 h103 h104 h106 hl hf
                  rw [LX11_mean_59_s] at hf
                  refine lv_iload hx hb dX11_mean_59 (lv_at hl 4 rfl) ?_
                  refine lv_bipush (v := 12) hx hb dX11_mean_61 (by decide) ?_
                  refine lv_icmp_ge (tgt := 165) hx hb dX11_mean_63 (by decide) (fun c19 => ?_) (fun c19 => ?_)
                  · have hf := it_e c19 hf
                    exact hko x15 f16 C H locs ls hP hS hag h86 h89 h91 h94 h103 h104 h106 (lv_sub hl [0, 1, 2, 3, 4] rfl) hf
                  · have hf := ie_e c19 hf
                    refine lv_iload_n hx hb dX11_mean_66 rfl (lv_at hl 3 rfl) ?_
                    obtain ⟨q20, hq20, hf⟩ := bd_e hf
                    refine k_iR (va_runS (As := [.int x6]) (rest := []) ⟨hx, hb, hml, hown, hts⟩ (c_X11_many (l := l) (sz := H.size) (p0 := x6) hq20) (va_cwS 1 hts gX11_mean_X11_many rfl rfl rfl (by decide +kernel) ⟨Nat.le_of_ble_eq_true rfl, Nat.le_of_ble_eq_true rfl⟩) preS0 rfl rfl hl.1 rfl (lv_room (Nat.le_of_ble_eq_true rfl)) dX11_mean_67 ⟨Nat.le_of_ble_eq_true rfl, Nat.le_of_ble_eq_true rfl⟩) hA hP hS (fun H locs hP hS hbz_q20 => ?_)
                    refine lv_iconst (v := 1) hx hb dX11_mean_70 (by decide) ?_
                    refine lv_icmp_le (tgt := 165) hx hb dX11_mean_71 (by decide) (fun c21 => ?_) (fun c21 => ?_)
                    · have hf := it_e c21 hf
                      exact hko x15 f16 C H locs ls hP hS hag h86 h89 h91 h94 h103 h104 h106 (lv_sub hl [0, 1, 2, 3, 4] rfl) hf
                    · have hf := ie_e c21 hf
                      refine lv_iload_n hx hb dX11_mean_74 rfl (lv_at hl 3 rfl) ?_
                      refine lv_iload_n hx hb dX11_mean_75 rfl (lv_at hl 2 rfl) ?_
                      refine lv_iconst (v := (-1)) hx hb dX11_mean_76 (by decide) ?_
                      refine lv_ixor hx hb dX11_mean_77 ?_
                      refine lv_iand hx hb dX11_mean_78 ?_
                      refine lv_if_ne (tgt := 165) hx hb dX11_mean_79 (by decide) (fun c22 => ?_) (fun c22 => ?_)
                      · have hf := ie_e c22 hf
                        exact hko x15 f16 C H locs ls hP hS hag h86 h89 h91 h94 h103 h104 h106 (lv_sub hl [0, 1, 2, 3, 4] rfl) hf
                      · have hf := it_e c22 hf
                        refine lv_aload_n hx hb dX11_mean_82 rfl (lv_at hl 0 rfl) ?_
                        refine lv_iload hx hb dX11_mean_83 (lv_at hl 4 rfl) ?_
                        refine lv_iload_n hx hb dX11_mean_85 rfl (lv_at hl 3 rfl) ?_
                        obtain ⟨q23, hq23, hf⟩ := bd_e hf
                        refine k_iR (va_runV (C := RX11) (As := [.int x15, .int x6]) (rest := []) ⟨hx, hb, hml, hown, hts⟩ (c_X11_parts (l := l) (sz := H.size) (p0 := x15) (p1 := x6) hN h86 h103 hq23) (cwV 2 hts gX11_mean_X11_parts rfl rfl rfl (by decide +kernel) ⟨Nat.le_of_ble_eq_true rfl, Nat.le_of_ble_eq_true rfl⟩) (preV_of hK hP (by omega) h86 rfl) rfl rfl hl.1 rfl (lv_room (Nat.le_of_ble_eq_true rfl)) dX11_mean_86 ⟨Nat.le_of_ble_eq_true rfl, Nat.le_of_ble_eq_true rfl⟩) hA hP hS (fun H locs hP hS hbz_q23 => ?_)
                        obtain ⟨q24, htq24, hf⟩ := bd_e hf
                        have jnq24 : ∀ (C : Nat → va_E) (H : Heap) (locs : List Loc) (ls : Array Slot), va_P D vwCl (wd N ad C) H → va_S (Aw N ad s.heap.size) s.heap H locs → (∀ i : Nat, i ≠ 103 ∧ i ≠ 104 ∧ i ≠ 106 → C i = C0 i) → C 86 = .inr (11, [.ref (ad 87), .int m_len, .ref (ad 88), .int m_rm, .int m_there, .ref (ad 89), .ref (ad 90), .ref (ad 91), .ref (ad 92), .ref (ad 93), .ref (ad 94), .ref (ad 95), .ref (ad 96), .ref (ad 97), .ref (ad 98), .ref (ad 99), .ref (ad 100), .ref (ad 101), .int m_lift, .int m_blank, .ref (ad 102), .int m_fm, .int m_at, .int m_pl, .int m_end, .ref (ad 103), .ref (ad 104), .ref (ad 105), .ref (ad 106), .ref (ad 107), .ref (ad 108), .int m_seed]) → C 89 = aI g 12 m_down → C 91 = aI g 12 m_walk → C 94 = aI g 12 m_lik → C 103 = aI g 12 q5.1 → C 104 = aI g 144 q5.2 → C 106 = aI g 4096 q24 → lv_has ls 6 [(0, .ref (ad 86)), (1, .int p0), (2, .int q3), (3, .int x6), (4, .int x15)] → W p l e (headSpec wsX11_mean rmX11_mean).room s m args below meth c H locs 0 0 QQ (F0 m 159 ls []) := by
                          intro C H locs ls hP hS hag h86 h89 h91 h94 h103 h104 h106 hl
                          obtain ⟨x25, ex25, hf⟩ := lt_e hf
                          refine lv_iinc (v := x25) (lv' := [(4, .int x25), (0, .ref (ad 86)), (1, .int p0), (2, .int q3), (3, .int x6)]) hx hb dX11_mean_159 hl (k := 4) rfl (by rw [ex25]; rfl) (by decide) rfl (fun ls hl => ?_)
                          refine lv_goto (tgt := 59) hx hb dX11_mean_162 (by decide) ?_
                          exact ih x25 q24 C H locs ls hP hS hag h86 h89 h91 h94 h103 h104 h106 (lv_sub hl [1, 2, 3, 4, 0] rfl) hf
                        clear hf
                        have hf := htq24
                        refine lv_if_eq (tgt := 159) hx hb dX11_mean_89 (by decide) (fun c26 => ?_) (fun c26 => ?_)
                        · have hf := it_e c26 hf
                          obtain rfl := Option.some.inj hf
                          exact jnq24 C H locs ls hP hS hag h86 h89 h91 h94 h103 h104 h106 (lv_sub hl [0, 1, 2, 3, 4] rfl)
                        · have hf := ie_e c26 hf
                          refine lv_aload_n hx hb dX11_mean_92 rfl (lv_at hl 0 rfl) ?_
                          refine lv_iload_n hx hb dX11_mean_93 rfl (lv_at hl 3 rfl) ?_
                          obtain ⟨q27, hq27, hf⟩ := bd_e hf
                          refine k_iR (va_runV (C := RX11) (As := [.int x6]) (rest := []) ⟨hx, hb, hml, hown, hts⟩ (c_X11_likelyOf (l := l) (sz := H.size) (p0 := x6) hN h86 h94 hq27) (cwV 1 hts gX11_mean_X11_likelyOf rfl rfl rfl (by decide +kernel) ⟨Nat.le_of_ble_eq_true rfl, Nat.le_of_ble_eq_true rfl⟩) (preV_of hK hP (by omega) h86 rfl) rfl rfl hl.1 rfl (lv_room (Nat.le_of_ble_eq_true rfl)) dX11_mean_94 ⟨Nat.le_of_ble_eq_true rfl, Nat.le_of_ble_eq_true rfl⟩) hA hP hS (fun H locs hP hS hbz_q27 => ?_)
                          refine lv_aload_n hx hb dX11_mean_97 rfl (lv_at hl 0 rfl) ?_
                          refine r_get (own := RX11) (T := TX11) (n := 32) (ci := 11) (v := .ref (ad 106)) hx hb hts nX11 hown hK hP (by omega) h86 rfl 28 (by decide) k0 rfl dX11_mean_98 ?_
                          refine lv_iload_n hx hb dX11_mean_101 rfl (lv_at hl 3 rfl) ?_
                          refine lv_aload_n hx hb dX11_mean_102 rfl (lv_at hl 0 rfl) ?_
                          refine r_get (own := RX11) (T := TX11) (n := 32) (ci := 11) (v := .ref (ad 103)) hx hb hts nX11 hown hK hP (by omega) h86 rfl 25 (by decide) k3 rfl dX11_mean_103 ?_
                          refine lv_iload hx hb dX11_mean_106 (lv_at hl 4 rfl) ?_
                          obtain ⟨i29, x28, ex28, hf⟩ := ri_e hf
                          refine r_iald hx hb hK hP (by omega) h103 i29 dX11_mean_108 ex28 ?_
                          refine lv_iand hx hb dX11_mean_109 ?_
                          obtain ⟨i31, x30, ex30, hf⟩ := ri_e hf
                          refine r_iald hx hb hK hP (by omega) h106 i31 dX11_mean_110 ex30 ?_
                          refine lv_iadd hx hb dX11_mean_111 ?_
                          refine lv_aload_n hx hb dX11_mean_112 rfl (lv_at hl 0 rfl) ?_
                          refine r_get (own := RX11) (T := TX11) (n := 32) (ci := 11) (v := .ref (ad 106)) hx hb hts nX11 hown hK hP (by omega) h86 rfl 28 (by decide) k0 rfl dX11_mean_113 ?_
                          refine lv_iload_n hx hb dX11_mean_116 rfl (lv_at hl 3 rfl) ?_
                          refine lv_aload_n hx hb dX11_mean_117 rfl (lv_at hl 0 rfl) ?_
                          refine r_get (own := RX11) (T := TX11) (n := 32) (ci := 11) (v := .ref (ad 103)) hx hb hts nX11 hown hK hP (by omega) h86 rfl 25 (by decide) k3 rfl dX11_mean_118 ?_
                          refine lv_iload hx hb dX11_mean_121 (lv_at hl 4 rfl) ?_
                          obtain ⟨i33, x32, ex32, hf⟩ := ri_e hf
                          refine r_iald hx hb hK hP (by omega) h103 i33 dX11_mean_123 ex32 ?_
                          refine lv_iconst (v := (-1)) hx hb dX11_mean_124 (by decide) ?_
                          refine lv_ixor hx hb dX11_mean_125 ?_
                          refine lv_iand hx hb dX11_mean_126 ?_
                          obtain ⟨i35, x34, ex34, hf⟩ := ri_e hf
                          refine r_iald hx hb hK hP (by omega) h106 i35 dX11_mean_127 ex34 ?_
                          refine lv_iadd hx hb dX11_mean_128 ?_
                          obtain ⟨x36, ex36, hf⟩ := lt_e hf
                          refine tp_i ex36 ?_
                          refine lv_istore (lv' := [(5, .int x36), (0, .ref (ad 86)), (1, .int p0), (2, .int q3), (3, .int x6), (4, .int x15)]) hx hb dX11_mean_129 hl (by decide) rfl (fun ls hl => ?_)
                          refine lv_aload_n hx hb dX11_mean_131 rfl (lv_at hl 1 rfl) ?_
                          refine r_get (own := RX11) (T := TX11) (n := 32) (ci := 11) (v := .ref (ad 106)) hx hb hts nX11 hown hK hP (by omega) h86 rfl 28 (by decide) k0 rfl dX11_mean_132 ?_
                          refine lv_iload_n hx hb dX11_mean_135 rfl (lv_at hl 4 rfl) ?_
                          refine lv_iload hx hb dX11_mean_136 (lv_at hl 0 rfl) ?_
                          refine lv_aload_n hx hb dX11_mean_138 rfl (lv_at hl 1 rfl) ?_
                          refine r_get (own := RX11) (T := TX11) (n := 32) (ci := 11) (v := .ref (ad 106)) hx hb hts nX11 hown hK hP (by omega) h86 rfl 28 (by decide) k0 rfl dX11_mean_139 ?_
                          refine lv_iload_n hx hb dX11_mean_142 rfl (lv_at hl 4 rfl) ?_
                          obtain ⟨i38, x37, ex37, hf⟩ := ri_e hf
                          refine r_iald hx hb hK hP (by omega) h106 i38 dX11_mean_143 ex37 ?_
                          obtain ⟨q39, htq39, hf⟩ := bd_e hf
                          have jnq39 : ∀ (C : Nat → va_E) (H : Heap) (locs : List Loc) (ls : Array Slot), va_P D vwCl (wd N ad C) H → va_S (Aw N ad s.heap.size) s.heap H locs → (∀ i : Nat, i ≠ 103 ∧ i ≠ 104 ∧ i ≠ 106 → C i = C0 i) → C 86 = .inr (11, [.ref (ad 87), .int m_len, .ref (ad 88), .int m_rm, .int m_there, .ref (ad 89), .ref (ad 90), .ref (ad 91), .ref (ad 92), .ref (ad 93), .ref (ad 94), .ref (ad 95), .ref (ad 96), .ref (ad 97), .ref (ad 98), .ref (ad 99), .ref (ad 100), .ref (ad 101), .int m_lift, .int m_blank, .ref (ad 102), .int m_fm, .int m_at, .int m_pl, .int m_end, .ref (ad 103), .ref (ad 104), .ref (ad 105), .ref (ad 106), .ref (ad 107), .ref (ad 108), .int m_seed]) → C 89 = aI g 12 m_down → C 91 = aI g 12 m_walk → C 94 = aI g 12 m_lik → C 103 = aI g 12 q5.1 → C 104 = aI g 144 q5.2 → C 106 = aI g 4096 f16 → lv_has ls 6 [(0, .ref (ad 86)), (1, .int p0), (2, .int q3), (3, .int x6), (4, .int x15), (5, .int x36)] → W p l e (headSpec wsX11_mean rmX11_mean).room s m args below meth c H locs 0 0 QQ (F0 m 158 ls [.int q39, .int x6, .ref (ad 106)]) := by
                            intro C H locs ls hP hS hag h86 h89 h91 h94 h103 h104 h106 hl
                            obtain ⟨i41, f40, ef40, hf⟩ := wi_e hf
                            refine r_iast hx hb hK hI hAd hP hS (by omega) h106 i41 dX11_mean_158 ef40 (fun C H locs hP hS he hn => ?_)
                            have hag : ∀ i : Nat, i ≠ 103 ∧ i ≠ 104 ∧ i ≠ 106 → C i = C0 i := fun i h => (he i (by omega)).trans (hag i h)
                            have h86 := (he 86 (by decide)).trans h86
                            have h89 := (he 89 (by decide)).trans h89
                            have h91 := (he 91 (by decide)).trans h91
                            have h94 := (he 94 (by decide)).trans h94
                            have h103 := (he 103 (by decide)).trans h103
                            have h104 := (he 104 (by decide)).trans h104
                            have h106 : C 106 = aI g 4096 f40 := hn
                            obtain rfl := Option.some.inj hf
                            exact jnq24 C H locs ls hP hS hag h86 h89 h91 h94 h103 h104 h106 (lv_sub hl [0, 1, 2, 3, 4] rfl)
                          clear hf
                          have hf := htq39
                          refine lv_icmp_ge (tgt := 152) hx hb dX11_mean_144 (by decide) (fun c42 => ?_) (fun c42 => ?_)
                          · have hf := it_e c42 hf
                            refine lv_aload_n hx hb dX11_mean_152 rfl (lv_at hl 1 rfl) ?_
                            refine r_get (own := RX11) (T := TX11) (n := 32) (ci := 11) (v := .ref (ad 106)) hx hb hts nX11 hown hK hP (by omega) h86 rfl 28 (by decide) k0 rfl dX11_mean_153 ?_
                            refine lv_iload_n hx hb dX11_mean_156 rfl (lv_at hl 4 rfl) ?_
                            obtain ⟨i44, x43, ex43, hf⟩ := ri_e hf
                            refine r_iald hx hb hK hP (by omega) h106 i44 dX11_mean_157 ex43 ?_
                            obtain rfl := Option.some.inj hf
                            exact jnq39 C H locs ls hP hS hag h86 h89 h91 h94 h103 h104 h106 (lv_sub hl [1, 2, 3, 4, 5, 0] rfl)
                          · have hf := ie_e c42 hf
                            refine lv_iload hx hb dX11_mean_147 (lv_at hl 0 rfl) ?_
                            refine lv_goto (tgt := 158) hx hb dX11_mean_149 (by decide) ?_
                            obtain rfl := Option.some.inj hf
                            exact jnq39 C H locs ls hP hS hag h86 h89 h91 h94 h103 h104 h106 (lv_sub hl [1, 2, 3, 4, 5, 0] rfl)
              refine key59 _ (fun x17 f18 C H locs ls hP hS hag h86 h89 h91 h94 h103 h104 h106 hl hf => ?_) FU 0 f13 C H locs ls hP hS hag h86 h89 h91 h94 h103 h104 h106 (lv_sub hl [1, 2, 3, 4, 0] rfl) hf
              obtain ⟨x45, ex45, hf⟩ := lt_e hf
              refine lv_iinc (v := x45) (lv' := [(3, .int x45), (0, .ref (ad 86)), (1, .int p0), (2, .int q3), (4, .int x17)]) hx hb dX11_mean_165 hl (k := 3) rfl (by rw [ex45]; rfl) (by decide) rfl (fun ls hl => ?_)
              refine lv_goto (tgt := 28) hx hb dX11_mean_168 (by decide) ?_
              exact ih x45 f18 C H locs ls hP hS hag h86 h89 h91 h94 h103 h104 h106 (lv_sub hl [1, 2, 3, 0] rfl) hf
            clear hf
            have hf := htq12
            refine lv_icmp_ge (tgt := 52) hx hb dX11_mean_45 (by decide) (fun c46 => ?_) (fun c46 => ?_)
            · have hf := it_e c46 hf
              refine lv_ldcw (own := RX11) hx hb hown k2 dX11_mean_52 ?_
              obtain rfl := Option.some.inj hf
              exact jnq12 C H locs ls hP hS hag h86 h89 h91 h94 h103 h104 h106 (lv_sub hl [0, 1, 2, 3] rfl)
            · have hf := ie_e c46 hf
              refine lv_iconst (v := 0) hx hb dX11_mean_48 (by decide) ?_
              refine lv_goto (tgt := 55) hx hb dX11_mean_49 (by decide) ?_
              obtain rfl := Option.some.inj hf
              exact jnq12 C H locs ls hP hS hag h86 h89 h91 h94 h103 h104 h106 (lv_sub hl [0, 1, 2, 3] rfl)
      refine key28 _ (fun x8 f9 C H locs ls hP hS hag h86 h89 h91 h94 h103 h104 h106 hl hf => ?_) FU 0 m_mean C H locs ls hP hS hag h86 h89 h91 h94 h103 h104 h106 (lv_sub hl [2, 3, 1, 0] rfl) hf
      refine lv_aload_n hx hb dX11_mean_171 rfl (lv_at hl 0 rfl) ?_
      refine r_get (own := RX11) (T := TX11) (n := 32) (ci := 11) (v := .ref (ad 106)) hx hb hts nX11 hown hK hP (by omega) h86 rfl 28 (by decide) k0 rfl dX11_mean_172 ?_
      refine lv_iload_n hx hb dX11_mean_175 rfl (lv_at hl 2 rfl) ?_
      obtain ⟨i48, x47, ex47, hf⟩ := ri_e hf
      refine r_iald hx hb hK hP (by omega) h106 i48 dX11_mean_176 ex47 ?_
      refine lv_i2l hx hb dX11_mean_177 rfl ?_
      refine lv_aload_n hx hb dX11_mean_178 rfl (lv_at hl 0 rfl) ?_
      refine lv_iload_n hx hb dX11_mean_179 rfl (lv_at hl 2 rfl) ?_
      obtain ⟨q49, hq49, hf⟩ := bd_e hf
      refine k_iR (va_runV (C := RX11) (As := [.int q3]) (rest := [.long (Int32.toInt64 x47)]) ⟨hx, hb, hml, hown, hts⟩ (c_X11_likelyOf (l := l) (sz := H.size) (p0 := q3) hN h86 h94 hq49) (cwV 1 hts gX11_mean_X11_likelyOf rfl rfl rfl (by decide +kernel) ⟨Nat.le_of_ble_eq_true rfl, Nat.le_of_ble_eq_true rfl⟩) (preV_of hK hP (by omega) h86 rfl) rfl rfl hl.1 rfl (lv_room (Nat.le_of_ble_eq_true rfl)) dX11_mean_180 ⟨Nat.le_of_ble_eq_true rfl, Nat.le_of_ble_eq_true rfl⟩) hA hP hS (fun H locs hP hS hbz_q49 => ?_)
      refine lv_i2l hx hb dX11_mean_183 rfl ?_
      refine lv_iload_n hx hb dX11_mean_184 rfl (lv_at hl 1 rfl) ?_
      obtain ⟨q50, hq50, hf⟩ := bd_e hf
      refine k_lR (va_runS (As := [.long (Int32.toInt64 x47), .long (Int32.toInt64 q49), .int p0]) (rest := []) ⟨hx, hb, hml, hown, hts⟩ (c_X11_lowest (l := l) (sz := H.size) (p0 := (Int32.toInt64 x47)) (p1 := (Int32.toInt64 q49)) (p2 := p0) hq50) (va_cwS 3 hts gX11_mean_X11_lowest rfl rfl rfl (by decide +kernel) ⟨Nat.le_of_ble_eq_true rfl, Nat.le_of_ble_eq_true rfl⟩) preS0 rfl rfl hl.1 rfl (lv_room (Nat.le_of_ble_eq_true rfl)) dX11_mean_185 ⟨Nat.le_of_ble_eq_true rfl, Nat.le_of_ble_eq_true rfl⟩) hA hP hS (fun H locs hP hS => ?_)
      refine lv_l2i hx hb dX11_mean_188 rfl ?_
      obtain rfl := Option.some.inj hf
      rw [← hQ]
      exact e_iW hx hb hr rfl (tP_i _) hP hS ⟨hag, h103, h104, h106⟩ hlocks dX11_mean_189
    · have hf := it_e c4 hf
      refine lv_bipush (v := (-4)) hx hb dX11_mean_19 (by decide) ?_
      obtain rfl := Option.some.inj hf
      rw [← hQ]
      exact e_iW hx hb hr rfl (tP_i _) hP hS ⟨hag, h103, h104, h106⟩ hlocks dX11_mean_21
  · have hf := it_e c2 hf
    refine lv_bipush (v := (-3)) hx hb dX11_mean_7 (by decide) ?_
    obtain rfl := Option.some.inj hf
    rw [← hQ]
    exact e_iW hx hb hr rfl (tP_i _) hP hS ⟨hag, h103, h104, h106⟩ hlocks dX11_mean_9

def f_X11_soonBy (p0 : Int32) (p1 : Int32) (p2 : Int32) (m_abv : Nat → Int32) (m_apart : Nat → Int32) (m_soon : Nat → Int32) (m_lift : Int32) : Option (Int32) :=
  ri m_apart 144 (((12 * p0) + p1)) fun x1 =>
  ri m_abv 12 (p1) fun x3 =>
  ri m_soon 49152 (((12 * (p2 &&& x3)) + p1)) fun x5 =>
  ri m_abv 12 (p1) fun x7 =>
  ri m_soon 49152 (((12 * (p2 &&& (x7 ^^^ (-1)))) + p1)) fun x9 =>
  (f_X11_greater x5 x9).bind fun q11 =>
  some (((x1 + m_lift) + q11))
abbrev rmX11_soonBy : Room := { frames := 1, cells := 0, slots := 0, locals := 21 }
set_option maxHeartbeats 4000000 in
set_option maxRecDepth 100000 in
theorem c_X11_soonBy {l : Launch} {D : va_G} {g : Nat → ClassId} {N : Nat} {ad : Nat → Nat} {C : Nat → va_E} {sz : Nat} {m_len : Int32} {m_rm : Int32} {m_there : Int32} {m_lift : Int32} {m_blank : Int32} {m_fm : Int32} {m_at : Int32} {m_pl : Int32} {m_end : Int32} {m_seed : Int32} {m_abv : Nat → Int32} {m_apart : Nat → Int32} {m_soon : Nat → Int32} {p0 : Int32} {p1 : Int32} {p2 : Int32} {rr : Int32} (hN : 109 ≤ N) (h86 : C 86 = .inr (11, [.ref (ad 87), .int m_len, .ref (ad 88), .int m_rm, .int m_there, .ref (ad 89), .ref (ad 90), .ref (ad 91), .ref (ad 92), .ref (ad 93), .ref (ad 94), .ref (ad 95), .ref (ad 96), .ref (ad 97), .ref (ad 98), .ref (ad 99), .ref (ad 100), .ref (ad 101), .int m_lift, .int m_blank, .ref (ad 102), .int m_fm, .int m_at, .int m_pl, .int m_end, .ref (ad 103), .ref (ad 104), .ref (ad 105), .ref (ad 106), .ref (ad 107), .ref (ad 108), .int m_seed])) (h103 : C 103 = aI g 12 m_abv) (h104 : C 104 = aI g 144 m_apart) (h107 : C 107 = aI g 49152 m_soon) (hf : f_X11_soonBy p0 p1 p2 m_abv m_apart m_soon m_lift = some rr) : Met l yX11_soonBy wsX11_soonBy rmX11_soonBy (PcW D g N ad C sz [.ref (ad 86), .int p0, .int p1, .int p2]) (QiR sz tP rr) 0 0 (An sz) := by
  refine Met.ofW (cc := cX11_soonBy) (maxL := 4) (ret := (some .int)) (by decide) rfl ?_
  intro p e s m args below meth c s₁ B hml hv
  obtain ⟨hav, hsz, hK, hP⟩ := hv
  subst hsz
  have hx := B.exec
  have hb := B.bytes
  have hr := B.returns
  have hts := atoms_spec (ws := wsX11_soonBy) B.pre
  have hown : s.vm.findClass RX11 = some m.cls := findClass_of_methodNamed B.named
  have hlocks := B.notSynchronized
  generalize hQ : MQ below (QiR s.heap.size tP rr) args s 0 0 (An s.heap.size) = QQ
  have hS : va_S (An s.heap.size) s.heap s.heap [] := va_S.rf
  have hA : ∀ q, s.heap.size ≤ q → (An s.heap.size) q := fun q h => h
  have k0 := hts (.fieldLink RX11 65 "UpDrainModel" "apart" "[I") (List.mem_of_getElem? (i := 1) rfl)
  have nX11 : ∀ w ∈ u_ws RX11 TX11 32, w ∈ wsX11_soonBy := fun _ h => List.mem_cons_of_mem _ (List.mem_append_right _ h)
  have k2 := hts (.fieldLink RX11 143 "UpDrainModel" "lifting" "I") (List.mem_of_getElem? (i := 2) rfl)
  have k3 := hts (.fieldLink RX11 75 "UpDrainModel" "soons" "[I") (List.mem_of_getElem? (i := 3) rfl)
  have k4 := hts (.fieldLink RX11 62 "UpDrainModel" "aboves" "[I") (List.mem_of_getElem? (i := 4) rfl)
  have hE := lg_entry_eq m [.ref (ad 86), .int p0, .int p1, .int p2] 4
  rw [← hav] at hE
  rw [hE]
  have hl := lv_entry [.ref (ad 86), .int p0, .int p1, .int p2] (n := 4) (Nat.le_of_ble_eq_true rfl)
  generalize (lg_sl [.ref (ad 86), .int p0, .int p1, .int p2] ++ List.replicate (4 - (lg_sl [.ref (ad 86), .int p0, .int p1, .int p2]).length) Slot.unset).toArray = ls at hl ⊢
  have hl : lv_has ls 4 [(0, .ref (ad 86)), (1, .int p0), (2, .int p1), (3, .int p2)] := hl
  clear hE
  unfold f_X11_soonBy at hf
  suffices hgo : ∀ (H : Heap) (locs : List Loc), va_P D vwCl (wd N ad C) H → va_S (An s.heap.size) s.heap H locs → W p l e (headSpec wsX11_soonBy rmX11_soonBy).room s m args below meth c H locs 0 0 QQ (F0 m 0 ls []) from hgo s.heap [] hP hS
  clear hS hP
  intro H locs hP hS
  refine lv_aload_n hx hb dX11_soonBy_0 rfl (lv_at hl 0 rfl) ?_
  refine r_get (own := RX11) (T := TX11) (n := 32) (ci := 11) (v := .ref (ad 104)) hx hb hts nX11 hown hK hP (by omega) h86 rfl 26 (by decide) k0 rfl dX11_soonBy_1 ?_
  refine lv_bipush (v := 12) hx hb dX11_soonBy_4 (by decide) ?_
  refine lv_iload_n hx hb dX11_soonBy_6 rfl (lv_at hl 1 rfl) ?_
  refine lv_imul hx hb dX11_soonBy_7 ?_
  refine lv_iload_n hx hb dX11_soonBy_8 rfl (lv_at hl 2 rfl) ?_
  refine lv_iadd hx hb dX11_soonBy_9 ?_
  obtain ⟨i2, x1, ex1, hf⟩ := ri_e hf
  refine r_iald hx hb hK hP (by omega) h104 i2 dX11_soonBy_10 ex1 ?_
  refine lv_aload_n hx hb dX11_soonBy_11 rfl (lv_at hl 0 rfl) ?_
  refine r_get (own := RX11) (T := TX11) (n := 32) (ci := 11) (v := .int m_lift) hx hb hts nX11 hown hK hP (by omega) h86 rfl 18 (by decide) k2 rfl dX11_soonBy_12 ?_
  refine lv_iadd hx hb dX11_soonBy_15 ?_
  refine lv_aload_n hx hb dX11_soonBy_16 rfl (lv_at hl 0 rfl) ?_
  refine r_get (own := RX11) (T := TX11) (n := 32) (ci := 11) (v := .ref (ad 107)) hx hb hts nX11 hown hK hP (by omega) h86 rfl 29 (by decide) k3 rfl dX11_soonBy_17 ?_
  refine lv_bipush (v := 12) hx hb dX11_soonBy_20 (by decide) ?_
  refine lv_iload_n hx hb dX11_soonBy_22 rfl (lv_at hl 3 rfl) ?_
  refine lv_aload_n hx hb dX11_soonBy_23 rfl (lv_at hl 0 rfl) ?_
  refine r_get (own := RX11) (T := TX11) (n := 32) (ci := 11) (v := .ref (ad 103)) hx hb hts nX11 hown hK hP (by omega) h86 rfl 25 (by decide) k4 rfl dX11_soonBy_24 ?_
  refine lv_iload_n hx hb dX11_soonBy_27 rfl (lv_at hl 2 rfl) ?_
  obtain ⟨i4, x3, ex3, hf⟩ := ri_e hf
  refine r_iald hx hb hK hP (by omega) h103 i4 dX11_soonBy_28 ex3 ?_
  refine lv_iand hx hb dX11_soonBy_29 ?_
  refine lv_imul hx hb dX11_soonBy_30 ?_
  refine lv_iload_n hx hb dX11_soonBy_31 rfl (lv_at hl 2 rfl) ?_
  refine lv_iadd hx hb dX11_soonBy_32 ?_
  obtain ⟨i6, x5, ex5, hf⟩ := ri_e hf
  refine r_iald hx hb hK hP (by omega) h107 i6 dX11_soonBy_33 ex5 ?_
  refine lv_aload_n hx hb dX11_soonBy_34 rfl (lv_at hl 0 rfl) ?_
  refine r_get (own := RX11) (T := TX11) (n := 32) (ci := 11) (v := .ref (ad 107)) hx hb hts nX11 hown hK hP (by omega) h86 rfl 29 (by decide) k3 rfl dX11_soonBy_35 ?_
  refine lv_bipush (v := 12) hx hb dX11_soonBy_38 (by decide) ?_
  refine lv_iload_n hx hb dX11_soonBy_40 rfl (lv_at hl 3 rfl) ?_
  refine lv_aload_n hx hb dX11_soonBy_41 rfl (lv_at hl 0 rfl) ?_
  refine r_get (own := RX11) (T := TX11) (n := 32) (ci := 11) (v := .ref (ad 103)) hx hb hts nX11 hown hK hP (by omega) h86 rfl 25 (by decide) k4 rfl dX11_soonBy_42 ?_
  refine lv_iload_n hx hb dX11_soonBy_45 rfl (lv_at hl 2 rfl) ?_
  obtain ⟨i8, x7, ex7, hf⟩ := ri_e hf
  refine r_iald hx hb hK hP (by omega) h103 i8 dX11_soonBy_46 ex7 ?_
  refine lv_iconst (v := (-1)) hx hb dX11_soonBy_47 (by decide) ?_
  refine lv_ixor hx hb dX11_soonBy_48 ?_
  refine lv_iand hx hb dX11_soonBy_49 ?_
  refine lv_imul hx hb dX11_soonBy_50 ?_
  refine lv_iload_n hx hb dX11_soonBy_51 rfl (lv_at hl 2 rfl) ?_
  refine lv_iadd hx hb dX11_soonBy_52 ?_
  obtain ⟨i10, x9, ex9, hf⟩ := ri_e hf
  refine r_iald hx hb hK hP (by omega) h107 i10 dX11_soonBy_53 ex9 ?_
  obtain ⟨q11, hq11, hf⟩ := bd_e hf
  refine k_iR (va_runS (As := [.int x5, .int x9]) (rest := [.int (x1 + m_lift)]) ⟨hx, hb, hml, hown, hts⟩ (c_X11_greater (l := l) (sz := H.size) (p0 := x5) (p1 := x9) hq11) (va_cwS 2 hts gX11_soonBy_X11_greater rfl rfl rfl (by decide +kernel) ⟨Nat.le_of_ble_eq_true rfl, Nat.le_of_ble_eq_true rfl⟩) preS0 rfl rfl hl.1 rfl (lv_room (Nat.le_of_ble_eq_true rfl)) dX11_soonBy_54 ⟨Nat.le_of_ble_eq_true rfl, Nat.le_of_ble_eq_true rfl⟩) hA hP hS (fun H locs hP hS hbz_q11 => ?_)
  refine lv_iadd hx hb dX11_soonBy_57 ?_
  obtain rfl := Option.some.inj hf
  rw [← hQ]
  exact e_iR hx hb hr rfl (tP_i _) hS hlocks dX11_soonBy_58

def LX11_laySoon_15 (x2 : Int32) (ko : Int32 → (Nat → Int32) → Option ((Nat → Int32) × (Nat → Int32) × (Nat → Int32))) : Nat → Int32 → (Nat → Int32) → Option ((Nat → Int32) × (Nat → Int32) × (Nat → Int32))
  | 0, _, _ => none
  | n + 1, x7, f8 =>
    if 12 ≤ x7 then
      ko x7 f8
    else
      (f_X11_many x2).bind fun q12 =>
      (if 2 ≤ q12 then
        some (268435456)
      else
        some (0) : Option (Int32)).bind fun q13 =>
      wi f8 49152 (((12 * x2) + x7)) (q13) fun f14 =>
      lt (x7 + 1 : Int32) fun x16 =>
      LX11_laySoon_15 x2 ko n x16 f14
theorem LX11_laySoon_15_z (x2 : Int32) (ko : Int32 → (Nat → Int32) → Option ((Nat → Int32) × (Nat → Int32) × (Nat → Int32))) (x7 : Int32) (f8 : Nat → Int32) : LX11_laySoon_15 x2 ko 0 x7 f8 = none := rfl
theorem LX11_laySoon_15_s (x2 : Int32) (ko : Int32 → (Nat → Int32) → Option ((Nat → Int32) × (Nat → Int32) × (Nat → Int32))) (n : Nat) (x7 : Int32) (f8 : Nat → Int32) : LX11_laySoon_15 x2 ko (n + 1) x7 f8 =
    if 12 ≤ x7 then
      ko x7 f8
    else
      (f_X11_many x2).bind fun q12 =>
      (if 2 ≤ q12 then
        some (268435456)
      else
        some (0) : Option (Int32)).bind fun q13 =>
      wi f8 49152 (((12 * x2) + x7)) (q13) fun f14 =>
      lt (x7 + 1 : Int32) fun x16 =>
      LX11_laySoon_15 x2 ko n x16 f14 := rfl
def LX11_laySoon_55 (p0 : Int32) (m_there : Int32) (m_lift : Int32) (q1 : (Nat → Int32) × (Nat → Int32)) (x2 : Int32) (ko : Int32 → (Nat → Int32) → Option ((Nat → Int32) × (Nat → Int32) × (Nat → Int32))) : Nat → Int32 → (Nat → Int32) → Option ((Nat → Int32) × (Nat → Int32) × (Nat → Int32))
  | 0, _, _ => none
  | n + 1, x18, f19 =>
    if 144 ≤ x18 then
      ko x18 f19
    else
      (f_X11_many x2).bind fun q23 =>
      if q23 ≤ 1 then
        ko x18 f19
      else
        if (x2 &&& (p0 ^^^ (-1))) = 0 then
          nz (12) <|
          lt ((x18 / 12) : Int32) fun x27 =>
          nz (12) <|
          lt ((x18 - x18 / 12 * 12) : Int32) fun x29 =>
          (f_X11_parts x27 x2 q1.1 m_there).bind fun q30 =>
          (if q30 = 0 then
            some (f19)
          else
            (f_X11_soonBy x29 x27 x2 q1.1 q1.2 f19 m_lift).bind fun q34 =>
            ri f19 49152 (((12 * x2) + x29)) fun x35 =>
            (if x35 ≤ q34 then
              ri f19 49152 (((12 * x2) + x29)) fun x41 =>
              some (x41)
            else
              some (q34) : Option (Int32)).bind fun q37 =>
            wi f19 49152 (((12 * x2) + x29)) (q37) fun f38 =>
            some (f38) : Option ((Nat → Int32))).bind fun q31 =>
          lt (x18 + 1 : Int32) fun x32 =>
          LX11_laySoon_55 p0 m_there m_lift q1 x2 ko n x32 q31
        else
          ko x18 f19
theorem LX11_laySoon_55_z (p0 : Int32) (m_there : Int32) (m_lift : Int32) (q1 : (Nat → Int32) × (Nat → Int32)) (x2 : Int32) (ko : Int32 → (Nat → Int32) → Option ((Nat → Int32) × (Nat → Int32) × (Nat → Int32))) (x18 : Int32) (f19 : Nat → Int32) : LX11_laySoon_55 p0 m_there m_lift q1 x2 ko 0 x18 f19 = none := rfl
theorem LX11_laySoon_55_s (p0 : Int32) (m_there : Int32) (m_lift : Int32) (q1 : (Nat → Int32) × (Nat → Int32)) (x2 : Int32) (ko : Int32 → (Nat → Int32) → Option ((Nat → Int32) × (Nat → Int32) × (Nat → Int32))) (n : Nat) (x18 : Int32) (f19 : Nat → Int32) : LX11_laySoon_55 p0 m_there m_lift q1 x2 ko (n + 1) x18 f19 =
    if 144 ≤ x18 then
      ko x18 f19
    else
      (f_X11_many x2).bind fun q23 =>
      if q23 ≤ 1 then
        ko x18 f19
      else
        if (x2 &&& (p0 ^^^ (-1))) = 0 then
          nz (12) <|
          lt ((x18 / 12) : Int32) fun x27 =>
          nz (12) <|
          lt ((x18 - x18 / 12 * 12) : Int32) fun x29 =>
          (f_X11_parts x27 x2 q1.1 m_there).bind fun q30 =>
          (if q30 = 0 then
            some (f19)
          else
            (f_X11_soonBy x29 x27 x2 q1.1 q1.2 f19 m_lift).bind fun q34 =>
            ri f19 49152 (((12 * x2) + x29)) fun x35 =>
            (if x35 ≤ q34 then
              ri f19 49152 (((12 * x2) + x29)) fun x41 =>
              some (x41)
            else
              some (q34) : Option (Int32)).bind fun q37 =>
            wi f19 49152 (((12 * x2) + x29)) (q37) fun f38 =>
            some (f38) : Option ((Nat → Int32))).bind fun q31 =>
          lt (x18 + 1 : Int32) fun x32 =>
          LX11_laySoon_55 p0 m_there m_lift q1 x2 ko n x32 q31
        else
          ko x18 f19 := rfl
def LX11_laySoon_6 (p0 : Int32) (m_there : Int32) (m_lift : Int32) (q1 : (Nat → Int32) × (Nat → Int32)) (ko : Int32 → (Nat → Int32) → Option ((Nat → Int32) × (Nat → Int32) × (Nat → Int32))) : Nat → Int32 → (Nat → Int32) → Option ((Nat → Int32) × (Nat → Int32) × (Nat → Int32))
  | 0, _, _ => none
  | n + 1, x2, f3 =>
    if 4096 ≤ x2 then
      ko x2 f3
    else
      LX11_laySoon_15 x2 (fun x9 f10 =>
        LX11_laySoon_55 p0 m_there m_lift q1 x2 (fun x20 f21 =>
          lt (x2 + 1 : Int32) fun x43 =>
          LX11_laySoon_6 p0 m_there m_lift q1 ko n x43 f21) FU 0 f10) FU 0 f3
theorem LX11_laySoon_6_z (p0 : Int32) (m_there : Int32) (m_lift : Int32) (q1 : (Nat → Int32) × (Nat → Int32)) (ko : Int32 → (Nat → Int32) → Option ((Nat → Int32) × (Nat → Int32) × (Nat → Int32))) (x2 : Int32) (f3 : Nat → Int32) : LX11_laySoon_6 p0 m_there m_lift q1 ko 0 x2 f3 = none := rfl
theorem LX11_laySoon_6_s (p0 : Int32) (m_there : Int32) (m_lift : Int32) (q1 : (Nat → Int32) × (Nat → Int32)) (ko : Int32 → (Nat → Int32) → Option ((Nat → Int32) × (Nat → Int32) × (Nat → Int32))) (n : Nat) (x2 : Int32) (f3 : Nat → Int32) : LX11_laySoon_6 p0 m_there m_lift q1 ko (n + 1) x2 f3 =
    if 4096 ≤ x2 then
      ko x2 f3
    else
      LX11_laySoon_15 x2 (fun x9 f10 =>
        LX11_laySoon_55 p0 m_there m_lift q1 x2 (fun x20 f21 =>
          lt (x2 + 1 : Int32) fun x43 =>
          LX11_laySoon_6 p0 m_there m_lift q1 ko n x43 f21) FU 0 f10) FU 0 f3 := rfl
def f_X11_laySoon (p0 : Int32) (m_down : Nat → Int32) (m_walk : Nat → Int32) (m_abv : Nat → Int32) (m_apart : Nat → Int32) (m_soon : Nat → Int32) (m_there : Int32) (m_lift : Int32) : Option ((Nat → Int32) × (Nat → Int32) × (Nat → Int32)) :=
  (f_X11_layWays m_down m_walk m_abv m_apart m_there).bind fun q1 =>
  LX11_laySoon_6 p0 m_there m_lift q1 (fun x4 f5 =>
    some (q1.1, q1.2, f5)) FU 0 m_soon
abbrev rmX11_laySoon : Room := { frames := 3, cells := 0, slots := 0, locals := 70 }
set_option maxHeartbeats 4000000 in
set_option maxRecDepth 100000 in
theorem c_X11_laySoon {l : Launch} {D : va_G} {g : Nat → ClassId} {N : Nat} {ad : Nat → Nat} {C : Nat → va_E} {sz : Nat} {m_len : Int32} {m_rm : Int32} {m_there : Int32} {m_lift : Int32} {m_blank : Int32} {m_fm : Int32} {m_at : Int32} {m_pl : Int32} {m_end : Int32} {m_seed : Int32} {m_down : Nat → Int32} {m_walk : Nat → Int32} {m_abv : Nat → Int32} {m_apart : Nat → Int32} {m_soon : Nat → Int32} {p0 : Int32} {rr : (Nat → Int32) × (Nat → Int32) × (Nat → Int32)} (hN : 109 ≤ N) (hI : Inj N ad) (h86 : C 86 = .inr (11, [.ref (ad 87), .int m_len, .ref (ad 88), .int m_rm, .int m_there, .ref (ad 89), .ref (ad 90), .ref (ad 91), .ref (ad 92), .ref (ad 93), .ref (ad 94), .ref (ad 95), .ref (ad 96), .ref (ad 97), .ref (ad 98), .ref (ad 99), .ref (ad 100), .ref (ad 101), .int m_lift, .int m_blank, .ref (ad 102), .int m_fm, .int m_at, .int m_pl, .int m_end, .ref (ad 103), .ref (ad 104), .ref (ad 105), .ref (ad 106), .ref (ad 107), .ref (ad 108), .int m_seed])) (h89 : C 89 = aI g 12 m_down) (h91 : C 91 = aI g 12 m_walk) (h103 : C 103 = aI g 12 m_abv) (h104 : C 104 = aI g 144 m_apart) (h107 : C 107 = aI g 49152 m_soon) (hf : f_X11_laySoon p0 m_down m_walk m_abv m_apart m_soon m_there m_lift = some rr) : Met l yX11_laySoon wsX11_laySoon rmX11_laySoon (PcW D g N ad C sz [.ref (ad 86), .int p0]) (QvW D N ad sz (fun C' => (∀ i : Nat, i ≠ 103 ∧ i ≠ 104 ∧ i ≠ 107 → C' i = C i) ∧ (C' 103 = aI g 12 rr.1) ∧ (C' 104 = aI g 144 rr.2.1) ∧ (C' 107 = aI g 49152 rr.2.2))) 0 0 (Aw N ad sz) := by
  refine Met.ofW (cc := cX11_laySoon) (maxL := 7) (ret := none) (by decide) rfl ?_
  intro p e s m args below meth c s₁ B hml hv
  obtain ⟨hav, hsz, hK, hP⟩ := hv
  subst hsz
  have hx := B.exec
  have hb := B.bytes
  have hr := B.returns
  have hts := atoms_spec (ws := wsX11_laySoon) B.pre
  have hown : s.vm.findClass RX11 = some m.cls := findClass_of_methodNamed B.named
  have hlocks := B.notSynchronized
  generalize hQ : MQ below (QvW D N ad s.heap.size (fun C' => (∀ i : Nat, i ≠ 103 ∧ i ≠ 104 ∧ i ≠ 107 → C' i = C i) ∧ (C' 103 = aI g 12 rr.1) ∧ (C' 104 = aI g 144 rr.2.1) ∧ (C' 107 = aI g 49152 rr.2.2))) args s 0 0 (Aw N ad s.heap.size) = QQ
  have hS : va_S (Aw N ad s.heap.size) s.heap s.heap [] := va_S.rf
  have hA : ∀ q, s.heap.size ≤ q → (Aw N ad s.heap.size) q := fun q h => Or.inr h
  have hAd : ∀ j : Nat, j < N → (Aw N ad s.heap.size) (ad j) := fun j h => Or.inl ⟨j, h, rfl⟩
  obtain ⟨C0, hC0⟩ : ∃ C0 : Nat → va_E, C0 = C := ⟨_, rfl⟩
  have hag : ∀ i : Nat, i ≠ 103 ∧ i ≠ 104 ∧ i ≠ 107 → C i = C0 i := fun i _ => by rw [hC0]
  rw [← hC0] at hQ
  have k0 := hts (.fieldLink RX11 75 "UpDrainModel" "soons" "[I") (List.mem_of_getElem? (i := 1) rfl)
  have nX11 : ∀ w ∈ u_ws RX11 TX11 32, w ∈ wsX11_laySoon := fun _ h => List.mem_cons_of_mem _ (List.mem_append_right _ h)
  have k2 := hts (.constant RX11 263 (268435456)) (List.mem_of_getElem? (i := 2) rfl)
  have hE := lg_entry_eq m [.ref (ad 86), .int p0] 7
  rw [← hav] at hE
  rw [hE]
  have hl := lv_entry [.ref (ad 86), .int p0] (n := 7) (Nat.le_of_ble_eq_true rfl)
  generalize (lg_sl [.ref (ad 86), .int p0] ++ List.replicate (7 - (lg_sl [.ref (ad 86), .int p0]).length) Slot.unset).toArray = ls at hl ⊢
  have hl : lv_has ls 7 [(0, .ref (ad 86)), (1, .int p0)] := hl
  clear hE
  unfold f_X11_laySoon at hf
  suffices hgo : ∀ (H : Heap) (locs : List Loc), va_P D vwCl (wd N ad C) H → va_S (Aw N ad s.heap.size) s.heap H locs → W p l e (headSpec wsX11_laySoon rmX11_laySoon).room s m args below meth c H locs 0 0 QQ (F0 m 0 ls []) from hgo s.heap [] hP hS
  clear hS hP
  intro H locs hP hS
  refine lv_aload_n hx hb dX11_laySoon_0 rfl (lv_at hl 0 rfl) ?_
  obtain ⟨q1, hq1, hf⟩ := bd_e hf
  refine k_vW (va_runV (C := RX11) (As := []) (rest := []) ⟨hx, hb, hml, hown, hts⟩ (c_X11_layWays (l := l) (sz := H.size)  hN hI h86 h89 h91 h103 h104 hq1) (cwV 0 hts gX11_laySoon_X11_layWays rfl rfl rfl (by decide +kernel) ⟨Nat.le_of_ble_eq_true rfl, Nat.le_of_ble_eq_true rfl⟩) (preV_of hK hP (by omega) h86 rfl) rfl rfl hl.1 rfl (lv_room (Nat.le_of_ble_eq_true rfl)) dX11_laySoon_1 ⟨Nat.le_of_ble_eq_true rfl, Nat.le_of_ble_eq_true rfl⟩) hA hAd hS (fun C H locs hP hS hpo => ?_)
  obtain ⟨he, h103, h104⟩ := hpo
  have hag : ∀ i : Nat, i ≠ 103 ∧ i ≠ 104 ∧ i ≠ 107 → C i = C0 i := fun i h => (he i (by omega)).trans (hag i h)
  have h86 := (he 86 (by decide)).trans h86
  have h89 := (he 89 (by decide)).trans h89
  have h91 := (he 91 (by decide)).trans h91
  have h107 := (he 107 (by decide)).trans h107
  refine lv_iconst (v := 0) hx hb dX11_laySoon_4 (by decide) ?_
  refine lv_istore_n (lv' := [(2, .int 0), (0, .ref (ad 86)), (1, .int p0)]) hx hb dX11_laySoon_5 rfl hl (by decide) rfl (fun ls hl => ?_)
  have key6 : ∀ (ko : Int32 → (Nat → Int32) → Option ((Nat → Int32) × (Nat → Int32) × (Nat → Int32))), (∀ (x4 : Int32) (f5 : Nat → Int32) (C : Nat → va_E) (H : Heap) (locs : List Loc) (ls : Array Slot), va_P D vwCl (wd N ad C) H → va_S (Aw N ad s.heap.size) s.heap H locs → (∀ i : Nat, i ≠ 103 ∧ i ≠ 104 ∧ i ≠ 107 → C i = C0 i) → C 86 = .inr (11, [.ref (ad 87), .int m_len, .ref (ad 88), .int m_rm, .int m_there, .ref (ad 89), .ref (ad 90), .ref (ad 91), .ref (ad 92), .ref (ad 93), .ref (ad 94), .ref (ad 95), .ref (ad 96), .ref (ad 97), .ref (ad 98), .ref (ad 99), .ref (ad 100), .ref (ad 101), .int m_lift, .int m_blank, .ref (ad 102), .int m_fm, .int m_at, .int m_pl, .int m_end, .ref (ad 103), .ref (ad 104), .ref (ad 105), .ref (ad 106), .ref (ad 107), .ref (ad 108), .int m_seed]) → C 89 = aI g 12 m_down → C 91 = aI g 12 m_walk → C 103 = aI g 12 q1.1 → C 104 = aI g 144 q1.2 → C 107 = aI g 49152 f5 → lv_has ls 7 [(0, .ref (ad 86)), (1, .int p0), (2, .int x4)] → ko x4 f5 = some rr → W p l e (headSpec wsX11_laySoon rmX11_laySoon).room s m args below meth c H locs 0 0 QQ (F0 m 169 ls [])) → ∀ (n : Nat) (x2 : Int32) (f3 : Nat → Int32) (C : Nat → va_E) (H : Heap) (locs : List Loc) (ls : Array Slot), va_P D vwCl (wd N ad C) H → va_S (Aw N ad s.heap.size) s.heap H locs → (∀ i : Nat, i ≠ 103 ∧ i ≠ 104 ∧ i ≠ 107 → C i = C0 i) → C 86 = .inr (11, [.ref (ad 87), .int m_len, .ref (ad 88), .int m_rm, .int m_there, .ref (ad 89), .ref (ad 90), .ref (ad 91), .ref (ad 92), .ref (ad 93), .ref (ad 94), .ref (ad 95), .ref (ad 96), .ref (ad 97), .ref (ad 98), .ref (ad 99), .ref (ad 100), .ref (ad 101), .int m_lift, .int m_blank, .ref (ad 102), .int m_fm, .int m_at, .int m_pl, .int m_end, .ref (ad 103), .ref (ad 104), .ref (ad 105), .ref (ad 106), .ref (ad 107), .ref (ad 108), .int m_seed]) → C 89 = aI g 12 m_down → C 91 = aI g 12 m_walk → C 103 = aI g 12 q1.1 → C 104 = aI g 144 q1.2 → C 107 = aI g 49152 f3 → lv_has ls 7 [(0, .ref (ad 86)), (1, .int p0), (2, .int x2)] → LX11_laySoon_6 p0 m_there m_lift q1 ko n x2 f3 = some rr → W p l e (headSpec wsX11_laySoon rmX11_laySoon).room s m args below meth c H locs 0 0 QQ (F0 m 6 ls []) := by
    intro ko hko n
    induction n with
    | zero =>
      intro x2 f3 C H locs ls hP hS hag h86 h89 h91 h103 h104 h107 hl hf
      rw [LX11_laySoon_6_z] at hf
      cases hf
    | succ n ih =>
      intro x2 f3 C H locs ls hP hS hag h86 h89 h91 h103 h104 h107 hl hf
      rw [LX11_laySoon_6_s] at hf
      refine lv_iload_n hx hb dX11_laySoon_6 rfl (lv_at hl 2 rfl) ?_
      refine lv_sipush (v := 4096) hx hb dX11_laySoon_7 (by decide) ?_
      refine lv_icmp_ge (tgt := 169) hx hb dX11_laySoon_10 (by decide) (fun c6 => ?_) (fun c6 => ?_)
      · have hf := it_e c6 hf
        exact hko x2 f3 C H locs ls hP hS hag h86 h89 h91 h103 h104 h107 (lv_sub hl [0, 1, 2] rfl) hf
      · have hf := ie_e c6 hf
        refine lv_iconst (v := 0) hx hb dX11_laySoon_13 (by decide) ?_
        refine lv_istore_n (lv' := [(3, .int 0), (0, .ref (ad 86)), (1, .int p0), (2, .int x2)]) hx hb dX11_laySoon_14 rfl hl (by decide) rfl (fun ls hl => ?_)
        have key15 : ∀ (ko : Int32 → (Nat → Int32) → Option ((Nat → Int32) × (Nat → Int32) × (Nat → Int32))), (∀ (x9 : Int32) (f10 : Nat → Int32) (C : Nat → va_E) (H : Heap) (locs : List Loc) (ls : Array Slot), va_P D vwCl (wd N ad C) H → va_S (Aw N ad s.heap.size) s.heap H locs → (∀ i : Nat, i ≠ 103 ∧ i ≠ 104 ∧ i ≠ 107 → C i = C0 i) → C 86 = .inr (11, [.ref (ad 87), .int m_len, .ref (ad 88), .int m_rm, .int m_there, .ref (ad 89), .ref (ad 90), .ref (ad 91), .ref (ad 92), .ref (ad 93), .ref (ad 94), .ref (ad 95), .ref (ad 96), .ref (ad 97), .ref (ad 98), .ref (ad 99), .ref (ad 100), .ref (ad 101), .int m_lift, .int m_blank, .ref (ad 102), .int m_fm, .int m_at, .int m_pl, .int m_end, .ref (ad 103), .ref (ad 104), .ref (ad 105), .ref (ad 106), .ref (ad 107), .ref (ad 108), .int m_seed]) → C 89 = aI g 12 m_down → C 91 = aI g 12 m_walk → C 103 = aI g 12 q1.1 → C 104 = aI g 144 q1.2 → C 107 = aI g 49152 f10 → lv_has ls 7 [(0, .ref (ad 86)), (1, .int p0), (2, .int x2), (3, .int x9)] → ko x9 f10 = some rr → W p l e (headSpec wsX11_laySoon rmX11_laySoon).room s m args below meth c H locs 0 0 QQ (F0 m 53 ls [])) → ∀ (n : Nat) (x7 : Int32) (f8 : Nat → Int32) (C : Nat → va_E) (H : Heap) (locs : List Loc) (ls : Array Slot), va_P D vwCl (wd N ad C) H → va_S (Aw N ad s.heap.size) s.heap H locs → (∀ i : Nat, i ≠ 103 ∧ i ≠ 104 ∧ i ≠ 107 → C i = C0 i) → C 86 = .inr (11, [.ref (ad 87), .int m_len, .ref (ad 88), .int m_rm, .int m_there, .ref (ad 89), .ref (ad 90), .ref (ad 91), .ref (ad 92), .ref (ad 93), .ref (ad 94), .ref (ad 95), .ref (ad 96), .ref (ad 97), .ref (ad 98), .ref (ad 99), .ref (ad 100), .ref (ad 101), .int m_lift, .int m_blank, .ref (ad 102), .int m_fm, .int m_at, .int m_pl, .int m_end, .ref (ad 103), .ref (ad 104), .ref (ad 105), .ref (ad 106), .ref (ad 107), .ref (ad 108), .int m_seed]) → C 89 = aI g 12 m_down → C 91 = aI g 12 m_walk → C 103 = aI g 12 q1.1 → C 104 = aI g 144 q1.2 → C 107 = aI g 49152 f8 → lv_has ls 7 [(0, .ref (ad 86)), (1, .int p0), (2, .int x2), (3, .int x7)] → LX11_laySoon_15 x2 ko n x7 f8 = some rr → W p l e (headSpec wsX11_laySoon rmX11_laySoon).room s m args below meth c H locs 0 0 QQ (F0 m 15 ls []) := by
          intro ko hko n
          induction n with
          | zero =>
            intro x7 f8 C H locs ls hP hS hag h86 h89 h91 h103 h104 h107 hl hf
            rw [LX11_laySoon_15_z] at hf
            cases hf
          | succ n ih =>
            intro x7 f8 C H locs ls hP hS hag h86 h89 h91 h103 h104 h107 hl hf
            rw [LX11_laySoon_15_s] at hf
            refine lv_iload_n hx hb dX11_laySoon_15 rfl (lv_at hl 3 rfl) ?_
            refine lv_bipush (v := 12) hx hb dX11_laySoon_16 (by decide) ?_
            refine lv_icmp_ge (tgt := 53) hx hb dX11_laySoon_18 (by decide) (fun c11 => ?_) (fun c11 => ?_)
            · have hf := it_e c11 hf
              exact hko x7 f8 C H locs ls hP hS hag h86 h89 h91 h103 h104 h107 (lv_sub hl [0, 1, 2, 3] rfl) hf
            · have hf := ie_e c11 hf
              refine lv_aload_n hx hb dX11_laySoon_21 rfl (lv_at hl 0 rfl) ?_
              refine r_get (own := RX11) (T := TX11) (n := 32) (ci := 11) (v := .ref (ad 107)) hx hb hts nX11 hown hK hP (by omega) h86 rfl 29 (by decide) k0 rfl dX11_laySoon_22 ?_
              refine lv_bipush (v := 12) hx hb dX11_laySoon_25 (by decide) ?_
              refine lv_iload_n hx hb dX11_laySoon_27 rfl (lv_at hl 2 rfl) ?_
              refine lv_imul hx hb dX11_laySoon_28 ?_
              refine lv_iload_n hx hb dX11_laySoon_29 rfl (lv_at hl 3 rfl) ?_
              refine lv_iadd hx hb dX11_laySoon_30 ?_
              refine lv_iload_n hx hb dX11_laySoon_31 rfl (lv_at hl 2 rfl) ?_
              obtain ⟨q12, hq12, hf⟩ := bd_e hf
              refine k_iR (va_runS (As := [.int x2]) (rest := [.int ((12 * x2) + x7), .ref (ad 107)]) ⟨hx, hb, hml, hown, hts⟩ (c_X11_many (l := l) (sz := H.size) (p0 := x2) hq12) (va_cwS 1 hts gX11_laySoon_X11_many rfl rfl rfl (by decide +kernel) ⟨Nat.le_of_ble_eq_true rfl, Nat.le_of_ble_eq_true rfl⟩) preS0 rfl rfl hl.1 rfl (lv_room (Nat.le_of_ble_eq_true rfl)) dX11_laySoon_32 ⟨Nat.le_of_ble_eq_true rfl, Nat.le_of_ble_eq_true rfl⟩) hA hP hS (fun H locs hP hS hbz_q12 => ?_)
              refine lv_iconst (v := 2) hx hb dX11_laySoon_35 (by decide) ?_
              obtain ⟨q13, htq13, hf⟩ := bd_e hf
              have jnq13 : ∀ (C : Nat → va_E) (H : Heap) (locs : List Loc) (ls : Array Slot), va_P D vwCl (wd N ad C) H → va_S (Aw N ad s.heap.size) s.heap H locs → (∀ i : Nat, i ≠ 103 ∧ i ≠ 104 ∧ i ≠ 107 → C i = C0 i) → C 86 = .inr (11, [.ref (ad 87), .int m_len, .ref (ad 88), .int m_rm, .int m_there, .ref (ad 89), .ref (ad 90), .ref (ad 91), .ref (ad 92), .ref (ad 93), .ref (ad 94), .ref (ad 95), .ref (ad 96), .ref (ad 97), .ref (ad 98), .ref (ad 99), .ref (ad 100), .ref (ad 101), .int m_lift, .int m_blank, .ref (ad 102), .int m_fm, .int m_at, .int m_pl, .int m_end, .ref (ad 103), .ref (ad 104), .ref (ad 105), .ref (ad 106), .ref (ad 107), .ref (ad 108), .int m_seed]) → C 89 = aI g 12 m_down → C 91 = aI g 12 m_walk → C 103 = aI g 12 q1.1 → C 104 = aI g 144 q1.2 → C 107 = aI g 49152 f8 → lv_has ls 7 [(0, .ref (ad 86)), (1, .int p0), (2, .int x2), (3, .int x7)] → W p l e (headSpec wsX11_laySoon rmX11_laySoon).room s m args below meth c H locs 0 0 QQ (F0 m 46 ls [.int q13, .int ((12 * x2) + x7), .ref (ad 107)]) := by
                intro C H locs ls hP hS hag h86 h89 h91 h103 h104 h107 hl
                obtain ⟨i15, f14, ef14, hf⟩ := wi_e hf
                refine r_iast hx hb hK hI hAd hP hS (by omega) h107 i15 dX11_laySoon_46 ef14 (fun C H locs hP hS he hn => ?_)
                have hag : ∀ i : Nat, i ≠ 103 ∧ i ≠ 104 ∧ i ≠ 107 → C i = C0 i := fun i h => (he i (by omega)).trans (hag i h)
                have h86 := (he 86 (by decide)).trans h86
                have h89 := (he 89 (by decide)).trans h89
                have h91 := (he 91 (by decide)).trans h91
                have h103 := (he 103 (by decide)).trans h103
                have h104 := (he 104 (by decide)).trans h104
                have h107 : C 107 = aI g 49152 f14 := hn
                obtain ⟨x16, ex16, hf⟩ := lt_e hf
                refine lv_iinc (v := x16) (lv' := [(3, .int x16), (0, .ref (ad 86)), (1, .int p0), (2, .int x2)]) hx hb dX11_laySoon_47 hl (k := 3) rfl (by rw [ex16]; rfl) (by decide) rfl (fun ls hl => ?_)
                refine lv_goto (tgt := 15) hx hb dX11_laySoon_50 (by decide) ?_
                exact ih x16 f14 C H locs ls hP hS hag h86 h89 h91 h103 h104 h107 (lv_sub hl [1, 2, 3, 0] rfl) hf
              clear hf
              have hf := htq13
              refine lv_icmp_ge (tgt := 43) hx hb dX11_laySoon_36 (by decide) (fun c17 => ?_) (fun c17 => ?_)
              · have hf := it_e c17 hf
                refine lv_ldcw (own := RX11) hx hb hown k2 dX11_laySoon_43 ?_
                obtain rfl := Option.some.inj hf
                exact jnq13 C H locs ls hP hS hag h86 h89 h91 h103 h104 h107 (lv_sub hl [0, 1, 2, 3] rfl)
              · have hf := ie_e c17 hf
                refine lv_iconst (v := 0) hx hb dX11_laySoon_39 (by decide) ?_
                refine lv_goto (tgt := 46) hx hb dX11_laySoon_40 (by decide) ?_
                obtain rfl := Option.some.inj hf
                exact jnq13 C H locs ls hP hS hag h86 h89 h91 h103 h104 h107 (lv_sub hl [0, 1, 2, 3] rfl)
        refine key15 _ (fun x9 f10 C H locs ls hP hS hag h86 h89 h91 h103 h104 h107 hl hf => ?_) FU 0 f3 C H locs ls hP hS hag h86 h89 h91 h103 h104 h107 (lv_sub hl [1, 2, 3, 0] rfl) hf
        refine lv_iconst (v := 0) hx hb dX11_laySoon_53 (by decide) ?_
        refine lv_istore_n (lv' := [(3, .int 0), (0, .ref (ad 86)), (1, .int p0), (2, .int x2)]) hx hb dX11_laySoon_54 rfl hl (by decide) rfl (fun ls hl => ?_)
        have key55 : ∀ (ko : Int32 → (Nat → Int32) → Option ((Nat → Int32) × (Nat → Int32) × (Nat → Int32))), (∀ (x20 : Int32) (f21 : Nat → Int32) (C : Nat → va_E) (H : Heap) (locs : List Loc) (ls : Array Slot), va_P D vwCl (wd N ad C) H → va_S (Aw N ad s.heap.size) s.heap H locs → (∀ i : Nat, i ≠ 103 ∧ i ≠ 104 ∧ i ≠ 107 → C i = C0 i) → C 86 = .inr (11, [.ref (ad 87), .int m_len, .ref (ad 88), .int m_rm, .int m_there, .ref (ad 89), .ref (ad 90), .ref (ad 91), .ref (ad 92), .ref (ad 93), .ref (ad 94), .ref (ad 95), .ref (ad 96), .ref (ad 97), .ref (ad 98), .ref (ad 99), .ref (ad 100), .ref (ad 101), .int m_lift, .int m_blank, .ref (ad 102), .int m_fm, .int m_at, .int m_pl, .int m_end, .ref (ad 103), .ref (ad 104), .ref (ad 105), .ref (ad 106), .ref (ad 107), .ref (ad 108), .int m_seed]) → C 89 = aI g 12 m_down → C 91 = aI g 12 m_walk → C 103 = aI g 12 q1.1 → C 104 = aI g 144 q1.2 → C 107 = aI g 49152 f21 → lv_has ls 7 [(0, .ref (ad 86)), (1, .int p0), (2, .int x2), (3, .int x20)] → ko x20 f21 = some rr → W p l e (headSpec wsX11_laySoon rmX11_laySoon).room s m args below meth c H locs 0 0 QQ (F0 m 163 ls [])) → ∀ (n : Nat) (x18 : Int32) (f19 : Nat → Int32) (C : Nat → va_E) (H : Heap) (locs : List Loc) (ls : Array Slot), va_P D vwCl (wd N ad C) H → va_S (Aw N ad s.heap.size) s.heap H locs → (∀ i : Nat, i ≠ 103 ∧ i ≠ 104 ∧ i ≠ 107 → C i = C0 i) → C 86 = .inr (11, [.ref (ad 87), .int m_len, .ref (ad 88), .int m_rm, .int m_there, .ref (ad 89), .ref (ad 90), .ref (ad 91), .ref (ad 92), .ref (ad 93), .ref (ad 94), .ref (ad 95), .ref (ad 96), .ref (ad 97), .ref (ad 98), .ref (ad 99), .ref (ad 100), .ref (ad 101), .int m_lift, .int m_blank, .ref (ad 102), .int m_fm, .int m_at, .int m_pl, .int m_end, .ref (ad 103), .ref (ad 104), .ref (ad 105), .ref (ad 106), .ref (ad 107), .ref (ad 108), .int m_seed]) → C 89 = aI g 12 m_down → C 91 = aI g 12 m_walk → C 103 = aI g 12 q1.1 → C 104 = aI g 144 q1.2 → C 107 = aI g 49152 f19 → lv_has ls 7 [(0, .ref (ad 86)), (1, .int p0), (2, .int x2), (3, .int x18)] → LX11_laySoon_55 p0 m_there m_lift q1 x2 ko n x18 f19 = some rr → W p l e (headSpec wsX11_laySoon rmX11_laySoon).room s m args below meth c H locs 0 0 QQ (F0 m 55 ls []) := by
          intro ko hko n
          induction n with
          | zero =>
            intro x18 f19 C H locs ls hP hS hag h86 h89 h91 h103 h104 h107 hl hf
            rw [LX11_laySoon_55_z] at hf
            cases hf
          | succ n ih =>
            intro x18 f19 C H locs ls hP hS hag h86 h89 h91 h103 h104 h107 hl hf
            rw [LX11_laySoon_55_s] at hf
            refine lv_iload_n hx hb dX11_laySoon_55 rfl (lv_at hl 3 rfl) ?_
            refine lv_sipush (v := 144) hx hb dX11_laySoon_56 (by decide) ?_
            refine lv_icmp_ge (tgt := 163) hx hb dX11_laySoon_59 (by decide) (fun c22 => ?_) (fun c22 => ?_)
            · have hf := it_e c22 hf
              exact hko x18 f19 C H locs ls hP hS hag h86 h89 h91 h103 h104 h107 (lv_sub hl [0, 1, 2, 3] rfl) hf
            · have hf := ie_e c22 hf
              refine lv_iload_n hx hb dX11_laySoon_62 rfl (lv_at hl 2 rfl) ?_
              obtain ⟨q23, hq23, hf⟩ := bd_e hf
              refine k_iR (va_runS (As := [.int x2]) (rest := []) ⟨hx, hb, hml, hown, hts⟩ (c_X11_many (l := l) (sz := H.size) (p0 := x2) hq23) (va_cwS 1 hts gX11_laySoon_X11_many rfl rfl rfl (by decide +kernel) ⟨Nat.le_of_ble_eq_true rfl, Nat.le_of_ble_eq_true rfl⟩) preS0 rfl rfl hl.1 rfl (lv_room (Nat.le_of_ble_eq_true rfl)) dX11_laySoon_63 ⟨Nat.le_of_ble_eq_true rfl, Nat.le_of_ble_eq_true rfl⟩) hA hP hS (fun H locs hP hS hbz_q23 => ?_)
              refine lv_iconst (v := 1) hx hb dX11_laySoon_66 (by decide) ?_
              refine lv_icmp_le (tgt := 163) hx hb dX11_laySoon_67 (by decide) (fun c24 => ?_) (fun c24 => ?_)
              · have hf := it_e c24 hf
                exact hko x18 f19 C H locs ls hP hS hag h86 h89 h91 h103 h104 h107 (lv_sub hl [0, 1, 2, 3] rfl) hf
              · have hf := ie_e c24 hf
                refine lv_iload_n hx hb dX11_laySoon_70 rfl (lv_at hl 2 rfl) ?_
                refine lv_iload_n hx hb dX11_laySoon_71 rfl (lv_at hl 1 rfl) ?_
                refine lv_iconst (v := (-1)) hx hb dX11_laySoon_72 (by decide) ?_
                refine lv_ixor hx hb dX11_laySoon_73 ?_
                refine lv_iand hx hb dX11_laySoon_74 ?_
                refine lv_if_ne (tgt := 163) hx hb dX11_laySoon_75 (by decide) (fun c25 => ?_) (fun c25 => ?_)
                · have hf := ie_e c25 hf
                  exact hko x18 f19 C H locs ls hP hS hag h86 h89 h91 h103 h104 h107 (lv_sub hl [0, 1, 2, 3] rfl) hf
                · have hf := it_e c25 hf
                  refine lv_iload_n hx hb dX11_laySoon_78 rfl (lv_at hl 3 rfl) ?_
                  refine lv_bipush (v := 12) hx hb dX11_laySoon_79 (by decide) ?_
                  obtain ⟨z26, hf⟩ := nz_e hf
                  refine lv_idiv hx hb dX11_laySoon_81 z26 ?_
                  obtain ⟨x27, ex27, hf⟩ := lt_e hf
                  refine tp_i ex27 ?_
                  refine lv_istore (lv' := [(4, .int x27), (0, .ref (ad 86)), (1, .int p0), (2, .int x2), (3, .int x18)]) hx hb dX11_laySoon_82 hl (by decide) rfl (fun ls hl => ?_)
                  refine lv_iload_n hx hb dX11_laySoon_84 rfl (lv_at hl 4 rfl) ?_
                  refine lv_bipush (v := 12) hx hb dX11_laySoon_85 (by decide) ?_
                  obtain ⟨z28, hf⟩ := nz_e hf
                  refine lv_irem hx hb dX11_laySoon_87 z28 ?_
                  obtain ⟨x29, ex29, hf⟩ := lt_e hf
                  refine tp_i ex29 ?_
                  refine lv_istore (lv' := [(5, .int x29), (4, .int x27), (0, .ref (ad 86)), (1, .int p0), (2, .int x2), (3, .int x18)]) hx hb dX11_laySoon_88 hl (by decide) rfl (fun ls hl => ?_)
                  refine lv_aload_n hx hb dX11_laySoon_90 rfl (lv_at hl 2 rfl) ?_
                  refine lv_iload hx hb dX11_laySoon_91 (lv_at hl 1 rfl) ?_
                  refine lv_iload_n hx hb dX11_laySoon_93 rfl (lv_at hl 4 rfl) ?_
                  obtain ⟨q30, hq30, hf⟩ := bd_e hf
                  refine k_iR (va_runV (C := RX11) (As := [.int x27, .int x2]) (rest := []) ⟨hx, hb, hml, hown, hts⟩ (c_X11_parts (l := l) (sz := H.size) (p0 := x27) (p1 := x2) hN h86 h103 hq30) (cwV 2 hts gX11_laySoon_X11_parts rfl rfl rfl (by decide +kernel) ⟨Nat.le_of_ble_eq_true rfl, Nat.le_of_ble_eq_true rfl⟩) (preV_of hK hP (by omega) h86 rfl) rfl rfl hl.1 rfl (lv_room (Nat.le_of_ble_eq_true rfl)) dX11_laySoon_94 ⟨Nat.le_of_ble_eq_true rfl, Nat.le_of_ble_eq_true rfl⟩) hA hP hS (fun H locs hP hS hbz_q30 => ?_)
                  obtain ⟨q31, htq31, hf⟩ := bd_e hf
                  have jnq31 : ∀ (C : Nat → va_E) (H : Heap) (locs : List Loc) (ls : Array Slot), va_P D vwCl (wd N ad C) H → va_S (Aw N ad s.heap.size) s.heap H locs → (∀ i : Nat, i ≠ 103 ∧ i ≠ 104 ∧ i ≠ 107 → C i = C0 i) → C 86 = .inr (11, [.ref (ad 87), .int m_len, .ref (ad 88), .int m_rm, .int m_there, .ref (ad 89), .ref (ad 90), .ref (ad 91), .ref (ad 92), .ref (ad 93), .ref (ad 94), .ref (ad 95), .ref (ad 96), .ref (ad 97), .ref (ad 98), .ref (ad 99), .ref (ad 100), .ref (ad 101), .int m_lift, .int m_blank, .ref (ad 102), .int m_fm, .int m_at, .int m_pl, .int m_end, .ref (ad 103), .ref (ad 104), .ref (ad 105), .ref (ad 106), .ref (ad 107), .ref (ad 108), .int m_seed]) → C 89 = aI g 12 m_down → C 91 = aI g 12 m_walk → C 103 = aI g 12 q1.1 → C 104 = aI g 144 q1.2 → C 107 = aI g 49152 q31 → lv_has ls 7 [(0, .ref (ad 86)), (1, .int p0), (2, .int x2), (3, .int x18), (4, .int x27), (5, .int x29)] → W p l e (headSpec wsX11_laySoon rmX11_laySoon).room s m args below meth c H locs 0 0 QQ (F0 m 157 ls []) := by
                    intro C H locs ls hP hS hag h86 h89 h91 h103 h104 h107 hl
                    obtain ⟨x32, ex32, hf⟩ := lt_e hf
                    refine lv_iinc (v := x32) (lv' := [(3, .int x32), (0, .ref (ad 86)), (1, .int p0), (2, .int x2), (4, .int x27), (5, .int x29)]) hx hb dX11_laySoon_157 hl (k := 3) rfl (by rw [ex32]; rfl) (by decide) rfl (fun ls hl => ?_)
                    refine lv_goto (tgt := 55) hx hb dX11_laySoon_160 (by decide) ?_
                    exact ih x32 q31 C H locs ls hP hS hag h86 h89 h91 h103 h104 h107 (lv_sub hl [1, 2, 3, 0] rfl) hf
                  clear hf
                  have hf := htq31
                  refine lv_if_eq (tgt := 157) hx hb dX11_laySoon_97 (by decide) (fun c33 => ?_) (fun c33 => ?_)
                  · have hf := it_e c33 hf
                    obtain rfl := Option.some.inj hf
                    exact jnq31 C H locs ls hP hS hag h86 h89 h91 h103 h104 h107 (lv_sub hl [2, 3, 4, 5, 1, 0] rfl)
                  · have hf := ie_e c33 hf
                    refine lv_aload_n hx hb dX11_laySoon_100 rfl (lv_at hl 2 rfl) ?_
                    refine lv_iload hx hb dX11_laySoon_101 (lv_at hl 0 rfl) ?_
                    refine lv_iload hx hb dX11_laySoon_103 (lv_at hl 1 rfl) ?_
                    refine lv_iload_n hx hb dX11_laySoon_105 rfl (lv_at hl 4 rfl) ?_
                    obtain ⟨q34, hq34, hf⟩ := bd_e hf
                    refine k_iR (va_runV (C := RX11) (As := [.int x29, .int x27, .int x2]) (rest := []) ⟨hx, hb, hml, hown, hts⟩ (c_X11_soonBy (l := l) (sz := H.size) (p0 := x29) (p1 := x27) (p2 := x2) hN h86 h103 h104 h107 hq34) (cwV 3 hts gX11_laySoon_X11_soonBy rfl rfl rfl (by decide +kernel) ⟨Nat.le_of_ble_eq_true rfl, Nat.le_of_ble_eq_true rfl⟩) (preV_of hK hP (by omega) h86 rfl) rfl rfl hl.1 rfl (lv_room (Nat.le_of_ble_eq_true rfl)) dX11_laySoon_106 ⟨Nat.le_of_ble_eq_true rfl, Nat.le_of_ble_eq_true rfl⟩) hA hP hS (fun H locs hP hS hbz_q34 => ?_)
                    refine lv_istore (lv' := [(6, .int q34), (5, .int x29), (4, .int x27), (0, .ref (ad 86)), (1, .int p0), (2, .int x2), (3, .int x18)]) hx hb dX11_laySoon_109 hl (by decide) rfl (fun ls hl => ?_)
                    refine lv_aload_n hx hb dX11_laySoon_111 rfl (lv_at hl 3 rfl) ?_
                    refine r_get (own := RX11) (T := TX11) (n := 32) (ci := 11) (v := .ref (ad 107)) hx hb hts nX11 hown hK hP (by omega) h86 rfl 29 (by decide) k0 rfl dX11_laySoon_112 ?_
                    refine lv_bipush (v := 12) hx hb dX11_laySoon_115 (by decide) ?_
                    refine lv_iload_n hx hb dX11_laySoon_117 rfl (lv_at hl 5 rfl) ?_
                    refine lv_imul hx hb dX11_laySoon_118 ?_
                    refine lv_iload hx hb dX11_laySoon_119 (lv_at hl 1 rfl) ?_
                    refine lv_iadd hx hb dX11_laySoon_121 ?_
                    refine lv_iload hx hb dX11_laySoon_122 (lv_at hl 0 rfl) ?_
                    refine lv_aload_n hx hb dX11_laySoon_124 rfl (lv_at hl 3 rfl) ?_
                    refine r_get (own := RX11) (T := TX11) (n := 32) (ci := 11) (v := .ref (ad 107)) hx hb hts nX11 hown hK hP (by omega) h86 rfl 29 (by decide) k0 rfl dX11_laySoon_125 ?_
                    refine lv_bipush (v := 12) hx hb dX11_laySoon_128 (by decide) ?_
                    refine lv_iload_n hx hb dX11_laySoon_130 rfl (lv_at hl 5 rfl) ?_
                    refine lv_imul hx hb dX11_laySoon_131 ?_
                    refine lv_iload hx hb dX11_laySoon_132 (lv_at hl 1 rfl) ?_
                    refine lv_iadd hx hb dX11_laySoon_134 ?_
                    obtain ⟨i36, x35, ex35, hf⟩ := ri_e hf
                    refine r_iald hx hb hK hP (by omega) h107 i36 dX11_laySoon_135 ex35 ?_
                    obtain ⟨q37, htq37, hf⟩ := bd_e hf
                    have jnq37 : ∀ (C : Nat → va_E) (H : Heap) (locs : List Loc) (ls : Array Slot), va_P D vwCl (wd N ad C) H → va_S (Aw N ad s.heap.size) s.heap H locs → (∀ i : Nat, i ≠ 103 ∧ i ≠ 104 ∧ i ≠ 107 → C i = C0 i) → C 86 = .inr (11, [.ref (ad 87), .int m_len, .ref (ad 88), .int m_rm, .int m_there, .ref (ad 89), .ref (ad 90), .ref (ad 91), .ref (ad 92), .ref (ad 93), .ref (ad 94), .ref (ad 95), .ref (ad 96), .ref (ad 97), .ref (ad 98), .ref (ad 99), .ref (ad 100), .ref (ad 101), .int m_lift, .int m_blank, .ref (ad 102), .int m_fm, .int m_at, .int m_pl, .int m_end, .ref (ad 103), .ref (ad 104), .ref (ad 105), .ref (ad 106), .ref (ad 107), .ref (ad 108), .int m_seed]) → C 89 = aI g 12 m_down → C 91 = aI g 12 m_walk → C 103 = aI g 12 q1.1 → C 104 = aI g 144 q1.2 → C 107 = aI g 49152 f19 → lv_has ls 7 [(0, .ref (ad 86)), (1, .int p0), (2, .int x2), (3, .int x18), (4, .int x27), (5, .int x29), (6, .int q34)] → W p l e (headSpec wsX11_laySoon rmX11_laySoon).room s m args below meth c H locs 0 0 QQ (F0 m 156 ls [.int q37, .int ((12 * x2) + x29), .ref (ad 107)]) := by
                      intro C H locs ls hP hS hag h86 h89 h91 h103 h104 h107 hl
                      obtain ⟨i39, f38, ef38, hf⟩ := wi_e hf
                      refine r_iast hx hb hK hI hAd hP hS (by omega) h107 i39 dX11_laySoon_156 ef38 (fun C H locs hP hS he hn => ?_)
                      have hag : ∀ i : Nat, i ≠ 103 ∧ i ≠ 104 ∧ i ≠ 107 → C i = C0 i := fun i h => (he i (by omega)).trans (hag i h)
                      have h86 := (he 86 (by decide)).trans h86
                      have h89 := (he 89 (by decide)).trans h89
                      have h91 := (he 91 (by decide)).trans h91
                      have h103 := (he 103 (by decide)).trans h103
                      have h104 := (he 104 (by decide)).trans h104
                      have h107 : C 107 = aI g 49152 f38 := hn
                      obtain rfl := Option.some.inj hf
                      exact jnq31 C H locs ls hP hS hag h86 h89 h91 h103 h104 h107 (lv_sub hl [0, 1, 2, 3, 4, 5] rfl)
                    clear hf
                    have hf := htq37
                    refine lv_icmp_ge (tgt := 144) hx hb dX11_laySoon_136 (by decide) (fun c40 => ?_) (fun c40 => ?_)
                    · have hf := it_e c40 hf
                      refine lv_aload_n hx hb dX11_laySoon_144 rfl (lv_at hl 3 rfl) ?_
                      refine r_get (own := RX11) (T := TX11) (n := 32) (ci := 11) (v := .ref (ad 107)) hx hb hts nX11 hown hK hP (by omega) h86 rfl 29 (by decide) k0 rfl dX11_laySoon_145 ?_
                      refine lv_bipush (v := 12) hx hb dX11_laySoon_148 (by decide) ?_
                      refine lv_iload_n hx hb dX11_laySoon_150 rfl (lv_at hl 5 rfl) ?_
                      refine lv_imul hx hb dX11_laySoon_151 ?_
                      refine lv_iload hx hb dX11_laySoon_152 (lv_at hl 1 rfl) ?_
                      refine lv_iadd hx hb dX11_laySoon_154 ?_
                      obtain ⟨i42, x41, ex41, hf⟩ := ri_e hf
                      refine r_iald hx hb hK hP (by omega) h107 i42 dX11_laySoon_155 ex41 ?_
                      obtain rfl := Option.some.inj hf
                      exact jnq37 C H locs ls hP hS hag h86 h89 h91 h103 h104 h107 (lv_sub hl [3, 4, 5, 6, 2, 1, 0] rfl)
                    · have hf := ie_e c40 hf
                      refine lv_iload hx hb dX11_laySoon_139 (lv_at hl 0 rfl) ?_
                      refine lv_goto (tgt := 156) hx hb dX11_laySoon_141 (by decide) ?_
                      obtain rfl := Option.some.inj hf
                      exact jnq37 C H locs ls hP hS hag h86 h89 h91 h103 h104 h107 (lv_sub hl [3, 4, 5, 6, 2, 1, 0] rfl)
        refine key55 _ (fun x20 f21 C H locs ls hP hS hag h86 h89 h91 h103 h104 h107 hl hf => ?_) FU 0 f10 C H locs ls hP hS hag h86 h89 h91 h103 h104 h107 (lv_sub hl [1, 2, 3, 0] rfl) hf
        obtain ⟨x43, ex43, hf⟩ := lt_e hf
        refine lv_iinc (v := x43) (lv' := [(2, .int x43), (0, .ref (ad 86)), (1, .int p0), (3, .int x20)]) hx hb dX11_laySoon_163 hl (k := 2) rfl (by rw [ex43]; rfl) (by decide) rfl (fun ls hl => ?_)
        refine lv_goto (tgt := 6) hx hb dX11_laySoon_166 (by decide) ?_
        exact ih x43 f21 C H locs ls hP hS hag h86 h89 h91 h103 h104 h107 (lv_sub hl [1, 2, 0] rfl) hf
  refine key6 _ (fun x4 f5 C H locs ls hP hS hag h86 h89 h91 h103 h104 h107 hl hf => ?_) FU 0 m_soon C H locs ls hP hS hag h86 h89 h91 h103 h104 h107 (lv_sub hl [1, 2, 0] rfl) hf
  obtain rfl := Option.some.inj hf
  rw [← hQ]
  exact e_vW hx hb hr hP hS ⟨hag, h103, h104, h107⟩ hlocks dX11_laySoon_169

def LX11_soonLid_2 (p0 : Int32) (p1 : Int32) (m_abv : Nat → Int32) (m_apart : Nat → Int32) (m_soon : Nat → Int32) (m_there : Int32) (m_lift : Int32) (ko : Int32 → Option (Int32)) : Nat → Int32 → Option (Int32)
  | 0, _ => none
  | n + 1, x1 =>
    if 12 ≤ x1 then
      ko x1
    else
      (f_X11_parts x1 p1 m_abv m_there).bind fun q4 =>
      if q4 = 0 then
        lt (x1 + 1 : Int32) fun x6 =>
        LX11_soonLid_2 p0 p1 m_abv m_apart m_soon m_there m_lift ko n x6
      else
        (f_X11_soonBy p0 x1 p1 m_abv m_apart m_soon m_lift).bind fun q7 =>
        ri m_soon 49152 (((12 * p1) + p0)) fun x8 =>
        if q7 = x8 then
          some (x1)
        else
          lt (x1 + 1 : Int32) fun x11 =>
          LX11_soonLid_2 p0 p1 m_abv m_apart m_soon m_there m_lift ko n x11
theorem LX11_soonLid_2_z (p0 : Int32) (p1 : Int32) (m_abv : Nat → Int32) (m_apart : Nat → Int32) (m_soon : Nat → Int32) (m_there : Int32) (m_lift : Int32) (ko : Int32 → Option (Int32)) (x1 : Int32) : LX11_soonLid_2 p0 p1 m_abv m_apart m_soon m_there m_lift ko 0 x1 = none := rfl
theorem LX11_soonLid_2_s (p0 : Int32) (p1 : Int32) (m_abv : Nat → Int32) (m_apart : Nat → Int32) (m_soon : Nat → Int32) (m_there : Int32) (m_lift : Int32) (ko : Int32 → Option (Int32)) (n : Nat) (x1 : Int32) : LX11_soonLid_2 p0 p1 m_abv m_apart m_soon m_there m_lift ko (n + 1) x1 =
    if 12 ≤ x1 then
      ko x1
    else
      (f_X11_parts x1 p1 m_abv m_there).bind fun q4 =>
      if q4 = 0 then
        lt (x1 + 1 : Int32) fun x6 =>
        LX11_soonLid_2 p0 p1 m_abv m_apart m_soon m_there m_lift ko n x6
      else
        (f_X11_soonBy p0 x1 p1 m_abv m_apart m_soon m_lift).bind fun q7 =>
        ri m_soon 49152 (((12 * p1) + p0)) fun x8 =>
        if q7 = x8 then
          some (x1)
        else
          lt (x1 + 1 : Int32) fun x11 =>
          LX11_soonLid_2 p0 p1 m_abv m_apart m_soon m_there m_lift ko n x11 := rfl
def f_X11_soonLid (p0 : Int32) (p1 : Int32) (m_abv : Nat → Int32) (m_apart : Nat → Int32) (m_soon : Nat → Int32) (m_there : Int32) (m_lift : Int32) : Option (Int32) :=
  LX11_soonLid_2 p0 p1 m_abv m_apart m_soon m_there m_lift (fun x2 =>
    some ((-1))) FU 0
abbrev rmX11_soonLid : Room := { frames := 2, cells := 0, slots := 0, locals := 44 }
set_option maxHeartbeats 4000000 in
set_option maxRecDepth 100000 in
theorem c_X11_soonLid {l : Launch} {D : va_G} {g : Nat → ClassId} {N : Nat} {ad : Nat → Nat} {C : Nat → va_E} {sz : Nat} {m_len : Int32} {m_rm : Int32} {m_there : Int32} {m_lift : Int32} {m_blank : Int32} {m_fm : Int32} {m_at : Int32} {m_pl : Int32} {m_end : Int32} {m_seed : Int32} {m_abv : Nat → Int32} {m_apart : Nat → Int32} {m_soon : Nat → Int32} {p0 : Int32} {p1 : Int32} {rr : Int32} (hN : 109 ≤ N) (h86 : C 86 = .inr (11, [.ref (ad 87), .int m_len, .ref (ad 88), .int m_rm, .int m_there, .ref (ad 89), .ref (ad 90), .ref (ad 91), .ref (ad 92), .ref (ad 93), .ref (ad 94), .ref (ad 95), .ref (ad 96), .ref (ad 97), .ref (ad 98), .ref (ad 99), .ref (ad 100), .ref (ad 101), .int m_lift, .int m_blank, .ref (ad 102), .int m_fm, .int m_at, .int m_pl, .int m_end, .ref (ad 103), .ref (ad 104), .ref (ad 105), .ref (ad 106), .ref (ad 107), .ref (ad 108), .int m_seed])) (h103 : C 103 = aI g 12 m_abv) (h104 : C 104 = aI g 144 m_apart) (h107 : C 107 = aI g 49152 m_soon) (hf : f_X11_soonLid p0 p1 m_abv m_apart m_soon m_there m_lift = some rr) : Met l yX11_soonLid wsX11_soonLid rmX11_soonLid (PcW D g N ad C sz [.ref (ad 86), .int p0, .int p1]) (QiR sz tP rr) 0 0 (An sz) := by
  refine Met.ofW (cc := cX11_soonLid) (maxL := 4) (ret := (some .int)) (by decide) rfl ?_
  intro p e s m args below meth c s₁ B hml hv
  obtain ⟨hav, hsz, hK, hP⟩ := hv
  subst hsz
  have hx := B.exec
  have hb := B.bytes
  have hr := B.returns
  have hts := atoms_spec (ws := wsX11_soonLid) B.pre
  have hown : s.vm.findClass RX11 = some m.cls := findClass_of_methodNamed B.named
  have hlocks := B.notSynchronized
  generalize hQ : MQ below (QiR s.heap.size tP rr) args s 0 0 (An s.heap.size) = QQ
  have hS : va_S (An s.heap.size) s.heap s.heap [] := va_S.rf
  have hA : ∀ q, s.heap.size ≤ q → (An s.heap.size) q := fun q h => h
  have k0 := hts (.fieldLink RX11 75 "UpDrainModel" "soons" "[I") (List.mem_of_getElem? (i := 1) rfl)
  have nX11 : ∀ w ∈ u_ws RX11 TX11 32, w ∈ wsX11_soonLid := fun _ h => List.mem_cons_of_mem _ (List.mem_append_right _ h)
  have hE := lg_entry_eq m [.ref (ad 86), .int p0, .int p1] 4
  rw [← hav] at hE
  rw [hE]
  have hl := lv_entry [.ref (ad 86), .int p0, .int p1] (n := 4) (Nat.le_of_ble_eq_true rfl)
  generalize (lg_sl [.ref (ad 86), .int p0, .int p1] ++ List.replicate (4 - (lg_sl [.ref (ad 86), .int p0, .int p1]).length) Slot.unset).toArray = ls at hl ⊢
  have hl : lv_has ls 4 [(0, .ref (ad 86)), (1, .int p0), (2, .int p1)] := hl
  clear hE
  unfold f_X11_soonLid at hf
  suffices hgo : ∀ (H : Heap) (locs : List Loc), va_P D vwCl (wd N ad C) H → va_S (An s.heap.size) s.heap H locs → W p l e (headSpec wsX11_soonLid rmX11_soonLid).room s m args below meth c H locs 0 0 QQ (F0 m 0 ls []) from hgo s.heap [] hP hS
  clear hS hP
  intro H locs hP hS
  refine lv_iconst (v := 0) hx hb dX11_soonLid_0 (by decide) ?_
  refine lv_istore_n (lv' := [(3, .int 0), (0, .ref (ad 86)), (1, .int p0), (2, .int p1)]) hx hb dX11_soonLid_1 rfl hl (by decide) rfl (fun ls hl => ?_)
  have key2 : ∀ (ko : Int32 → Option (Int32)), (∀ (x2 : Int32) (C : Nat → va_E) (H : Heap) (locs : List Loc) (ls : Array Slot), va_P D vwCl (wd N ad C) H → va_S (An s.heap.size) s.heap H locs → C 86 = .inr (11, [.ref (ad 87), .int m_len, .ref (ad 88), .int m_rm, .int m_there, .ref (ad 89), .ref (ad 90), .ref (ad 91), .ref (ad 92), .ref (ad 93), .ref (ad 94), .ref (ad 95), .ref (ad 96), .ref (ad 97), .ref (ad 98), .ref (ad 99), .ref (ad 100), .ref (ad 101), .int m_lift, .int m_blank, .ref (ad 102), .int m_fm, .int m_at, .int m_pl, .int m_end, .ref (ad 103), .ref (ad 104), .ref (ad 105), .ref (ad 106), .ref (ad 107), .ref (ad 108), .int m_seed]) → C 103 = aI g 12 m_abv → C 104 = aI g 144 m_apart → C 107 = aI g 49152 m_soon → lv_has ls 4 [(0, .ref (ad 86)), (1, .int p0), (2, .int p1), (3, .int x2)] → ko x2 = some rr → W p l e (headSpec wsX11_soonLid rmX11_soonLid).room s m args below meth c H locs 0 0 QQ (F0 m 46 ls [])) → ∀ (n : Nat) (x1 : Int32) (C : Nat → va_E) (H : Heap) (locs : List Loc) (ls : Array Slot), va_P D vwCl (wd N ad C) H → va_S (An s.heap.size) s.heap H locs → C 86 = .inr (11, [.ref (ad 87), .int m_len, .ref (ad 88), .int m_rm, .int m_there, .ref (ad 89), .ref (ad 90), .ref (ad 91), .ref (ad 92), .ref (ad 93), .ref (ad 94), .ref (ad 95), .ref (ad 96), .ref (ad 97), .ref (ad 98), .ref (ad 99), .ref (ad 100), .ref (ad 101), .int m_lift, .int m_blank, .ref (ad 102), .int m_fm, .int m_at, .int m_pl, .int m_end, .ref (ad 103), .ref (ad 104), .ref (ad 105), .ref (ad 106), .ref (ad 107), .ref (ad 108), .int m_seed]) → C 103 = aI g 12 m_abv → C 104 = aI g 144 m_apart → C 107 = aI g 49152 m_soon → lv_has ls 4 [(0, .ref (ad 86)), (1, .int p0), (2, .int p1), (3, .int x1)] → LX11_soonLid_2 p0 p1 m_abv m_apart m_soon m_there m_lift ko n x1 = some rr → W p l e (headSpec wsX11_soonLid rmX11_soonLid).room s m args below meth c H locs 0 0 QQ (F0 m 2 ls []) := by
    intro ko hko n
    induction n with
    | zero =>
      intro x1 C H locs ls hP hS h86 h103 h104 h107 hl hf
      rw [LX11_soonLid_2_z] at hf
      cases hf
    | succ n ih =>
      intro x1 C H locs ls hP hS h86 h103 h104 h107 hl hf
      rw [LX11_soonLid_2_s] at hf
      refine lv_iload_n hx hb dX11_soonLid_2 rfl (lv_at hl 3 rfl) ?_
      refine lv_bipush (v := 12) hx hb dX11_soonLid_3 (by decide) ?_
      refine lv_icmp_ge (tgt := 46) hx hb dX11_soonLid_5 (by decide) (fun c3 => ?_) (fun c3 => ?_)
      · have hf := it_e c3 hf
        exact hko x1 C H locs ls hP hS h86 h103 h104 h107 (lv_sub hl [0, 1, 2, 3] rfl) hf
      · have hf := ie_e c3 hf
        refine lv_aload_n hx hb dX11_soonLid_8 rfl (lv_at hl 0 rfl) ?_
        refine lv_iload_n hx hb dX11_soonLid_9 rfl (lv_at hl 3 rfl) ?_
        refine lv_iload_n hx hb dX11_soonLid_10 rfl (lv_at hl 2 rfl) ?_
        obtain ⟨q4, hq4, hf⟩ := bd_e hf
        refine k_iR (va_runV (C := RX11) (As := [.int x1, .int p1]) (rest := []) ⟨hx, hb, hml, hown, hts⟩ (c_X11_parts (l := l) (sz := H.size) (p0 := x1) (p1 := p1) hN h86 h103 hq4) (cwV 2 hts gX11_soonLid_X11_parts rfl rfl rfl (by decide +kernel) ⟨Nat.le_of_ble_eq_true rfl, Nat.le_of_ble_eq_true rfl⟩) (preV_of hK hP (by omega) h86 rfl) rfl rfl hl.1 rfl (lv_room (Nat.le_of_ble_eq_true rfl)) dX11_soonLid_11 ⟨Nat.le_of_ble_eq_true rfl, Nat.le_of_ble_eq_true rfl⟩) hA hP hS (fun H locs hP hS hbz_q4 => ?_)
        refine lv_if_eq (tgt := 40) hx hb dX11_soonLid_14 (by decide) (fun c5 => ?_) (fun c5 => ?_)
        · have hf := it_e c5 hf
          obtain ⟨x6, ex6, hf⟩ := lt_e hf
          refine lv_iinc (v := x6) (lv' := [(3, .int x6), (0, .ref (ad 86)), (1, .int p0), (2, .int p1)]) hx hb dX11_soonLid_40 hl (k := 3) rfl (by rw [ex6]; rfl) (by decide) rfl (fun ls hl => ?_)
          refine lv_goto (tgt := 2) hx hb dX11_soonLid_43 (by decide) ?_
          exact ih x6 C H locs ls hP hS h86 h103 h104 h107 (lv_sub hl [1, 2, 3, 0] rfl) hf
        · have hf := ie_e c5 hf
          refine lv_aload_n hx hb dX11_soonLid_17 rfl (lv_at hl 0 rfl) ?_
          refine lv_iload_n hx hb dX11_soonLid_18 rfl (lv_at hl 1 rfl) ?_
          refine lv_iload_n hx hb dX11_soonLid_19 rfl (lv_at hl 3 rfl) ?_
          refine lv_iload_n hx hb dX11_soonLid_20 rfl (lv_at hl 2 rfl) ?_
          obtain ⟨q7, hq7, hf⟩ := bd_e hf
          refine k_iR (va_runV (C := RX11) (As := [.int p0, .int x1, .int p1]) (rest := []) ⟨hx, hb, hml, hown, hts⟩ (c_X11_soonBy (l := l) (sz := H.size) (p0 := p0) (p1 := x1) (p2 := p1) hN h86 h103 h104 h107 hq7) (cwV 3 hts gX11_soonLid_X11_soonBy rfl rfl rfl (by decide +kernel) ⟨Nat.le_of_ble_eq_true rfl, Nat.le_of_ble_eq_true rfl⟩) (preV_of hK hP (by omega) h86 rfl) rfl rfl hl.1 rfl (lv_room (Nat.le_of_ble_eq_true rfl)) dX11_soonLid_21 ⟨Nat.le_of_ble_eq_true rfl, Nat.le_of_ble_eq_true rfl⟩) hA hP hS (fun H locs hP hS hbz_q7 => ?_)
          refine lv_aload_n hx hb dX11_soonLid_24 rfl (lv_at hl 0 rfl) ?_
          refine r_get (own := RX11) (T := TX11) (n := 32) (ci := 11) (v := .ref (ad 107)) hx hb hts nX11 hown hK hP (by omega) h86 rfl 29 (by decide) k0 rfl dX11_soonLid_25 ?_
          refine lv_bipush (v := 12) hx hb dX11_soonLid_28 (by decide) ?_
          refine lv_iload_n hx hb dX11_soonLid_30 rfl (lv_at hl 2 rfl) ?_
          refine lv_imul hx hb dX11_soonLid_31 ?_
          refine lv_iload_n hx hb dX11_soonLid_32 rfl (lv_at hl 1 rfl) ?_
          refine lv_iadd hx hb dX11_soonLid_33 ?_
          obtain ⟨i9, x8, ex8, hf⟩ := ri_e hf
          refine r_iald hx hb hK hP (by omega) h107 i9 dX11_soonLid_34 ex8 ?_
          refine lv_icmp_ne (tgt := 40) hx hb dX11_soonLid_35 (by decide) (fun c10 => ?_) (fun c10 => ?_)
          · have hf := ie_e c10 hf
            obtain ⟨x11, ex11, hf⟩ := lt_e hf
            refine lv_iinc (v := x11) (lv' := [(3, .int x11), (0, .ref (ad 86)), (1, .int p0), (2, .int p1)]) hx hb dX11_soonLid_40 hl (k := 3) rfl (by rw [ex11]; rfl) (by decide) rfl (fun ls hl => ?_)
            refine lv_goto (tgt := 2) hx hb dX11_soonLid_43 (by decide) ?_
            exact ih x11 C H locs ls hP hS h86 h103 h104 h107 (lv_sub hl [1, 2, 3, 0] rfl) hf
          · have hf := it_e c10 hf
            refine lv_iload_n hx hb dX11_soonLid_38 rfl (lv_at hl 3 rfl) ?_
            obtain rfl := Option.some.inj hf
            rw [← hQ]
            exact e_iR hx hb hr rfl (tP_i _) hS hlocks dX11_soonLid_39
  refine key2 _ (fun x2 C H locs ls hP hS h86 h103 h104 h107 hl hf => ?_) FU 0 C H locs ls hP hS h86 h103 h104 h107 (lv_sub hl [1, 2, 3, 0] rfl) hf
  refine lv_iconst (v := (-1)) hx hb dX11_soonLid_46 (by decide) ?_
  obtain rfl := Option.some.inj hf
  rw [← hQ]
  exact e_iR hx hb hr rfl (tP_i _) hS hlocks dX11_soonLid_47

def f_X11_soon (p0 : Int32) (p1 : Int32) (m_down : Nat → Int32) (m_walk : Nat → Int32) (m_lik : Nat → Int32) (m_abv : Nat → Int32) (m_apart : Nat → Int32) (m_soon : Nat → Int32) (m_there : Int32) (m_lift : Int32) : Option (Int32 × (Nat → Int32) × (Nat → Int32) × (Nat → Int32)) :=
  (f_X11_isNode p0 m_there).bind fun q1 =>
  if q1 = 0 then
    some ((-2), m_abv, m_apart, m_soon)
  else
    (f_X11_in (Int32.toInt64 p1) (0 : Int64) (1 : Int64)).bind fun q3 =>
    if q3 = 0 then
      some ((-3), m_abv, m_apart, m_soon)
    else
      (f_X11_sources m_lik m_there).bind fun q5 =>
      (f_X11_laySoon q5 m_down m_walk m_abv m_apart m_soon m_there m_lift).bind fun q6 =>
      if p1 = 0 then
        ri q6.2.2 49152 (((12 * q5) + p0)) fun x9 =>
        some (x9, q6.1, q6.2.1, q6.2.2)
      else
        (f_X11_soonLid p0 q5 q6.1 q6.2.1 q6.2.2 m_there m_lift).bind fun q8 =>
        some (q8, q6.1, q6.2.1, q6.2.2)
abbrev rmX11_soon : Room := { frames := 4, cells := 0, slots := 0, locals := 96 }
set_option maxHeartbeats 4000000 in
set_option maxRecDepth 100000 in
theorem c_X11_soon {l : Launch} {D : va_G} {g : Nat → ClassId} {N : Nat} {ad : Nat → Nat} {C : Nat → va_E} {sz : Nat} {m_len : Int32} {m_rm : Int32} {m_there : Int32} {m_lift : Int32} {m_blank : Int32} {m_fm : Int32} {m_at : Int32} {m_pl : Int32} {m_end : Int32} {m_seed : Int32} {m_down : Nat → Int32} {m_walk : Nat → Int32} {m_lik : Nat → Int32} {m_abv : Nat → Int32} {m_apart : Nat → Int32} {m_soon : Nat → Int32} {p0 : Int32} {p1 : Int32} {rr : Int32 × (Nat → Int32) × (Nat → Int32) × (Nat → Int32)} (hN : 109 ≤ N) (hI : Inj N ad) (h86 : C 86 = .inr (11, [.ref (ad 87), .int m_len, .ref (ad 88), .int m_rm, .int m_there, .ref (ad 89), .ref (ad 90), .ref (ad 91), .ref (ad 92), .ref (ad 93), .ref (ad 94), .ref (ad 95), .ref (ad 96), .ref (ad 97), .ref (ad 98), .ref (ad 99), .ref (ad 100), .ref (ad 101), .int m_lift, .int m_blank, .ref (ad 102), .int m_fm, .int m_at, .int m_pl, .int m_end, .ref (ad 103), .ref (ad 104), .ref (ad 105), .ref (ad 106), .ref (ad 107), .ref (ad 108), .int m_seed])) (h89 : C 89 = aI g 12 m_down) (h91 : C 91 = aI g 12 m_walk) (h94 : C 94 = aI g 12 m_lik) (h103 : C 103 = aI g 12 m_abv) (h104 : C 104 = aI g 144 m_apart) (h107 : C 107 = aI g 49152 m_soon) (hf : f_X11_soon p0 p1 m_down m_walk m_lik m_abv m_apart m_soon m_there m_lift = some rr) : Met l yX11_soon wsX11_soon rmX11_soon (PcW D g N ad C sz [.ref (ad 86), .int p0, .int p1]) (QiW D N ad sz tP rr.1 (fun C' => (∀ i : Nat, i ≠ 103 ∧ i ≠ 104 ∧ i ≠ 107 → C' i = C i) ∧ (C' 103 = aI g 12 rr.2.1) ∧ (C' 104 = aI g 144 rr.2.2.1) ∧ (C' 107 = aI g 49152 rr.2.2.2))) 0 0 (Aw N ad sz) := by
  refine Met.ofW (cc := cX11_soon) (maxL := 4) (ret := (some .int)) (by decide) rfl ?_
  intro p e s m args below meth c s₁ B hml hv
  obtain ⟨hav, hsz, hK, hP⟩ := hv
  subst hsz
  have hx := B.exec
  have hb := B.bytes
  have hr := B.returns
  have hts := atoms_spec (ws := wsX11_soon) B.pre
  have hown : s.vm.findClass RX11 = some m.cls := findClass_of_methodNamed B.named
  have hlocks := B.notSynchronized
  generalize hQ : MQ below (QiW D N ad s.heap.size tP rr.1 (fun C' => (∀ i : Nat, i ≠ 103 ∧ i ≠ 104 ∧ i ≠ 107 → C' i = C i) ∧ (C' 103 = aI g 12 rr.2.1) ∧ (C' 104 = aI g 144 rr.2.2.1) ∧ (C' 107 = aI g 49152 rr.2.2.2))) args s 0 0 (Aw N ad s.heap.size) = QQ
  have hS : va_S (Aw N ad s.heap.size) s.heap s.heap [] := va_S.rf
  have hA : ∀ q, s.heap.size ≤ q → (Aw N ad s.heap.size) q := fun q h => Or.inr h
  have hAd : ∀ j : Nat, j < N → (Aw N ad s.heap.size) (ad j) := fun j h => Or.inl ⟨j, h, rfl⟩
  obtain ⟨C0, hC0⟩ : ∃ C0 : Nat → va_E, C0 = C := ⟨_, rfl⟩
  have hag : ∀ i : Nat, i ≠ 103 ∧ i ≠ 104 ∧ i ≠ 107 → C i = C0 i := fun i _ => by rw [hC0]
  rw [← hC0] at hQ
  have k0 := hts (.fieldLink RX11 75 "UpDrainModel" "soons" "[I") (List.mem_of_getElem? (i := 1) rfl)
  have nX11 : ∀ w ∈ u_ws RX11 TX11 32, w ∈ wsX11_soon := fun _ h => List.mem_cons_of_mem _ (List.mem_append_right _ h)
  have hE := lg_entry_eq m [.ref (ad 86), .int p0, .int p1] 4
  rw [← hav] at hE
  rw [hE]
  have hl := lv_entry [.ref (ad 86), .int p0, .int p1] (n := 4) (Nat.le_of_ble_eq_true rfl)
  generalize (lg_sl [.ref (ad 86), .int p0, .int p1] ++ List.replicate (4 - (lg_sl [.ref (ad 86), .int p0, .int p1]).length) Slot.unset).toArray = ls at hl ⊢
  have hl : lv_has ls 4 [(0, .ref (ad 86)), (1, .int p0), (2, .int p1)] := hl
  clear hE
  unfold f_X11_soon at hf
  suffices hgo : ∀ (H : Heap) (locs : List Loc), va_P D vwCl (wd N ad C) H → va_S (Aw N ad s.heap.size) s.heap H locs → W p l e (headSpec wsX11_soon rmX11_soon).room s m args below meth c H locs 0 0 QQ (F0 m 0 ls []) from hgo s.heap [] hP hS
  clear hS hP
  intro H locs hP hS
  refine lv_aload_n hx hb dX11_soon_0 rfl (lv_at hl 0 rfl) ?_
  refine lv_iload_n hx hb dX11_soon_1 rfl (lv_at hl 1 rfl) ?_
  obtain ⟨q1, hq1, hf⟩ := bd_e hf
  refine k_iR (va_runV (C := RX11) (As := [.int p0]) (rest := []) ⟨hx, hb, hml, hown, hts⟩ (c_X11_isNode (l := l) (sz := H.size) (p0 := p0) hN h86 hq1) (cwV 1 hts gX11_soon_X11_isNode rfl rfl rfl (by decide +kernel) ⟨Nat.le_of_ble_eq_true rfl, Nat.le_of_ble_eq_true rfl⟩) (preV_of hK hP (by omega) h86 rfl) rfl rfl hl.1 rfl (lv_room (Nat.le_of_ble_eq_true rfl)) dX11_soon_2 ⟨Nat.le_of_ble_eq_true rfl, Nat.le_of_ble_eq_true rfl⟩) hA hP hS (fun H locs hP hS hbz_q1 => ?_)
  refine lv_if_ne (tgt := 11) hx hb dX11_soon_5 (by decide) (fun c2 => ?_) (fun c2 => ?_)
  · have hf := ie_e c2 hf
    refine lv_iload_n hx hb dX11_soon_11 rfl (lv_at hl 2 rfl) ?_
    refine lv_i2l hx hb dX11_soon_12 rfl ?_
    refine lv_lconst (v := 0) hx hb dX11_soon_13 (by decide) ?_
    refine lv_lconst (v := 1) hx hb dX11_soon_14 (by decide) ?_
    obtain ⟨q3, hq3, hf⟩ := bd_e hf
    refine k_iR (va_runS (As := [.long (Int32.toInt64 p1), .long (0 : Int64), .long (1 : Int64)]) (rest := []) ⟨hx, hb, hml, hown, hts⟩ (c_X11_in (l := l) (sz := H.size) (p0 := (Int32.toInt64 p1)) (p1 := (0 : Int64)) (p2 := (1 : Int64)) hq3) (va_cwS 3 hts gX11_soon_X11_in rfl rfl rfl (by decide +kernel) ⟨Nat.le_of_ble_eq_true rfl, Nat.le_of_ble_eq_true rfl⟩) preS0 rfl rfl hl.1 rfl (lv_room (Nat.le_of_ble_eq_true rfl)) dX11_soon_15 ⟨Nat.le_of_ble_eq_true rfl, Nat.le_of_ble_eq_true rfl⟩) hA hP hS (fun H locs hP hS hbz_q3 => ?_)
    refine lv_if_ne (tgt := 24) hx hb dX11_soon_18 (by decide) (fun c4 => ?_) (fun c4 => ?_)
    · have hf := ie_e c4 hf
      refine lv_aload_n hx hb dX11_soon_24 rfl (lv_at hl 0 rfl) ?_
      obtain ⟨q5, hq5, hf⟩ := bd_e hf
      refine k_iR (va_runV (C := RX11) (As := []) (rest := []) ⟨hx, hb, hml, hown, hts⟩ (c_X11_sources (l := l) (sz := H.size)  hN h86 h94 hq5) (cwV 0 hts gX11_soon_X11_sources rfl rfl rfl (by decide +kernel) ⟨Nat.le_of_ble_eq_true rfl, Nat.le_of_ble_eq_true rfl⟩) (preV_of hK hP (by omega) h86 rfl) rfl rfl hl.1 rfl (lv_room (Nat.le_of_ble_eq_true rfl)) dX11_soon_25 ⟨Nat.le_of_ble_eq_true rfl, Nat.le_of_ble_eq_true rfl⟩) hA hP hS (fun H locs hP hS hbz_q5 => ?_)
      refine lv_istore_n (lv' := [(3, .int q5), (0, .ref (ad 86)), (1, .int p0), (2, .int p1)]) hx hb dX11_soon_28 rfl hl (by decide) rfl (fun ls hl => ?_)
      refine lv_aload_n hx hb dX11_soon_29 rfl (lv_at hl 1 rfl) ?_
      refine lv_iload_n hx hb dX11_soon_30 rfl (lv_at hl 0 rfl) ?_
      obtain ⟨q6, hq6, hf⟩ := bd_e hf
      refine k_vW (va_runV (C := RX11) (As := [.int q5]) (rest := []) ⟨hx, hb, hml, hown, hts⟩ (c_X11_laySoon (l := l) (sz := H.size) (p0 := q5) hN hI h86 h89 h91 h103 h104 h107 hq6) (cwV 1 hts gX11_soon_X11_laySoon rfl rfl rfl (by decide +kernel) ⟨Nat.le_of_ble_eq_true rfl, Nat.le_of_ble_eq_true rfl⟩) (preV_of hK hP (by omega) h86 rfl) rfl rfl hl.1 rfl (lv_room (Nat.le_of_ble_eq_true rfl)) dX11_soon_31 ⟨Nat.le_of_ble_eq_true rfl, Nat.le_of_ble_eq_true rfl⟩) hA hAd hS (fun C H locs hP hS hpo => ?_)
      obtain ⟨he, h103, h104, h107⟩ := hpo
      have hag : ∀ i : Nat, i ≠ 103 ∧ i ≠ 104 ∧ i ≠ 107 → C i = C0 i := fun i h => (he i (by omega)).trans (hag i h)
      have h86 := (he 86 (by decide)).trans h86
      have h89 := (he 89 (by decide)).trans h89
      have h91 := (he 91 (by decide)).trans h91
      have h94 := (he 94 (by decide)).trans h94
      refine lv_iload_n hx hb dX11_soon_34 rfl (lv_at hl 3 rfl) ?_
      refine lv_if_ne (tgt := 52) hx hb dX11_soon_35 (by decide) (fun c7 => ?_) (fun c7 => ?_)
      · have hf := ie_e c7 hf
        refine lv_aload_n hx hb dX11_soon_52 rfl (lv_at hl 1 rfl) ?_
        refine lv_iload_n hx hb dX11_soon_53 rfl (lv_at hl 2 rfl) ?_
        refine lv_iload_n hx hb dX11_soon_54 rfl (lv_at hl 0 rfl) ?_
        obtain ⟨q8, hq8, hf⟩ := bd_e hf
        refine k_iR (va_runV (C := RX11) (As := [.int p0, .int q5]) (rest := []) ⟨hx, hb, hml, hown, hts⟩ (c_X11_soonLid (l := l) (sz := H.size) (p0 := p0) (p1 := q5) hN h86 h103 h104 h107 hq8) (cwV 2 hts gX11_soon_X11_soonLid rfl rfl rfl (by decide +kernel) ⟨Nat.le_of_ble_eq_true rfl, Nat.le_of_ble_eq_true rfl⟩) (preV_of hK hP (by omega) h86 rfl) rfl rfl hl.1 rfl (lv_room (Nat.le_of_ble_eq_true rfl)) dX11_soon_55 ⟨Nat.le_of_ble_eq_true rfl, Nat.le_of_ble_eq_true rfl⟩) hA hP hS (fun H locs hP hS hbz_q8 => ?_)
        obtain rfl := Option.some.inj hf
        rw [← hQ]
        exact e_iW hx hb hr rfl (tP_i _) hP hS ⟨hag, h103, h104, h107⟩ hlocks dX11_soon_58
      · have hf := it_e c7 hf
        refine lv_aload_n hx hb dX11_soon_38 rfl (lv_at hl 1 rfl) ?_
        refine r_get (own := RX11) (T := TX11) (n := 32) (ci := 11) (v := .ref (ad 107)) hx hb hts nX11 hown hK hP (by omega) h86 rfl 29 (by decide) k0 rfl dX11_soon_39 ?_
        refine lv_bipush (v := 12) hx hb dX11_soon_42 (by decide) ?_
        refine lv_iload_n hx hb dX11_soon_44 rfl (lv_at hl 0 rfl) ?_
        refine lv_imul hx hb dX11_soon_45 ?_
        refine lv_iload_n hx hb dX11_soon_46 rfl (lv_at hl 2 rfl) ?_
        refine lv_iadd hx hb dX11_soon_47 ?_
        obtain ⟨i10, x9, ex9, hf⟩ := ri_e hf
        refine r_iald hx hb hK hP (by omega) h107 i10 dX11_soon_48 ex9 ?_
        refine lv_goto (tgt := 58) hx hb dX11_soon_49 (by decide) ?_
        obtain rfl := Option.some.inj hf
        rw [← hQ]
        exact e_iW hx hb hr rfl (tP_i _) hP hS ⟨hag, h103, h104, h107⟩ hlocks dX11_soon_58
    · have hf := it_e c4 hf
      refine lv_bipush (v := (-3)) hx hb dX11_soon_21 (by decide) ?_
      obtain rfl := Option.some.inj hf
      rw [← hQ]
      exact e_iW hx hb hr rfl (tP_i _) hP hS ⟨hag, h103, h104, h107⟩ hlocks dX11_soon_23
  · have hf := it_e c2 hf
    refine lv_bipush (v := (-2)) hx hb dX11_soon_8 (by decide) ?_
    obtain rfl := Option.some.inj hf
    rw [← hQ]
    exact e_iW hx hb hr rfl (tP_i _) hP hS ⟨hag, h103, h104, h107⟩ hlocks dX11_soon_10

def LX11_answersOf_9 (p0 : Int32) (p1 : Int32) (p2 : Int32) (p3 : Int32) (m_down : Nat → Int32) (m_walk : Nat → Int32) (ko : Int32 → Int32 → Int32 → Option (Int32)) : Nat → Int32 → Int32 → Int32 → Option (Int32)
  | 0, _, _, _ => none
  | n + 1, x1, x2, x3 =>
    if p2 ≤ x3 then
      ko x1 x2 x3
    else
      lt (((p1 >>> ((4 * x3) &&& 31)) &&& 15) : Int32) fun x8 =>
      (if x2 = 0 then
        (f_X11_wayOf p0 m_down).bind fun q18 =>
        (f_X11_has q18 x8).bind fun q19 =>
        if q19 = 0 then
          some (0)
        else
          some ((1 <<< (x3 &&& 31)))
      else
        some (0) : Option (Int32)).bind fun q9 =>
      lt ((x1 ||| q9) : Int32) fun x10 =>
      (if x2 = 0 then
        if p3 < 0 then
          some (0)
        else
          (f_X11_walkOf p0 x8 m_down m_walk).bind fun q15 =>
          if p3 < q15 then
            some (0)
          else
            some (1)
      else
        some (1) : Option (Int32)).bind fun q11 =>
      lt (x3 + 1 : Int32) fun x12 =>
      LX11_answersOf_9 p0 p1 p2 p3 m_down m_walk ko n x10 q11 x12
theorem LX11_answersOf_9_z (p0 : Int32) (p1 : Int32) (p2 : Int32) (p3 : Int32) (m_down : Nat → Int32) (m_walk : Nat → Int32) (ko : Int32 → Int32 → Int32 → Option (Int32)) (x1 : Int32) (x2 : Int32) (x3 : Int32) : LX11_answersOf_9 p0 p1 p2 p3 m_down m_walk ko 0 x1 x2 x3 = none := rfl
theorem LX11_answersOf_9_s (p0 : Int32) (p1 : Int32) (p2 : Int32) (p3 : Int32) (m_down : Nat → Int32) (m_walk : Nat → Int32) (ko : Int32 → Int32 → Int32 → Option (Int32)) (n : Nat) (x1 : Int32) (x2 : Int32) (x3 : Int32) : LX11_answersOf_9 p0 p1 p2 p3 m_down m_walk ko (n + 1) x1 x2 x3 =
    if p2 ≤ x3 then
      ko x1 x2 x3
    else
      lt (((p1 >>> ((4 * x3) &&& 31)) &&& 15) : Int32) fun x8 =>
      (if x2 = 0 then
        (f_X11_wayOf p0 m_down).bind fun q18 =>
        (f_X11_has q18 x8).bind fun q19 =>
        if q19 = 0 then
          some (0)
        else
          some ((1 <<< (x3 &&& 31)))
      else
        some (0) : Option (Int32)).bind fun q9 =>
      lt ((x1 ||| q9) : Int32) fun x10 =>
      (if x2 = 0 then
        if p3 < 0 then
          some (0)
        else
          (f_X11_walkOf p0 x8 m_down m_walk).bind fun q15 =>
          if p3 < q15 then
            some (0)
          else
            some (1)
      else
        some (1) : Option (Int32)).bind fun q11 =>
      lt (x3 + 1 : Int32) fun x12 =>
      LX11_answersOf_9 p0 p1 p2 p3 m_down m_walk ko n x10 q11 x12 := rfl
def f_X11_answersOf (p0 : Int32) (p1 : Int32) (p2 : Int32) (p3 : Int32) (m_down : Nat → Int32) (m_walk : Nat → Int32) : Option (Int32) :=
  LX11_answersOf_9 p0 p1 p2 p3 m_down m_walk (fun x4 x5 x6 =>
    some (x4)) FU 0 0 0
abbrev rmX11_answersOf : Room := { frames := 2, cells := 0, slots := 0, locals := 48 }
set_option maxHeartbeats 4000000 in
set_option maxRecDepth 100000 in
theorem c_X11_answersOf {l : Launch} {D : va_G} {g : Nat → ClassId} {N : Nat} {ad : Nat → Nat} {C : Nat → va_E} {sz : Nat} {m_len : Int32} {m_rm : Int32} {m_there : Int32} {m_lift : Int32} {m_blank : Int32} {m_fm : Int32} {m_at : Int32} {m_pl : Int32} {m_end : Int32} {m_seed : Int32} {m_down : Nat → Int32} {m_walk : Nat → Int32} {p0 : Int32} {p1 : Int32} {p2 : Int32} {p3 : Int32} {rr : Int32} (hN : 109 ≤ N) (h86 : C 86 = .inr (11, [.ref (ad 87), .int m_len, .ref (ad 88), .int m_rm, .int m_there, .ref (ad 89), .ref (ad 90), .ref (ad 91), .ref (ad 92), .ref (ad 93), .ref (ad 94), .ref (ad 95), .ref (ad 96), .ref (ad 97), .ref (ad 98), .ref (ad 99), .ref (ad 100), .ref (ad 101), .int m_lift, .int m_blank, .ref (ad 102), .int m_fm, .int m_at, .int m_pl, .int m_end, .ref (ad 103), .ref (ad 104), .ref (ad 105), .ref (ad 106), .ref (ad 107), .ref (ad 108), .int m_seed])) (h89 : C 89 = aI g 12 m_down) (h91 : C 91 = aI g 12 m_walk) (hf : f_X11_answersOf p0 p1 p2 p3 m_down m_walk = some rr) : Met l yX11_answersOf wsX11_answersOf rmX11_answersOf (PcW D g N ad C sz [.ref (ad 86), .int p0, .int p1, .int p2, .int p3]) (QiR sz tP rr) 0 0 (An sz) := by
  refine Met.ofW (cc := cX11_answersOf) (maxL := 9) (ret := (some .int)) (by decide) rfl ?_
  intro p e s m args below meth c s₁ B hml hv
  obtain ⟨hav, hsz, hK, hP⟩ := hv
  subst hsz
  have hx := B.exec
  have hb := B.bytes
  have hr := B.returns
  have hts := atoms_spec (ws := wsX11_answersOf) B.pre
  have hown : s.vm.findClass RX11 = some m.cls := findClass_of_methodNamed B.named
  have hlocks := B.notSynchronized
  generalize hQ : MQ below (QiR s.heap.size tP rr) args s 0 0 (An s.heap.size) = QQ
  have hS : va_S (An s.heap.size) s.heap s.heap [] := va_S.rf
  have hA : ∀ q, s.heap.size ≤ q → (An s.heap.size) q := fun q h => h
  have hE := lg_entry_eq m [.ref (ad 86), .int p0, .int p1, .int p2, .int p3] 9
  rw [← hav] at hE
  rw [hE]
  have hl := lv_entry [.ref (ad 86), .int p0, .int p1, .int p2, .int p3] (n := 9) (Nat.le_of_ble_eq_true rfl)
  generalize (lg_sl [.ref (ad 86), .int p0, .int p1, .int p2, .int p3] ++ List.replicate (9 - (lg_sl [.ref (ad 86), .int p0, .int p1, .int p2, .int p3]).length) Slot.unset).toArray = ls at hl ⊢
  have hl : lv_has ls 9 [(0, .ref (ad 86)), (1, .int p0), (2, .int p1), (3, .int p2), (4, .int p3)] := hl
  clear hE
  unfold f_X11_answersOf at hf
  suffices hgo : ∀ (H : Heap) (locs : List Loc), va_P D vwCl (wd N ad C) H → va_S (An s.heap.size) s.heap H locs → W p l e (headSpec wsX11_answersOf rmX11_answersOf).room s m args below meth c H locs 0 0 QQ (F0 m 0 ls []) from hgo s.heap [] hP hS
  clear hS hP
  intro H locs hP hS
  refine lv_iconst (v := 0) hx hb dX11_answersOf_0 (by decide) ?_
  refine lv_istore (lv' := [(5, .int 0), (0, .ref (ad 86)), (1, .int p0), (2, .int p1), (3, .int p2), (4, .int p3)]) hx hb dX11_answersOf_1 hl (by decide) rfl (fun ls hl => ?_)
  refine lv_iconst (v := 0) hx hb dX11_answersOf_3 (by decide) ?_
  refine lv_istore (lv' := [(6, .int 0), (5, .int 0), (0, .ref (ad 86)), (1, .int p0), (2, .int p1), (3, .int p2), (4, .int p3)]) hx hb dX11_answersOf_4 hl (by decide) rfl (fun ls hl => ?_)
  refine lv_iconst (v := 0) hx hb dX11_answersOf_6 (by decide) ?_
  refine lv_istore (lv' := [(7, .int 0), (6, .int 0), (5, .int 0), (0, .ref (ad 86)), (1, .int p0), (2, .int p1), (3, .int p2), (4, .int p3)]) hx hb dX11_answersOf_7 hl (by decide) rfl (fun ls hl => ?_)
  have key9 : ∀ (ko : Int32 → Int32 → Int32 → Option (Int32)), (∀ (x4 : Int32) (x5 : Int32) (x6 : Int32) (C : Nat → va_E) (H : Heap) (locs : List Loc) (ls : Array Slot), va_P D vwCl (wd N ad C) H → va_S (An s.heap.size) s.heap H locs → C 86 = .inr (11, [.ref (ad 87), .int m_len, .ref (ad 88), .int m_rm, .int m_there, .ref (ad 89), .ref (ad 90), .ref (ad 91), .ref (ad 92), .ref (ad 93), .ref (ad 94), .ref (ad 95), .ref (ad 96), .ref (ad 97), .ref (ad 98), .ref (ad 99), .ref (ad 100), .ref (ad 101), .int m_lift, .int m_blank, .ref (ad 102), .int m_fm, .int m_at, .int m_pl, .int m_end, .ref (ad 103), .ref (ad 104), .ref (ad 105), .ref (ad 106), .ref (ad 107), .ref (ad 108), .int m_seed]) → C 89 = aI g 12 m_down → C 91 = aI g 12 m_walk → lv_has ls 9 [(0, .ref (ad 86)), (1, .int p0), (2, .int p1), (3, .int p2), (4, .int p3), (5, .int x4), (6, .int x5), (7, .int x6)] → ko x4 x5 x6 = some rr → W p l e (headSpec wsX11_answersOf rmX11_answersOf).room s m args below meth c H locs 0 0 QQ (F0 m 92 ls [])) → ∀ (n : Nat) (x1 : Int32) (x2 : Int32) (x3 : Int32) (C : Nat → va_E) (H : Heap) (locs : List Loc) (ls : Array Slot), va_P D vwCl (wd N ad C) H → va_S (An s.heap.size) s.heap H locs → C 86 = .inr (11, [.ref (ad 87), .int m_len, .ref (ad 88), .int m_rm, .int m_there, .ref (ad 89), .ref (ad 90), .ref (ad 91), .ref (ad 92), .ref (ad 93), .ref (ad 94), .ref (ad 95), .ref (ad 96), .ref (ad 97), .ref (ad 98), .ref (ad 99), .ref (ad 100), .ref (ad 101), .int m_lift, .int m_blank, .ref (ad 102), .int m_fm, .int m_at, .int m_pl, .int m_end, .ref (ad 103), .ref (ad 104), .ref (ad 105), .ref (ad 106), .ref (ad 107), .ref (ad 108), .int m_seed]) → C 89 = aI g 12 m_down → C 91 = aI g 12 m_walk → lv_has ls 9 [(0, .ref (ad 86)), (1, .int p0), (2, .int p1), (3, .int p2), (4, .int p3), (5, .int x1), (6, .int x2), (7, .int x3)] → LX11_answersOf_9 p0 p1 p2 p3 m_down m_walk ko n x1 x2 x3 = some rr → W p l e (headSpec wsX11_answersOf rmX11_answersOf).room s m args below meth c H locs 0 0 QQ (F0 m 9 ls []) := by
    intro ko hko n
    induction n with
    | zero =>
      intro x1 x2 x3 C H locs ls hP hS h86 h89 h91 hl hf
      rw [LX11_answersOf_9_z] at hf
      cases hf
    | succ n ih =>
      intro x1 x2 x3 C H locs ls hP hS h86 h89 h91 hl hf
      rw [LX11_answersOf_9_s] at hf
      refine lv_iload hx hb dX11_answersOf_9 (lv_at hl 7 rfl) ?_
      refine lv_iload_n hx hb dX11_answersOf_11 rfl (lv_at hl 3 rfl) ?_
      refine lv_icmp_ge (tgt := 92) hx hb dX11_answersOf_12 (by decide) (fun c7 => ?_) (fun c7 => ?_)
      · have hf := it_e c7 hf
        exact hko x1 x2 x3 C H locs ls hP hS h86 h89 h91 (lv_sub hl [0, 1, 2, 3, 4, 5, 6, 7] rfl) hf
      · have hf := ie_e c7 hf
        refine lv_iload_n hx hb dX11_answersOf_15 rfl (lv_at hl 2 rfl) ?_
        refine lv_iconst (v := 4) hx hb dX11_answersOf_16 (by decide) ?_
        refine lv_iload hx hb dX11_answersOf_17 (lv_at hl 7 rfl) ?_
        refine lv_imul hx hb dX11_answersOf_19 ?_
        refine lv_ishr hx hb dX11_answersOf_20 ?_
        refine lv_bipush (v := 15) hx hb dX11_answersOf_21 (by decide) ?_
        refine lv_iand hx hb dX11_answersOf_23 ?_
        obtain ⟨x8, ex8, hf⟩ := lt_e hf
        refine tp_i ex8 ?_
        refine lv_istore (lv' := [(8, .int x8), (0, .ref (ad 86)), (1, .int p0), (2, .int p1), (3, .int p2), (4, .int p3), (5, .int x1), (6, .int x2), (7, .int x3)]) hx hb dX11_answersOf_24 hl (by decide) rfl (fun ls hl => ?_)
        refine lv_iload hx hb dX11_answersOf_26 (lv_at hl 6 rfl) ?_
        refine lv_iload hx hb dX11_answersOf_28 (lv_at hl 7 rfl) ?_
        obtain ⟨q9, htq9, hf⟩ := bd_e hf
        have jnq9 : ∀ (C : Nat → va_E) (H : Heap) (locs : List Loc) (ls : Array Slot), va_P D vwCl (wd N ad C) H → va_S (An s.heap.size) s.heap H locs → C 86 = .inr (11, [.ref (ad 87), .int m_len, .ref (ad 88), .int m_rm, .int m_there, .ref (ad 89), .ref (ad 90), .ref (ad 91), .ref (ad 92), .ref (ad 93), .ref (ad 94), .ref (ad 95), .ref (ad 96), .ref (ad 97), .ref (ad 98), .ref (ad 99), .ref (ad 100), .ref (ad 101), .int m_lift, .int m_blank, .ref (ad 102), .int m_fm, .int m_at, .int m_pl, .int m_end, .ref (ad 103), .ref (ad 104), .ref (ad 105), .ref (ad 106), .ref (ad 107), .ref (ad 108), .int m_seed]) → C 89 = aI g 12 m_down → C 91 = aI g 12 m_walk → lv_has ls 9 [(0, .ref (ad 86)), (1, .int p0), (2, .int p1), (3, .int p2), (4, .int p3), (5, .int x1), (6, .int x2), (7, .int x3), (8, .int x8)] → W p l e (headSpec wsX11_answersOf rmX11_answersOf).room s m args below meth c H locs 0 0 QQ (F0 m 54 ls [.int q9, .int x1]) := by
          intro C H locs ls hP hS h86 h89 h91 hl
          refine lv_ior hx hb dX11_answersOf_54 ?_
          obtain ⟨x10, ex10, hf⟩ := lt_e hf
          refine tp_i ex10 ?_
          refine lv_istore (lv' := [(5, .int x10), (0, .ref (ad 86)), (1, .int p0), (2, .int p1), (3, .int p2), (4, .int p3), (6, .int x2), (7, .int x3), (8, .int x8)]) hx hb dX11_answersOf_55 hl (by decide) rfl (fun ls hl => ?_)
          refine lv_iload hx hb dX11_answersOf_57 (lv_at hl 6 rfl) ?_
          obtain ⟨q11, htq11, hf⟩ := bd_e hf
          have jnq11 : ∀ (C : Nat → va_E) (H : Heap) (locs : List Loc) (ls : Array Slot), va_P D vwCl (wd N ad C) H → va_S (An s.heap.size) s.heap H locs → C 86 = .inr (11, [.ref (ad 87), .int m_len, .ref (ad 88), .int m_rm, .int m_there, .ref (ad 89), .ref (ad 90), .ref (ad 91), .ref (ad 92), .ref (ad 93), .ref (ad 94), .ref (ad 95), .ref (ad 96), .ref (ad 97), .ref (ad 98), .ref (ad 99), .ref (ad 100), .ref (ad 101), .int m_lift, .int m_blank, .ref (ad 102), .int m_fm, .int m_at, .int m_pl, .int m_end, .ref (ad 103), .ref (ad 104), .ref (ad 105), .ref (ad 106), .ref (ad 107), .ref (ad 108), .int m_seed]) → C 89 = aI g 12 m_down → C 91 = aI g 12 m_walk → lv_has ls 9 [(0, .ref (ad 86)), (1, .int p0), (2, .int p1), (3, .int p2), (4, .int p3), (5, .int x10), (6, .int x2), (7, .int x3), (8, .int x8)] → W p l e (headSpec wsX11_answersOf rmX11_answersOf).room s m args below meth c H locs 0 0 QQ (F0 m 84 ls [.int q11]) := by
            intro C H locs ls hP hS h86 h89 h91 hl
            refine lv_istore (lv' := [(6, .int q11), (0, .ref (ad 86)), (1, .int p0), (2, .int p1), (3, .int p2), (4, .int p3), (5, .int x10), (7, .int x3), (8, .int x8)]) hx hb dX11_answersOf_84 hl (by decide) rfl (fun ls hl => ?_)
            obtain ⟨x12, ex12, hf⟩ := lt_e hf
            refine lv_iinc (v := x12) (lv' := [(7, .int x12), (6, .int q11), (0, .ref (ad 86)), (1, .int p0), (2, .int p1), (3, .int p2), (4, .int p3), (5, .int x10), (8, .int x8)]) hx hb dX11_answersOf_86 hl (k := 7) rfl (by rw [ex12]; rfl) (by decide) rfl (fun ls hl => ?_)
            refine lv_goto (tgt := 9) hx hb dX11_answersOf_89 (by decide) ?_
            exact ih x10 q11 x12 C H locs ls hP hS h86 h89 h91 (lv_sub hl [2, 3, 4, 5, 6, 7, 1, 0] rfl) hf
          clear hf
          have hf := htq11
          refine lv_if_ne (tgt := 79) hx hb dX11_answersOf_59 (by decide) (fun c13 => ?_) (fun c13 => ?_)
          · have hf := ie_e c13 hf
            refine lv_iconst (v := 1) hx hb dX11_answersOf_79 (by decide) ?_
            refine lv_goto (tgt := 84) hx hb dX11_answersOf_80 (by decide) ?_
            obtain rfl := Option.some.inj hf
            exact jnq11 C H locs ls hP hS h86 h89 h91 (lv_sub hl [1, 2, 3, 4, 5, 0, 6, 7, 8] rfl)
          · have hf := it_e c13 hf
            refine lv_iload hx hb dX11_answersOf_62 (lv_at hl 5 rfl) ?_
            refine lv_if_lt (tgt := 83) hx hb dX11_answersOf_64 (by decide) (fun c14 => ?_) (fun c14 => ?_)
            · have hf := it_e c14 hf
              refine lv_iconst (v := 0) hx hb dX11_answersOf_83 (by decide) ?_
              obtain rfl := Option.some.inj hf
              exact jnq11 C H locs ls hP hS h86 h89 h91 (lv_sub hl [1, 2, 3, 4, 5, 0, 6, 7, 8] rfl)
            · have hf := ie_e c14 hf
              refine lv_aload_n hx hb dX11_answersOf_67 rfl (lv_at hl 1 rfl) ?_
              refine lv_iload_n hx hb dX11_answersOf_68 rfl (lv_at hl 2 rfl) ?_
              refine lv_iload hx hb dX11_answersOf_69 (lv_at hl 8 rfl) ?_
              obtain ⟨q15, hq15, hf⟩ := bd_e hf
              refine k_iR (va_runV (C := RX11) (As := [.int p0, .int x8]) (rest := []) ⟨hx, hb, hml, hown, hts⟩ (c_X11_walkOf (l := l) (sz := H.size) (p0 := p0) (p1 := x8) hN h86 h89 h91 hq15) (cwV 2 hts gX11_answersOf_X11_walkOf rfl rfl rfl (by decide +kernel) ⟨Nat.le_of_ble_eq_true rfl, Nat.le_of_ble_eq_true rfl⟩) (preV_of hK hP (by omega) h86 rfl) rfl rfl hl.1 rfl (lv_room (Nat.le_of_ble_eq_true rfl)) dX11_answersOf_71 ⟨Nat.le_of_ble_eq_true rfl, Nat.le_of_ble_eq_true rfl⟩) hA hP hS (fun H locs hP hS hbz_q15 => ?_)
              refine lv_iload hx hb dX11_answersOf_74 (lv_at hl 5 rfl) ?_
              refine lv_icmp_gt (tgt := 83) hx hb dX11_answersOf_76 (by decide) (fun c16 => ?_) (fun c16 => ?_)
              · have hf := it_e c16 hf
                refine lv_iconst (v := 0) hx hb dX11_answersOf_83 (by decide) ?_
                obtain rfl := Option.some.inj hf
                exact jnq11 C H locs ls hP hS h86 h89 h91 (lv_sub hl [1, 2, 3, 4, 5, 0, 6, 7, 8] rfl)
              · have hf := ie_e c16 hf
                refine lv_iconst (v := 1) hx hb dX11_answersOf_79 (by decide) ?_
                refine lv_goto (tgt := 84) hx hb dX11_answersOf_80 (by decide) ?_
                obtain rfl := Option.some.inj hf
                exact jnq11 C H locs ls hP hS h86 h89 h91 (lv_sub hl [1, 2, 3, 4, 5, 0, 6, 7, 8] rfl)
        clear hf
        have hf := htq9
        refine lv_if_ne (tgt := 53) hx hb dX11_answersOf_30 (by decide) (fun c17 => ?_) (fun c17 => ?_)
        · have hf := ie_e c17 hf
          refine lv_iconst (v := 0) hx hb dX11_answersOf_53 (by decide) ?_
          obtain rfl := Option.some.inj hf
          exact jnq9 C H locs ls hP hS h86 h89 h91 (lv_sub hl [1, 2, 3, 4, 5, 6, 7, 8, 0] rfl)
        · have hf := it_e c17 hf
          refine lv_aload_n hx hb dX11_answersOf_33 rfl (lv_at hl 1 rfl) ?_
          refine lv_iload_n hx hb dX11_answersOf_34 rfl (lv_at hl 2 rfl) ?_
          obtain ⟨q18, hq18, hf⟩ := bd_e hf
          refine k_iR (va_runV (C := RX11) (As := [.int p0]) (rest := [.int x1]) ⟨hx, hb, hml, hown, hts⟩ (c_X11_wayOf (l := l) (sz := H.size) (p0 := p0) hN h86 h89 hq18) (cwV 1 hts gX11_answersOf_X11_wayOf rfl rfl rfl (by decide +kernel) ⟨Nat.le_of_ble_eq_true rfl, Nat.le_of_ble_eq_true rfl⟩) (preV_of hK hP (by omega) h86 rfl) rfl rfl hl.1 rfl (lv_room (Nat.le_of_ble_eq_true rfl)) dX11_answersOf_35 ⟨Nat.le_of_ble_eq_true rfl, Nat.le_of_ble_eq_true rfl⟩) hA hP hS (fun H locs hP hS hbz_q18 => ?_)
          refine lv_iload hx hb dX11_answersOf_38 (lv_at hl 0 rfl) ?_
          obtain ⟨q19, hq19, hf⟩ := bd_e hf
          refine k_iR (va_runS (As := [.int q18, .int x8]) (rest := [.int x1]) ⟨hx, hb, hml, hown, hts⟩ (c_X11_has (l := l) (sz := H.size) (p0 := q18) (p1 := x8) hq19) (va_cwS 2 hts gX11_answersOf_X11_has rfl rfl rfl (by decide +kernel) ⟨Nat.le_of_ble_eq_true rfl, Nat.le_of_ble_eq_true rfl⟩) preS0 rfl rfl hl.1 rfl (lv_room (Nat.le_of_ble_eq_true rfl)) dX11_answersOf_40 ⟨Nat.le_of_ble_eq_true rfl, Nat.le_of_ble_eq_true rfl⟩) hA hP hS (fun H locs hP hS hbz_q19 => ?_)
          refine lv_if_eq (tgt := 53) hx hb dX11_answersOf_43 (by decide) (fun c20 => ?_) (fun c20 => ?_)
          · have hf := it_e c20 hf
            refine lv_iconst (v := 0) hx hb dX11_answersOf_53 (by decide) ?_
            obtain rfl := Option.some.inj hf
            exact jnq9 C H locs ls hP hS h86 h89 h91 (lv_sub hl [1, 2, 3, 4, 5, 6, 7, 8, 0] rfl)
          · have hf := ie_e c20 hf
            refine lv_iconst (v := 1) hx hb dX11_answersOf_46 (by decide) ?_
            refine lv_iload hx hb dX11_answersOf_47 (lv_at hl 8 rfl) ?_
            refine lv_ishl hx hb dX11_answersOf_49 ?_
            refine lv_goto (tgt := 54) hx hb dX11_answersOf_50 (by decide) ?_
            obtain rfl := Option.some.inj hf
            exact jnq9 C H locs ls hP hS h86 h89 h91 (lv_sub hl [1, 2, 3, 4, 5, 6, 7, 8, 0] rfl)
  refine key9 _ (fun x4 x5 x6 C H locs ls hP hS h86 h89 h91 hl hf => ?_) FU 0 0 0 C H locs ls hP hS h86 h89 h91 (lv_sub hl [3, 4, 5, 6, 7, 2, 1, 0] rfl) hf
  refine lv_iload hx hb dX11_answersOf_92 (lv_at hl 5 rfl) ?_
  obtain rfl := Option.some.inj hf
  rw [← hQ]
  exact e_iR hx hb hr rfl (tP_i _) hS hlocks dX11_answersOf_94

def LX11_areLids_5 (p0 : Int32) (p1 : Int32) (m_there : Int32) (ko : Int32 → Int32 → Option (Int32)) : Nat → Int32 → Int32 → Option (Int32)
  | 0, _, _ => none
  | n + 1, x1, x2 =>
    if p1 ≤ x2 then
      ko x1 x2
    else
      (if x1 = 0 then
        some (0)
      else
        (f_X11_isNode ((p0 >>> ((4 * x2) &&& 31)) &&& 15) m_there).bind fun q9 =>
        if q9 = 0 then
          some (0)
        else
          some (1) : Option (Int32)).bind fun q6 =>
      lt (x2 + 1 : Int32) fun x7 =>
      LX11_areLids_5 p0 p1 m_there ko n q6 x7
theorem LX11_areLids_5_z (p0 : Int32) (p1 : Int32) (m_there : Int32) (ko : Int32 → Int32 → Option (Int32)) (x1 : Int32) (x2 : Int32) : LX11_areLids_5 p0 p1 m_there ko 0 x1 x2 = none := rfl
theorem LX11_areLids_5_s (p0 : Int32) (p1 : Int32) (m_there : Int32) (ko : Int32 → Int32 → Option (Int32)) (n : Nat) (x1 : Int32) (x2 : Int32) : LX11_areLids_5 p0 p1 m_there ko (n + 1) x1 x2 =
    if p1 ≤ x2 then
      ko x1 x2
    else
      (if x1 = 0 then
        some (0)
      else
        (f_X11_isNode ((p0 >>> ((4 * x2) &&& 31)) &&& 15) m_there).bind fun q9 =>
        if q9 = 0 then
          some (0)
        else
          some (1) : Option (Int32)).bind fun q6 =>
      lt (x2 + 1 : Int32) fun x7 =>
      LX11_areLids_5 p0 p1 m_there ko n q6 x7 := rfl
def f_X11_areLids (p0 : Int32) (p1 : Int32) (m_there : Int32) : Option (Int32) :=
  LX11_areLids_5 p0 p1 m_there (fun x3 x4 =>
    bq (x3) <|
    some (x3)) FU 1 0
abbrev rmX11_areLids : Room := { frames := 2, cells := 0, slots := 0, locals := 46 }
set_option maxHeartbeats 4000000 in
set_option maxRecDepth 100000 in
theorem c_X11_areLids {l : Launch} {D : va_G} {g : Nat → ClassId} {N : Nat} {ad : Nat → Nat} {C : Nat → va_E} {sz : Nat} {m_len : Int32} {m_rm : Int32} {m_there : Int32} {m_lift : Int32} {m_blank : Int32} {m_fm : Int32} {m_at : Int32} {m_pl : Int32} {m_end : Int32} {m_seed : Int32} {p0 : Int32} {p1 : Int32} {rr : Int32} (hN : 109 ≤ N) (h86 : C 86 = .inr (11, [.ref (ad 87), .int m_len, .ref (ad 88), .int m_rm, .int m_there, .ref (ad 89), .ref (ad 90), .ref (ad 91), .ref (ad 92), .ref (ad 93), .ref (ad 94), .ref (ad 95), .ref (ad 96), .ref (ad 97), .ref (ad 98), .ref (ad 99), .ref (ad 100), .ref (ad 101), .int m_lift, .int m_blank, .ref (ad 102), .int m_fm, .int m_at, .int m_pl, .int m_end, .ref (ad 103), .ref (ad 104), .ref (ad 105), .ref (ad 106), .ref (ad 107), .ref (ad 108), .int m_seed])) (hf : f_X11_areLids p0 p1 m_there = some rr) : Met l yX11_areLids wsX11_areLids rmX11_areLids (PcW D g N ad C sz [.ref (ad 86), .int p0, .int p1]) (QiR sz bz rr) 0 0 (An sz) := by
  refine Met.ofW (cc := cX11_areLids) (maxL := 5) (ret := (some .boolean)) (by decide) rfl ?_
  intro p e s m args below meth c s₁ B hml hv
  obtain ⟨hav, hsz, hK, hP⟩ := hv
  subst hsz
  have hx := B.exec
  have hb := B.bytes
  have hr := B.returns
  have hts := atoms_spec (ws := wsX11_areLids) B.pre
  have hown : s.vm.findClass RX11 = some m.cls := findClass_of_methodNamed B.named
  have hlocks := B.notSynchronized
  generalize hQ : MQ below (QiR s.heap.size bz rr) args s 0 0 (An s.heap.size) = QQ
  have hS : va_S (An s.heap.size) s.heap s.heap [] := va_S.rf
  have hA : ∀ q, s.heap.size ≤ q → (An s.heap.size) q := fun q h => h
  have hE := lg_entry_eq m [.ref (ad 86), .int p0, .int p1] 5
  rw [← hav] at hE
  rw [hE]
  have hl := lv_entry [.ref (ad 86), .int p0, .int p1] (n := 5) (Nat.le_of_ble_eq_true rfl)
  generalize (lg_sl [.ref (ad 86), .int p0, .int p1] ++ List.replicate (5 - (lg_sl [.ref (ad 86), .int p0, .int p1]).length) Slot.unset).toArray = ls at hl ⊢
  have hl : lv_has ls 5 [(0, .ref (ad 86)), (1, .int p0), (2, .int p1)] := hl
  clear hE
  unfold f_X11_areLids at hf
  suffices hgo : ∀ (H : Heap) (locs : List Loc), va_P D vwCl (wd N ad C) H → va_S (An s.heap.size) s.heap H locs → W p l e (headSpec wsX11_areLids rmX11_areLids).room s m args below meth c H locs 0 0 QQ (F0 m 0 ls []) from hgo s.heap [] hP hS
  clear hS hP
  intro H locs hP hS
  refine lv_iconst (v := 1) hx hb dX11_areLids_0 (by decide) ?_
  refine lv_istore_n (lv' := [(3, .int 1), (0, .ref (ad 86)), (1, .int p0), (2, .int p1)]) hx hb dX11_areLids_1 rfl hl (by decide) rfl (fun ls hl => ?_)
  refine lv_iconst (v := 0) hx hb dX11_areLids_2 (by decide) ?_
  refine lv_istore (lv' := [(4, .int 0), (3, .int 1), (0, .ref (ad 86)), (1, .int p0), (2, .int p1)]) hx hb dX11_areLids_3 hl (by decide) rfl (fun ls hl => ?_)
  have key5 : ∀ (ko : Int32 → Int32 → Option (Int32)), (∀ (x3 : Int32) (x4 : Int32) (C : Nat → va_E) (H : Heap) (locs : List Loc) (ls : Array Slot), va_P D vwCl (wd N ad C) H → va_S (An s.heap.size) s.heap H locs → C 86 = .inr (11, [.ref (ad 87), .int m_len, .ref (ad 88), .int m_rm, .int m_there, .ref (ad 89), .ref (ad 90), .ref (ad 91), .ref (ad 92), .ref (ad 93), .ref (ad 94), .ref (ad 95), .ref (ad 96), .ref (ad 97), .ref (ad 98), .ref (ad 99), .ref (ad 100), .ref (ad 101), .int m_lift, .int m_blank, .ref (ad 102), .int m_fm, .int m_at, .int m_pl, .int m_end, .ref (ad 103), .ref (ad 104), .ref (ad 105), .ref (ad 106), .ref (ad 107), .ref (ad 108), .int m_seed]) → lv_has ls 5 [(0, .ref (ad 86)), (1, .int p0), (2, .int p1), (3, .int x3), (4, .int x4)] → ko x3 x4 = some rr → W p l e (headSpec wsX11_areLids rmX11_areLids).room s m args below meth c H locs 0 0 QQ (F0 m 43 ls [])) → ∀ (n : Nat) (x1 : Int32) (x2 : Int32) (C : Nat → va_E) (H : Heap) (locs : List Loc) (ls : Array Slot), va_P D vwCl (wd N ad C) H → va_S (An s.heap.size) s.heap H locs → C 86 = .inr (11, [.ref (ad 87), .int m_len, .ref (ad 88), .int m_rm, .int m_there, .ref (ad 89), .ref (ad 90), .ref (ad 91), .ref (ad 92), .ref (ad 93), .ref (ad 94), .ref (ad 95), .ref (ad 96), .ref (ad 97), .ref (ad 98), .ref (ad 99), .ref (ad 100), .ref (ad 101), .int m_lift, .int m_blank, .ref (ad 102), .int m_fm, .int m_at, .int m_pl, .int m_end, .ref (ad 103), .ref (ad 104), .ref (ad 105), .ref (ad 106), .ref (ad 107), .ref (ad 108), .int m_seed]) → lv_has ls 5 [(0, .ref (ad 86)), (1, .int p0), (2, .int p1), (3, .int x1), (4, .int x2)] → LX11_areLids_5 p0 p1 m_there ko n x1 x2 = some rr → W p l e (headSpec wsX11_areLids rmX11_areLids).room s m args below meth c H locs 0 0 QQ (F0 m 5 ls []) := by
    intro ko hko n
    induction n with
    | zero =>
      intro x1 x2 C H locs ls hP hS h86 hl hf
      rw [LX11_areLids_5_z] at hf
      cases hf
    | succ n ih =>
      intro x1 x2 C H locs ls hP hS h86 hl hf
      rw [LX11_areLids_5_s] at hf
      refine lv_iload hx hb dX11_areLids_5 (lv_at hl 4 rfl) ?_
      refine lv_iload_n hx hb dX11_areLids_7 rfl (lv_at hl 2 rfl) ?_
      refine lv_icmp_ge (tgt := 43) hx hb dX11_areLids_8 (by decide) (fun c5 => ?_) (fun c5 => ?_)
      · have hf := it_e c5 hf
        exact hko x1 x2 C H locs ls hP hS h86 (lv_sub hl [0, 1, 2, 3, 4] rfl) hf
      · have hf := ie_e c5 hf
        refine lv_iload_n hx hb dX11_areLids_11 rfl (lv_at hl 3 rfl) ?_
        obtain ⟨q6, htq6, hf⟩ := bd_e hf
        have jnq6 : ∀ (C : Nat → va_E) (H : Heap) (locs : List Loc) (ls : Array Slot), va_P D vwCl (wd N ad C) H → va_S (An s.heap.size) s.heap H locs → C 86 = .inr (11, [.ref (ad 87), .int m_len, .ref (ad 88), .int m_rm, .int m_there, .ref (ad 89), .ref (ad 90), .ref (ad 91), .ref (ad 92), .ref (ad 93), .ref (ad 94), .ref (ad 95), .ref (ad 96), .ref (ad 97), .ref (ad 98), .ref (ad 99), .ref (ad 100), .ref (ad 101), .int m_lift, .int m_blank, .ref (ad 102), .int m_fm, .int m_at, .int m_pl, .int m_end, .ref (ad 103), .ref (ad 104), .ref (ad 105), .ref (ad 106), .ref (ad 107), .ref (ad 108), .int m_seed]) → lv_has ls 5 [(0, .ref (ad 86)), (1, .int p0), (2, .int p1), (3, .int x1), (4, .int x2)] → W p l e (headSpec wsX11_areLids rmX11_areLids).room s m args below meth c H locs 0 0 QQ (F0 m 36 ls [.int q6]) := by
          intro C H locs ls hP hS h86 hl
          refine lv_istore_n (lv' := [(3, .int q6), (0, .ref (ad 86)), (1, .int p0), (2, .int p1), (4, .int x2)]) hx hb dX11_areLids_36 rfl hl (by decide) rfl (fun ls hl => ?_)
          obtain ⟨x7, ex7, hf⟩ := lt_e hf
          refine lv_iinc (v := x7) (lv' := [(4, .int x7), (3, .int q6), (0, .ref (ad 86)), (1, .int p0), (2, .int p1)]) hx hb dX11_areLids_37 hl (k := 4) rfl (by rw [ex7]; rfl) (by decide) rfl (fun ls hl => ?_)
          refine lv_goto (tgt := 5) hx hb dX11_areLids_40 (by decide) ?_
          exact ih q6 x7 C H locs ls hP hS h86 (lv_sub hl [2, 3, 4, 1, 0] rfl) hf
        clear hf
        have hf := htq6
        refine lv_if_eq (tgt := 35) hx hb dX11_areLids_12 (by decide) (fun c8 => ?_) (fun c8 => ?_)
        · have hf := it_e c8 hf
          refine lv_iconst (v := 0) hx hb dX11_areLids_35 (by decide) ?_
          obtain rfl := Option.some.inj hf
          exact jnq6 C H locs ls hP hS h86 (lv_sub hl [0, 1, 2, 3, 4] rfl)
        · have hf := ie_e c8 hf
          refine lv_aload_n hx hb dX11_areLids_15 rfl (lv_at hl 0 rfl) ?_
          refine lv_iload_n hx hb dX11_areLids_16 rfl (lv_at hl 1 rfl) ?_
          refine lv_iconst (v := 4) hx hb dX11_areLids_17 (by decide) ?_
          refine lv_iload hx hb dX11_areLids_18 (lv_at hl 4 rfl) ?_
          refine lv_imul hx hb dX11_areLids_20 ?_
          refine lv_ishr hx hb dX11_areLids_21 ?_
          refine lv_bipush (v := 15) hx hb dX11_areLids_22 (by decide) ?_
          refine lv_iand hx hb dX11_areLids_24 ?_
          obtain ⟨q9, hq9, hf⟩ := bd_e hf
          refine k_iR (va_runV (C := RX11) (As := [.int ((p0 >>> ((4 * x2) &&& 31)) &&& 15)]) (rest := []) ⟨hx, hb, hml, hown, hts⟩ (c_X11_isNode (l := l) (sz := H.size) (p0 := ((p0 >>> ((4 * x2) &&& 31)) &&& 15)) hN h86 hq9) (cwV 1 hts gX11_areLids_X11_isNode rfl rfl rfl (by decide +kernel) ⟨Nat.le_of_ble_eq_true rfl, Nat.le_of_ble_eq_true rfl⟩) (preV_of hK hP (by omega) h86 rfl) rfl rfl hl.1 rfl (lv_room (Nat.le_of_ble_eq_true rfl)) dX11_areLids_25 ⟨Nat.le_of_ble_eq_true rfl, Nat.le_of_ble_eq_true rfl⟩) hA hP hS (fun H locs hP hS hbz_q9 => ?_)
          refine lv_if_eq (tgt := 35) hx hb dX11_areLids_28 (by decide) (fun c10 => ?_) (fun c10 => ?_)
          · have hf := it_e c10 hf
            refine lv_iconst (v := 0) hx hb dX11_areLids_35 (by decide) ?_
            obtain rfl := Option.some.inj hf
            exact jnq6 C H locs ls hP hS h86 (lv_sub hl [0, 1, 2, 3, 4] rfl)
          · have hf := ie_e c10 hf
            refine lv_iconst (v := 1) hx hb dX11_areLids_31 (by decide) ?_
            refine lv_goto (tgt := 36) hx hb dX11_areLids_32 (by decide) ?_
            obtain rfl := Option.some.inj hf
            exact jnq6 C H locs ls hP hS h86 (lv_sub hl [0, 1, 2, 3, 4] rfl)
  refine key5 _ (fun x3 x4 C H locs ls hP hS h86 hl hf => ?_) FU 1 0 C H locs ls hP hS h86 (lv_sub hl [2, 3, 4, 1, 0] rfl) hf
  refine lv_iload_n hx hb dX11_areLids_43 rfl (lv_at hl 3 rfl) ?_
  obtain ⟨z11, hf⟩ := bq_e hf
  obtain rfl := Option.some.inj hf
  rw [← hQ]
  exact e_zR hx hb hr rfl z11 hS hlocks dX11_areLids_44

def LX11_row_58  (ko : Int32 → (Nat → Int32) → Option (Int32 × (Nat → Int32))) : Nat → Int32 → (Nat → Int32) → Option (Int32 × (Nat → Int32))
  | 0, _, _ => none
  | n + 1, x9, f10 =>
    if 256 ≤ x9 then
      ko x9 f10
    else
      wi f10 256 (x9) (0) fun f14 =>
      lt (x9 + 1 : Int32) fun x16 =>
      LX11_row_58 ko n x16 f14
theorem LX11_row_58_z  (ko : Int32 → (Nat → Int32) → Option (Int32 × (Nat → Int32))) (x9 : Int32) (f10 : Nat → Int32) : LX11_row_58  ko 0 x9 f10 = none := rfl
theorem LX11_row_58_s  (ko : Int32 → (Nat → Int32) → Option (Int32 × (Nat → Int32))) (n : Nat) (x9 : Int32) (f10 : Nat → Int32) : LX11_row_58  ko (n + 1) x9 f10 =
    if 256 ≤ x9 then
      ko x9 f10
    else
      wi f10 256 (x9) (0) fun f14 =>
      lt (x9 + 1 : Int32) fun x16 =>
      LX11_row_58 ko n x16 f14 := rfl
def LX11_row_95 (p0 : Int32) (p1 : Int32) (p2 : Int32) (m_down : Nat → Int32) (m_walk : Nat → Int32) (q17 : Int32) (ko : Int32 → Int32 → Int32 → (Nat → Int32) → Option (Int32 × (Nat → Int32))) : Nat → Int32 → Int32 → Int32 → (Nat → Int32) → Option (Int32 × (Nat → Int32))
  | 0, _, _, _, _ => none
  | n + 1, x18, x19, x20, f21 =>
    if 12 ≤ x20 then
      ko x18 x19 x20 f21
    else
      (f_X11_has q17 x20).bind fun q27 =>
      (if q27 = 0 then
        some (x18, x19, f21)
      else
        (f_X11_answersOf x20 p0 p1 p2 m_down m_walk).bind fun q31 =>
        ri f21 256 (q31) fun x32 =>
        (if x32 = 0 then
          some (1)
        else
          some (0) : Option (Int32)).bind fun q34 =>
        lt ((x18 + q34) : Int32) fun x35 =>
        ri f21 256 (q31) fun x36 =>
        wi f21 256 (q31) ((x36 + 1)) fun f38 =>
        ri f38 256 (q31) fun x40 =>
        (f_X11_greater x19 x40).bind fun q42 =>
        some (x35, q42, f38) : Option (Int32 × Int32 × (Nat → Int32))).bind fun q28 =>
      lt (x20 + 1 : Int32) fun x29 =>
      LX11_row_95 p0 p1 p2 m_down m_walk q17 ko n q28.1 q28.2.1 x29 q28.2.2
theorem LX11_row_95_z (p0 : Int32) (p1 : Int32) (p2 : Int32) (m_down : Nat → Int32) (m_walk : Nat → Int32) (q17 : Int32) (ko : Int32 → Int32 → Int32 → (Nat → Int32) → Option (Int32 × (Nat → Int32))) (x18 : Int32) (x19 : Int32) (x20 : Int32) (f21 : Nat → Int32) : LX11_row_95 p0 p1 p2 m_down m_walk q17 ko 0 x18 x19 x20 f21 = none := rfl
theorem LX11_row_95_s (p0 : Int32) (p1 : Int32) (p2 : Int32) (m_down : Nat → Int32) (m_walk : Nat → Int32) (q17 : Int32) (ko : Int32 → Int32 → Int32 → (Nat → Int32) → Option (Int32 × (Nat → Int32))) (n : Nat) (x18 : Int32) (x19 : Int32) (x20 : Int32) (f21 : Nat → Int32) : LX11_row_95 p0 p1 p2 m_down m_walk q17 ko (n + 1) x18 x19 x20 f21 =
    if 12 ≤ x20 then
      ko x18 x19 x20 f21
    else
      (f_X11_has q17 x20).bind fun q27 =>
      (if q27 = 0 then
        some (x18, x19, f21)
      else
        (f_X11_answersOf x20 p0 p1 p2 m_down m_walk).bind fun q31 =>
        ri f21 256 (q31) fun x32 =>
        (if x32 = 0 then
          some (1)
        else
          some (0) : Option (Int32)).bind fun q34 =>
        lt ((x18 + q34) : Int32) fun x35 =>
        ri f21 256 (q31) fun x36 =>
        wi f21 256 (q31) ((x36 + 1)) fun f38 =>
        ri f38 256 (q31) fun x40 =>
        (f_X11_greater x19 x40).bind fun q42 =>
        some (x35, q42, f38) : Option (Int32 × Int32 × (Nat → Int32))).bind fun q28 =>
      lt (x20 + 1 : Int32) fun x29 =>
      LX11_row_95 p0 p1 p2 m_down m_walk q17 ko n q28.1 q28.2.1 x29 q28.2.2 := rfl
def f_X11_row (p0 : Int32) (p1 : Int32) (p2 : Int32) (p3 : Int32) (m_down : Nat → Int32) (m_walk : Nat → Int32) (m_lik : Nat → Int32) (m_kinds : Nat → Int32) (m_there : Int32) : Option (Int32 × (Nat → Int32)) :=
  (f_X11_in (Int32.toInt64 p1) (1 : Int64) (8 : Int64)).bind fun q1 =>
  if q1 = 0 then
    some ((-3), m_kinds)
  else
    (f_X11_areLids p0 p1 m_there).bind fun q3 =>
    if q3 = 0 then
      some ((-2), m_kinds)
    else
      (f_X11_in (Int32.toInt64 p3) (0 : Int64) (1 : Int64)).bind fun q5 =>
      if q5 = 0 then
        some ((-3), m_kinds)
      else
        (f_X11_in (Int32.toInt64 p2) (-1 : Int64) (999 : Int64)).bind fun q7 =>
        if q7 = 0 then
          some ((-3), m_kinds)
        else
          LX11_row_58  (fun x11 f12 =>
            (f_X11_sources m_lik m_there).bind fun q17 =>
            LX11_row_95 p0 p1 p2 m_down m_walk q17 (fun x22 x23 x24 f25 =>
              if p3 = 0 then
                some (x22, f25)
              else
                some (x23, f25)) FU 0 0 0 f12) FU 0 m_kinds
abbrev rmX11_row : Room := { frames := 3, cells := 0, slots := 0, locals := 76 }
set_option maxHeartbeats 4000000 in
set_option maxRecDepth 100000 in
theorem c_X11_row {l : Launch} {D : va_G} {g : Nat → ClassId} {N : Nat} {ad : Nat → Nat} {C : Nat → va_E} {sz : Nat} {m_len : Int32} {m_rm : Int32} {m_there : Int32} {m_lift : Int32} {m_blank : Int32} {m_fm : Int32} {m_at : Int32} {m_pl : Int32} {m_end : Int32} {m_seed : Int32} {m_down : Nat → Int32} {m_walk : Nat → Int32} {m_lik : Nat → Int32} {m_kinds : Nat → Int32} {p0 : Int32} {p1 : Int32} {p2 : Int32} {p3 : Int32} {rr : Int32 × (Nat → Int32)} (hN : 109 ≤ N) (hI : Inj N ad) (h86 : C 86 = .inr (11, [.ref (ad 87), .int m_len, .ref (ad 88), .int m_rm, .int m_there, .ref (ad 89), .ref (ad 90), .ref (ad 91), .ref (ad 92), .ref (ad 93), .ref (ad 94), .ref (ad 95), .ref (ad 96), .ref (ad 97), .ref (ad 98), .ref (ad 99), .ref (ad 100), .ref (ad 101), .int m_lift, .int m_blank, .ref (ad 102), .int m_fm, .int m_at, .int m_pl, .int m_end, .ref (ad 103), .ref (ad 104), .ref (ad 105), .ref (ad 106), .ref (ad 107), .ref (ad 108), .int m_seed])) (h89 : C 89 = aI g 12 m_down) (h91 : C 91 = aI g 12 m_walk) (h94 : C 94 = aI g 12 m_lik) (h108 : C 108 = aI g 256 m_kinds) (hf : f_X11_row p0 p1 p2 p3 m_down m_walk m_lik m_kinds m_there = some rr) : Met l yX11_row wsX11_row rmX11_row (PcW D g N ad C sz [.ref (ad 86), .int p0, .int p1, .int p2, .int p3]) (QiW D N ad sz tP rr.1 (fun C' => (∀ i : Nat, i ≠ 108 → C' i = C i) ∧ (C' 108 = aI g 256 rr.2))) 0 0 (Aw N ad sz) := by
  refine Met.ofW (cc := cX11_row) (maxL := 10) (ret := (some .int)) (by decide) rfl ?_
  intro p e s m args below meth c s₁ B hml hv
  obtain ⟨hav, hsz, hK, hP⟩ := hv
  subst hsz
  have hx := B.exec
  have hb := B.bytes
  have hr := B.returns
  have hts := atoms_spec (ws := wsX11_row) B.pre
  have hown : s.vm.findClass RX11 = some m.cls := findClass_of_methodNamed B.named
  have hlocks := B.notSynchronized
  generalize hQ : MQ below (QiW D N ad s.heap.size tP rr.1 (fun C' => (∀ i : Nat, i ≠ 108 → C' i = C i) ∧ (C' 108 = aI g 256 rr.2))) args s 0 0 (Aw N ad s.heap.size) = QQ
  have hS : va_S (Aw N ad s.heap.size) s.heap s.heap [] := va_S.rf
  have hA : ∀ q, s.heap.size ≤ q → (Aw N ad s.heap.size) q := fun q h => Or.inr h
  have hAd : ∀ j : Nat, j < N → (Aw N ad s.heap.size) (ad j) := fun j h => Or.inl ⟨j, h, rfl⟩
  obtain ⟨C0, hC0⟩ : ∃ C0 : Nat → va_E, C0 = C := ⟨_, rfl⟩
  have hag : ∀ i : Nat, i ≠ 108 → C i = C0 i := fun i _ => by rw [hC0]
  rw [← hC0] at hQ
  have k0 := hts (.constantLong RX11 91 (8)) (List.mem_of_getElem? (i := 1) rfl)
  have k1 := hts (.constantLong RX11 288 (-1)) (List.mem_of_getElem? (i := 2) rfl)
  have k2 := hts (.constantLong RX11 290 (999)) (List.mem_of_getElem? (i := 3) rfl)
  have k3 := hts (.fieldLink RX11 78 "UpDrainModel" "kinds" "[I") (List.mem_of_getElem? (i := 4) rfl)
  have nX11 : ∀ w ∈ u_ws RX11 TX11 32, w ∈ wsX11_row := fun _ h => List.mem_cons_of_mem _ (List.mem_append_right _ h)
  have hE := lg_entry_eq m [.ref (ad 86), .int p0, .int p1, .int p2, .int p3] 10
  rw [← hav] at hE
  rw [hE]
  have hl := lv_entry [.ref (ad 86), .int p0, .int p1, .int p2, .int p3] (n := 10) (Nat.le_of_ble_eq_true rfl)
  generalize (lg_sl [.ref (ad 86), .int p0, .int p1, .int p2, .int p3] ++ List.replicate (10 - (lg_sl [.ref (ad 86), .int p0, .int p1, .int p2, .int p3]).length) Slot.unset).toArray = ls at hl ⊢
  have hl : lv_has ls 10 [(0, .ref (ad 86)), (1, .int p0), (2, .int p1), (3, .int p2), (4, .int p3)] := hl
  clear hE
  unfold f_X11_row at hf
  suffices hgo : ∀ (H : Heap) (locs : List Loc), va_P D vwCl (wd N ad C) H → va_S (Aw N ad s.heap.size) s.heap H locs → W p l e (headSpec wsX11_row rmX11_row).room s m args below meth c H locs 0 0 QQ (F0 m 0 ls []) from hgo s.heap [] hP hS
  clear hS hP
  intro H locs hP hS
  refine lv_iload_n hx hb dX11_row_0 rfl (lv_at hl 2 rfl) ?_
  refine lv_i2l hx hb dX11_row_1 rfl ?_
  refine lv_lconst (v := 1) hx hb dX11_row_2 (by decide) ?_
  refine lv_ldc2 (own := RX11) hx hb hown k0 dX11_row_3 ?_
  obtain ⟨q1, hq1, hf⟩ := bd_e hf
  refine k_iR (va_runS (As := [.long (Int32.toInt64 p1), .long (1 : Int64), .long (8 : Int64)]) (rest := []) ⟨hx, hb, hml, hown, hts⟩ (c_X11_in (l := l) (sz := H.size) (p0 := (Int32.toInt64 p1)) (p1 := (1 : Int64)) (p2 := (8 : Int64)) hq1) (va_cwS 3 hts gX11_row_X11_in rfl rfl rfl (by decide +kernel) ⟨Nat.le_of_ble_eq_true rfl, Nat.le_of_ble_eq_true rfl⟩) preS0 rfl rfl hl.1 rfl (lv_room (Nat.le_of_ble_eq_true rfl)) dX11_row_6 ⟨Nat.le_of_ble_eq_true rfl, Nat.le_of_ble_eq_true rfl⟩) hA hP hS (fun H locs hP hS hbz_q1 => ?_)
  refine lv_if_ne (tgt := 15) hx hb dX11_row_9 (by decide) (fun c2 => ?_) (fun c2 => ?_)
  · have hf := ie_e c2 hf
    refine lv_aload_n hx hb dX11_row_15 rfl (lv_at hl 0 rfl) ?_
    refine lv_iload_n hx hb dX11_row_16 rfl (lv_at hl 1 rfl) ?_
    refine lv_iload_n hx hb dX11_row_17 rfl (lv_at hl 2 rfl) ?_
    obtain ⟨q3, hq3, hf⟩ := bd_e hf
    refine k_iR (va_runV (C := RX11) (As := [.int p0, .int p1]) (rest := []) ⟨hx, hb, hml, hown, hts⟩ (c_X11_areLids (l := l) (sz := H.size) (p0 := p0) (p1 := p1) hN h86 hq3) (cwV 2 hts gX11_row_X11_areLids rfl rfl rfl (by decide +kernel) ⟨Nat.le_of_ble_eq_true rfl, Nat.le_of_ble_eq_true rfl⟩) (preV_of hK hP (by omega) h86 rfl) rfl rfl hl.1 rfl (lv_room (Nat.le_of_ble_eq_true rfl)) dX11_row_18 ⟨Nat.le_of_ble_eq_true rfl, Nat.le_of_ble_eq_true rfl⟩) hA hP hS (fun H locs hP hS hbz_q3 => ?_)
    refine lv_if_ne (tgt := 27) hx hb dX11_row_21 (by decide) (fun c4 => ?_) (fun c4 => ?_)
    · have hf := ie_e c4 hf
      refine lv_iload hx hb dX11_row_27 (lv_at hl 4 rfl) ?_
      refine lv_i2l hx hb dX11_row_29 rfl ?_
      refine lv_lconst (v := 0) hx hb dX11_row_30 (by decide) ?_
      refine lv_lconst (v := 1) hx hb dX11_row_31 (by decide) ?_
      obtain ⟨q5, hq5, hf⟩ := bd_e hf
      refine k_iR (va_runS (As := [.long (Int32.toInt64 p3), .long (0 : Int64), .long (1 : Int64)]) (rest := []) ⟨hx, hb, hml, hown, hts⟩ (c_X11_in (l := l) (sz := H.size) (p0 := (Int32.toInt64 p3)) (p1 := (0 : Int64)) (p2 := (1 : Int64)) hq5) (va_cwS 3 hts gX11_row_X11_in rfl rfl rfl (by decide +kernel) ⟨Nat.le_of_ble_eq_true rfl, Nat.le_of_ble_eq_true rfl⟩) preS0 rfl rfl hl.1 rfl (lv_room (Nat.le_of_ble_eq_true rfl)) dX11_row_32 ⟨Nat.le_of_ble_eq_true rfl, Nat.le_of_ble_eq_true rfl⟩) hA hP hS (fun H locs hP hS hbz_q5 => ?_)
      refine lv_if_eq (tgt := 52) hx hb dX11_row_35 (by decide) (fun c6 => ?_) (fun c6 => ?_)
      · have hf := it_e c6 hf
        refine lv_bipush (v := (-3)) hx hb dX11_row_52 (by decide) ?_
        obtain rfl := Option.some.inj hf
        rw [← hQ]
        exact e_iW hx hb hr rfl (tP_i _) hP hS ⟨hag, h108⟩ hlocks dX11_row_54
      · have hf := ie_e c6 hf
        refine lv_iload_n hx hb dX11_row_38 rfl (lv_at hl 3 rfl) ?_
        refine lv_i2l hx hb dX11_row_39 rfl ?_
        refine lv_ldc2 (own := RX11) hx hb hown k1 dX11_row_40 ?_
        refine lv_ldc2 (own := RX11) hx hb hown k2 dX11_row_43 ?_
        obtain ⟨q7, hq7, hf⟩ := bd_e hf
        refine k_iR (va_runS (As := [.long (Int32.toInt64 p2), .long (-1 : Int64), .long (999 : Int64)]) (rest := []) ⟨hx, hb, hml, hown, hts⟩ (c_X11_in (l := l) (sz := H.size) (p0 := (Int32.toInt64 p2)) (p1 := (-1 : Int64)) (p2 := (999 : Int64)) hq7) (va_cwS 3 hts gX11_row_X11_in rfl rfl rfl (by decide +kernel) ⟨Nat.le_of_ble_eq_true rfl, Nat.le_of_ble_eq_true rfl⟩) preS0 rfl rfl hl.1 rfl (lv_room (Nat.le_of_ble_eq_true rfl)) dX11_row_46 ⟨Nat.le_of_ble_eq_true rfl, Nat.le_of_ble_eq_true rfl⟩) hA hP hS (fun H locs hP hS hbz_q7 => ?_)
        refine lv_if_ne (tgt := 55) hx hb dX11_row_49 (by decide) (fun c8 => ?_) (fun c8 => ?_)
        · have hf := ie_e c8 hf
          refine lv_iconst (v := 0) hx hb dX11_row_55 (by decide) ?_
          refine lv_istore (lv' := [(5, .int 0), (0, .ref (ad 86)), (1, .int p0), (2, .int p1), (3, .int p2), (4, .int p3)]) hx hb dX11_row_56 hl (by decide) rfl (fun ls hl => ?_)
          have key58 : ∀ (ko : Int32 → (Nat → Int32) → Option (Int32 × (Nat → Int32))), (∀ (x11 : Int32) (f12 : Nat → Int32) (C : Nat → va_E) (H : Heap) (locs : List Loc) (ls : Array Slot), va_P D vwCl (wd N ad C) H → va_S (Aw N ad s.heap.size) s.heap H locs → (∀ i : Nat, i ≠ 108 → C i = C0 i) → C 86 = .inr (11, [.ref (ad 87), .int m_len, .ref (ad 88), .int m_rm, .int m_there, .ref (ad 89), .ref (ad 90), .ref (ad 91), .ref (ad 92), .ref (ad 93), .ref (ad 94), .ref (ad 95), .ref (ad 96), .ref (ad 97), .ref (ad 98), .ref (ad 99), .ref (ad 100), .ref (ad 101), .int m_lift, .int m_blank, .ref (ad 102), .int m_fm, .int m_at, .int m_pl, .int m_end, .ref (ad 103), .ref (ad 104), .ref (ad 105), .ref (ad 106), .ref (ad 107), .ref (ad 108), .int m_seed]) → C 89 = aI g 12 m_down → C 91 = aI g 12 m_walk → C 94 = aI g 12 m_lik → C 108 = aI g 256 f12 → lv_has ls 10 [(0, .ref (ad 86)), (1, .int p0), (2, .int p1), (3, .int p2), (4, .int p3), (5, .int x11)] → ko x11 f12 = some rr → W p l e (headSpec wsX11_row rmX11_row).room s m args below meth c H locs 0 0 QQ (F0 m 80 ls [])) → ∀ (n : Nat) (x9 : Int32) (f10 : Nat → Int32) (C : Nat → va_E) (H : Heap) (locs : List Loc) (ls : Array Slot), va_P D vwCl (wd N ad C) H → va_S (Aw N ad s.heap.size) s.heap H locs → (∀ i : Nat, i ≠ 108 → C i = C0 i) → C 86 = .inr (11, [.ref (ad 87), .int m_len, .ref (ad 88), .int m_rm, .int m_there, .ref (ad 89), .ref (ad 90), .ref (ad 91), .ref (ad 92), .ref (ad 93), .ref (ad 94), .ref (ad 95), .ref (ad 96), .ref (ad 97), .ref (ad 98), .ref (ad 99), .ref (ad 100), .ref (ad 101), .int m_lift, .int m_blank, .ref (ad 102), .int m_fm, .int m_at, .int m_pl, .int m_end, .ref (ad 103), .ref (ad 104), .ref (ad 105), .ref (ad 106), .ref (ad 107), .ref (ad 108), .int m_seed]) → C 89 = aI g 12 m_down → C 91 = aI g 12 m_walk → C 94 = aI g 12 m_lik → C 108 = aI g 256 f10 → lv_has ls 10 [(0, .ref (ad 86)), (1, .int p0), (2, .int p1), (3, .int p2), (4, .int p3), (5, .int x9)] → LX11_row_58  ko n x9 f10 = some rr → W p l e (headSpec wsX11_row rmX11_row).room s m args below meth c H locs 0 0 QQ (F0 m 58 ls []) := by
            intro ko hko n
            induction n with
            | zero =>
              intro x9 f10 C H locs ls hP hS hag h86 h89 h91 h94 h108 hl hf
              rw [LX11_row_58_z] at hf
              cases hf
            | succ n ih =>
              intro x9 f10 C H locs ls hP hS hag h86 h89 h91 h94 h108 hl hf
              rw [LX11_row_58_s] at hf
              refine lv_iload hx hb dX11_row_58 (lv_at hl 5 rfl) ?_
              refine lv_sipush (v := 256) hx hb dX11_row_60 (by decide) ?_
              refine lv_icmp_ge (tgt := 80) hx hb dX11_row_63 (by decide) (fun c13 => ?_) (fun c13 => ?_)
              · have hf := it_e c13 hf
                exact hko x9 f10 C H locs ls hP hS hag h86 h89 h91 h94 h108 (lv_sub hl [0, 1, 2, 3, 4, 5] rfl) hf
              · have hf := ie_e c13 hf
                refine lv_aload_n hx hb dX11_row_66 rfl (lv_at hl 0 rfl) ?_
                refine r_get (own := RX11) (T := TX11) (n := 32) (ci := 11) (v := .ref (ad 108)) hx hb hts nX11 hown hK hP (by omega) h86 rfl 30 (by decide) k3 rfl dX11_row_67 ?_
                refine lv_iload hx hb dX11_row_70 (lv_at hl 5 rfl) ?_
                refine lv_iconst (v := 0) hx hb dX11_row_72 (by decide) ?_
                obtain ⟨i15, f14, ef14, hf⟩ := wi_e hf
                refine r_iast hx hb hK hI hAd hP hS (by omega) h108 i15 dX11_row_73 ef14 (fun C H locs hP hS he hn => ?_)
                have hag : ∀ i : Nat, i ≠ 108 → C i = C0 i := fun i h => (he i (by omega)).trans (hag i h)
                have h86 := (he 86 (by decide)).trans h86
                have h89 := (he 89 (by decide)).trans h89
                have h91 := (he 91 (by decide)).trans h91
                have h94 := (he 94 (by decide)).trans h94
                have h108 : C 108 = aI g 256 f14 := hn
                obtain ⟨x16, ex16, hf⟩ := lt_e hf
                refine lv_iinc (v := x16) (lv' := [(5, .int x16), (0, .ref (ad 86)), (1, .int p0), (2, .int p1), (3, .int p2), (4, .int p3)]) hx hb dX11_row_74 hl (k := 5) rfl (by rw [ex16]; rfl) (by decide) rfl (fun ls hl => ?_)
                refine lv_goto (tgt := 58) hx hb dX11_row_77 (by decide) ?_
                exact ih x16 f14 C H locs ls hP hS hag h86 h89 h91 h94 h108 (lv_sub hl [1, 2, 3, 4, 5, 0] rfl) hf
          refine key58 _ (fun x11 f12 C H locs ls hP hS hag h86 h89 h91 h94 h108 hl hf => ?_) FU 0 m_kinds C H locs ls hP hS hag h86 h89 h91 h94 h108 (lv_sub hl [1, 2, 3, 4, 5, 0] rfl) hf
          refine lv_aload_n hx hb dX11_row_80 rfl (lv_at hl 0 rfl) ?_
          obtain ⟨q17, hq17, hf⟩ := bd_e hf
          refine k_iR (va_runV (C := RX11) (As := []) (rest := []) ⟨hx, hb, hml, hown, hts⟩ (c_X11_sources (l := l) (sz := H.size)  hN h86 h94 hq17) (cwV 0 hts gX11_row_X11_sources rfl rfl rfl (by decide +kernel) ⟨Nat.le_of_ble_eq_true rfl, Nat.le_of_ble_eq_true rfl⟩) (preV_of hK hP (by omega) h86 rfl) rfl rfl hl.1 rfl (lv_room (Nat.le_of_ble_eq_true rfl)) dX11_row_81 ⟨Nat.le_of_ble_eq_true rfl, Nat.le_of_ble_eq_true rfl⟩) hA hP hS (fun H locs hP hS hbz_q17 => ?_)
          refine lv_istore (lv' := [(5, .int q17), (0, .ref (ad 86)), (1, .int p0), (2, .int p1), (3, .int p2), (4, .int p3)]) hx hb dX11_row_84 hl (by decide) rfl (fun ls hl => ?_)
          refine lv_iconst (v := 0) hx hb dX11_row_86 (by decide) ?_
          refine lv_istore (lv' := [(6, .int 0), (5, .int q17), (0, .ref (ad 86)), (1, .int p0), (2, .int p1), (3, .int p2), (4, .int p3)]) hx hb dX11_row_87 hl (by decide) rfl (fun ls hl => ?_)
          refine lv_iconst (v := 0) hx hb dX11_row_89 (by decide) ?_
          refine lv_istore (lv' := [(7, .int 0), (6, .int 0), (5, .int q17), (0, .ref (ad 86)), (1, .int p0), (2, .int p1), (3, .int p2), (4, .int p3)]) hx hb dX11_row_90 hl (by decide) rfl (fun ls hl => ?_)
          refine lv_iconst (v := 0) hx hb dX11_row_92 (by decide) ?_
          refine lv_istore (lv' := [(8, .int 0), (7, .int 0), (6, .int 0), (5, .int q17), (0, .ref (ad 86)), (1, .int p0), (2, .int p1), (3, .int p2), (4, .int p3)]) hx hb dX11_row_93 hl (by decide) rfl (fun ls hl => ?_)
          have key95 : ∀ (ko : Int32 → Int32 → Int32 → (Nat → Int32) → Option (Int32 × (Nat → Int32))), (∀ (x22 : Int32) (x23 : Int32) (x24 : Int32) (f25 : Nat → Int32) (C : Nat → va_E) (H : Heap) (locs : List Loc) (ls : Array Slot), va_P D vwCl (wd N ad C) H → va_S (Aw N ad s.heap.size) s.heap H locs → (∀ i : Nat, i ≠ 108 → C i = C0 i) → C 86 = .inr (11, [.ref (ad 87), .int m_len, .ref (ad 88), .int m_rm, .int m_there, .ref (ad 89), .ref (ad 90), .ref (ad 91), .ref (ad 92), .ref (ad 93), .ref (ad 94), .ref (ad 95), .ref (ad 96), .ref (ad 97), .ref (ad 98), .ref (ad 99), .ref (ad 100), .ref (ad 101), .int m_lift, .int m_blank, .ref (ad 102), .int m_fm, .int m_at, .int m_pl, .int m_end, .ref (ad 103), .ref (ad 104), .ref (ad 105), .ref (ad 106), .ref (ad 107), .ref (ad 108), .int m_seed]) → C 89 = aI g 12 m_down → C 91 = aI g 12 m_walk → C 94 = aI g 12 m_lik → C 108 = aI g 256 f25 → lv_has ls 10 [(0, .ref (ad 86)), (1, .int p0), (2, .int p1), (3, .int p2), (4, .int p3), (5, .int q17), (6, .int x22), (7, .int x23), (8, .int x24)] → ko x22 x23 x24 f25 = some rr → W p l e (headSpec wsX11_row rmX11_row).room s m args below meth c H locs 0 0 QQ (F0 m 174 ls [])) → ∀ (n : Nat) (x18 : Int32) (x19 : Int32) (x20 : Int32) (f21 : Nat → Int32) (C : Nat → va_E) (H : Heap) (locs : List Loc) (ls : Array Slot), va_P D vwCl (wd N ad C) H → va_S (Aw N ad s.heap.size) s.heap H locs → (∀ i : Nat, i ≠ 108 → C i = C0 i) → C 86 = .inr (11, [.ref (ad 87), .int m_len, .ref (ad 88), .int m_rm, .int m_there, .ref (ad 89), .ref (ad 90), .ref (ad 91), .ref (ad 92), .ref (ad 93), .ref (ad 94), .ref (ad 95), .ref (ad 96), .ref (ad 97), .ref (ad 98), .ref (ad 99), .ref (ad 100), .ref (ad 101), .int m_lift, .int m_blank, .ref (ad 102), .int m_fm, .int m_at, .int m_pl, .int m_end, .ref (ad 103), .ref (ad 104), .ref (ad 105), .ref (ad 106), .ref (ad 107), .ref (ad 108), .int m_seed]) → C 89 = aI g 12 m_down → C 91 = aI g 12 m_walk → C 94 = aI g 12 m_lik → C 108 = aI g 256 f21 → lv_has ls 10 [(0, .ref (ad 86)), (1, .int p0), (2, .int p1), (3, .int p2), (4, .int p3), (5, .int q17), (6, .int x18), (7, .int x19), (8, .int x20)] → LX11_row_95 p0 p1 p2 m_down m_walk q17 ko n x18 x19 x20 f21 = some rr → W p l e (headSpec wsX11_row rmX11_row).room s m args below meth c H locs 0 0 QQ (F0 m 95 ls []) := by
            intro ko hko n
            induction n with
            | zero =>
              intro x18 x19 x20 f21 C H locs ls hP hS hag h86 h89 h91 h94 h108 hl hf
              rw [LX11_row_95_z] at hf
              cases hf
            | succ n ih =>
              intro x18 x19 x20 f21 C H locs ls hP hS hag h86 h89 h91 h94 h108 hl hf
              rw [LX11_row_95_s] at hf
              refine lv_iload hx hb dX11_row_95 (lv_at hl 8 rfl) ?_
              refine lv_bipush (v := 12) hx hb dX11_row_97 (by decide) ?_
              refine lv_icmp_ge (tgt := 174) hx hb dX11_row_99 (by decide) (fun c26 => ?_) (fun c26 => ?_)
              · have hf := it_e c26 hf
                exact hko x18 x19 x20 f21 C H locs ls hP hS hag h86 h89 h91 h94 h108 (lv_sub hl [0, 1, 2, 3, 4, 5, 6, 7, 8] rfl) hf
              · have hf := ie_e c26 hf
                refine lv_iload hx hb dX11_row_102 (lv_at hl 5 rfl) ?_
                refine lv_iload hx hb dX11_row_104 (lv_at hl 8 rfl) ?_
                obtain ⟨q27, hq27, hf⟩ := bd_e hf
                refine k_iR (va_runS (As := [.int q17, .int x20]) (rest := []) ⟨hx, hb, hml, hown, hts⟩ (c_X11_has (l := l) (sz := H.size) (p0 := q17) (p1 := x20) hq27) (va_cwS 2 hts gX11_row_X11_has rfl rfl rfl (by decide +kernel) ⟨Nat.le_of_ble_eq_true rfl, Nat.le_of_ble_eq_true rfl⟩) preS0 rfl rfl hl.1 rfl (lv_room (Nat.le_of_ble_eq_true rfl)) dX11_row_106 ⟨Nat.le_of_ble_eq_true rfl, Nat.le_of_ble_eq_true rfl⟩) hA hP hS (fun H locs hP hS hbz_q27 => ?_)
                obtain ⟨q28, htq28, hf⟩ := bd_e hf
                have jnq28 : ∀ (C : Nat → va_E) (H : Heap) (locs : List Loc) (ls : Array Slot), va_P D vwCl (wd N ad C) H → va_S (Aw N ad s.heap.size) s.heap H locs → (∀ i : Nat, i ≠ 108 → C i = C0 i) → C 86 = .inr (11, [.ref (ad 87), .int m_len, .ref (ad 88), .int m_rm, .int m_there, .ref (ad 89), .ref (ad 90), .ref (ad 91), .ref (ad 92), .ref (ad 93), .ref (ad 94), .ref (ad 95), .ref (ad 96), .ref (ad 97), .ref (ad 98), .ref (ad 99), .ref (ad 100), .ref (ad 101), .int m_lift, .int m_blank, .ref (ad 102), .int m_fm, .int m_at, .int m_pl, .int m_end, .ref (ad 103), .ref (ad 104), .ref (ad 105), .ref (ad 106), .ref (ad 107), .ref (ad 108), .int m_seed]) → C 89 = aI g 12 m_down → C 91 = aI g 12 m_walk → C 94 = aI g 12 m_lik → C 108 = aI g 256 q28.2.2 → lv_has ls 10 [(0, .ref (ad 86)), (1, .int p0), (2, .int p1), (3, .int p2), (4, .int p3), (5, .int q17), (6, .int q28.1), (7, .int q28.2.1), (8, .int x20)] → W p l e (headSpec wsX11_row rmX11_row).room s m args below meth c H locs 0 0 QQ (F0 m 168 ls []) := by
                  intro C H locs ls hP hS hag h86 h89 h91 h94 h108 hl
                  obtain ⟨x29, ex29, hf⟩ := lt_e hf
                  refine lv_iinc (v := x29) (lv' := [(8, .int x29), (0, .ref (ad 86)), (1, .int p0), (2, .int p1), (3, .int p2), (4, .int p3), (5, .int q17), (6, .int q28.1), (7, .int q28.2.1)]) hx hb dX11_row_168 hl (k := 8) rfl (by rw [ex29]; rfl) (by decide) rfl (fun ls hl => ?_)
                  refine lv_goto (tgt := 95) hx hb dX11_row_171 (by decide) ?_
                  exact ih q28.1 q28.2.1 x29 q28.2.2 C H locs ls hP hS hag h86 h89 h91 h94 h108 (lv_sub hl [1, 2, 3, 4, 5, 6, 7, 8, 0] rfl) hf
                clear hf
                have hf := htq28
                refine lv_if_eq (tgt := 168) hx hb dX11_row_109 (by decide) (fun c30 => ?_) (fun c30 => ?_)
                · have hf := it_e c30 hf
                  obtain rfl := Option.some.inj hf
                  exact jnq28 C H locs ls hP hS hag h86 h89 h91 h94 h108 (lv_sub hl [0, 1, 2, 3, 4, 5, 6, 7, 8] rfl)
                · have hf := ie_e c30 hf
                  refine lv_aload_n hx hb dX11_row_112 rfl (lv_at hl 0 rfl) ?_
                  refine lv_iload hx hb dX11_row_113 (lv_at hl 8 rfl) ?_
                  refine lv_iload_n hx hb dX11_row_115 rfl (lv_at hl 1 rfl) ?_
                  refine lv_iload_n hx hb dX11_row_116 rfl (lv_at hl 2 rfl) ?_
                  refine lv_iload_n hx hb dX11_row_117 rfl (lv_at hl 3 rfl) ?_
                  obtain ⟨q31, hq31, hf⟩ := bd_e hf
                  refine k_iR (va_runV (C := RX11) (As := [.int x20, .int p0, .int p1, .int p2]) (rest := []) ⟨hx, hb, hml, hown, hts⟩ (c_X11_answersOf (l := l) (sz := H.size) (p0 := x20) (p1 := p0) (p2 := p1) (p3 := p2) hN h86 h89 h91 hq31) (cwV 4 hts gX11_row_X11_answersOf rfl rfl rfl (by decide +kernel) ⟨Nat.le_of_ble_eq_true rfl, Nat.le_of_ble_eq_true rfl⟩) (preV_of hK hP (by omega) h86 rfl) rfl rfl hl.1 rfl (lv_room (Nat.le_of_ble_eq_true rfl)) dX11_row_118 ⟨Nat.le_of_ble_eq_true rfl, Nat.le_of_ble_eq_true rfl⟩) hA hP hS (fun H locs hP hS hbz_q31 => ?_)
                  refine lv_istore (lv' := [(9, .int q31), (0, .ref (ad 86)), (1, .int p0), (2, .int p1), (3, .int p2), (4, .int p3), (5, .int q17), (6, .int x18), (7, .int x19), (8, .int x20)]) hx hb dX11_row_121 hl (by decide) rfl (fun ls hl => ?_)
                  refine lv_iload hx hb dX11_row_123 (lv_at hl 7 rfl) ?_
                  refine lv_aload_n hx hb dX11_row_125 rfl (lv_at hl 1 rfl) ?_
                  refine r_get (own := RX11) (T := TX11) (n := 32) (ci := 11) (v := .ref (ad 108)) hx hb hts nX11 hown hK hP (by omega) h86 rfl 30 (by decide) k3 rfl dX11_row_126 ?_
                  refine lv_iload hx hb dX11_row_129 (lv_at hl 0 rfl) ?_
                  obtain ⟨i33, x32, ex32, hf⟩ := ri_e hf
                  refine r_iald hx hb hK hP (by omega) h108 i33 dX11_row_131 ex32 ?_
                  obtain ⟨q34, htq34, hf⟩ := bd_e hf
                  have jnq34 : ∀ (C : Nat → va_E) (H : Heap) (locs : List Loc) (ls : Array Slot), va_P D vwCl (wd N ad C) H → va_S (Aw N ad s.heap.size) s.heap H locs → (∀ i : Nat, i ≠ 108 → C i = C0 i) → C 86 = .inr (11, [.ref (ad 87), .int m_len, .ref (ad 88), .int m_rm, .int m_there, .ref (ad 89), .ref (ad 90), .ref (ad 91), .ref (ad 92), .ref (ad 93), .ref (ad 94), .ref (ad 95), .ref (ad 96), .ref (ad 97), .ref (ad 98), .ref (ad 99), .ref (ad 100), .ref (ad 101), .int m_lift, .int m_blank, .ref (ad 102), .int m_fm, .int m_at, .int m_pl, .int m_end, .ref (ad 103), .ref (ad 104), .ref (ad 105), .ref (ad 106), .ref (ad 107), .ref (ad 108), .int m_seed]) → C 89 = aI g 12 m_down → C 91 = aI g 12 m_walk → C 94 = aI g 12 m_lik → C 108 = aI g 256 f21 → lv_has ls 10 [(0, .ref (ad 86)), (1, .int p0), (2, .int p1), (3, .int p2), (4, .int p3), (5, .int q17), (6, .int x18), (7, .int x19), (8, .int x20), (9, .int q31)] → W p l e (headSpec wsX11_row rmX11_row).room s m args below meth c H locs 0 0 QQ (F0 m 140 ls [.int q34, .int x18]) := by
                    intro C H locs ls hP hS hag h86 h89 h91 h94 h108 hl
                    refine lv_iadd hx hb dX11_row_140 ?_
                    obtain ⟨x35, ex35, hf⟩ := lt_e hf
                    refine tp_i ex35 ?_
                    refine lv_istore (lv' := [(6, .int x35), (0, .ref (ad 86)), (1, .int p0), (2, .int p1), (3, .int p2), (4, .int p3), (5, .int q17), (7, .int x19), (8, .int x20), (9, .int q31)]) hx hb dX11_row_141 hl (by decide) rfl (fun ls hl => ?_)
                    refine lv_aload_n hx hb dX11_row_143 rfl (lv_at hl 1 rfl) ?_
                    refine r_get (own := RX11) (T := TX11) (n := 32) (ci := 11) (v := .ref (ad 108)) hx hb hts nX11 hown hK hP (by omega) h86 rfl 30 (by decide) k3 rfl dX11_row_144 ?_
                    refine lv_iload hx hb dX11_row_147 (lv_at hl 9 rfl) ?_
                    refine lv_dup2_11 hx hb dX11_row_149 rfl rfl ?_
                    obtain ⟨i37, x36, ex36, hf⟩ := ri_e hf
                    refine r_iald hx hb hK hP (by omega) h108 i37 dX11_row_150 ex36 ?_
                    refine lv_iconst (v := 1) hx hb dX11_row_151 (by decide) ?_
                    refine lv_iadd hx hb dX11_row_152 ?_
                    obtain ⟨i39, f38, ef38, hf⟩ := wi_e hf
                    refine r_iast hx hb hK hI hAd hP hS (by omega) h108 i39 dX11_row_153 ef38 (fun C H locs hP hS he hn => ?_)
                    have hag : ∀ i : Nat, i ≠ 108 → C i = C0 i := fun i h => (he i (by omega)).trans (hag i h)
                    have h86 := (he 86 (by decide)).trans h86
                    have h89 := (he 89 (by decide)).trans h89
                    have h91 := (he 91 (by decide)).trans h91
                    have h94 := (he 94 (by decide)).trans h94
                    have h108 : C 108 = aI g 256 f38 := hn
                    refine lv_iload hx hb dX11_row_154 (lv_at hl 7 rfl) ?_
                    refine lv_aload_n hx hb dX11_row_156 rfl (lv_at hl 1 rfl) ?_
                    refine r_get (own := RX11) (T := TX11) (n := 32) (ci := 11) (v := .ref (ad 108)) hx hb hts nX11 hown hK hP (by omega) h86 rfl 30 (by decide) k3 rfl dX11_row_157 ?_
                    refine lv_iload hx hb dX11_row_160 (lv_at hl 9 rfl) ?_
                    obtain ⟨i41, x40, ex40, hf⟩ := ri_e hf
                    refine r_iald hx hb hK hP (by omega) h108 i41 dX11_row_162 ex40 ?_
                    obtain ⟨q42, hq42, hf⟩ := bd_e hf
                    refine k_iR (va_runS (As := [.int x19, .int x40]) (rest := []) ⟨hx, hb, hml, hown, hts⟩ (c_X11_greater (l := l) (sz := H.size) (p0 := x19) (p1 := x40) hq42) (va_cwS 2 hts gX11_row_X11_greater rfl rfl rfl (by decide +kernel) ⟨Nat.le_of_ble_eq_true rfl, Nat.le_of_ble_eq_true rfl⟩) preS0 rfl rfl hl.1 rfl (lv_room (Nat.le_of_ble_eq_true rfl)) dX11_row_163 ⟨Nat.le_of_ble_eq_true rfl, Nat.le_of_ble_eq_true rfl⟩) hA hP hS (fun H locs hP hS hbz_q42 => ?_)
                    refine lv_istore (lv' := [(7, .int q42), (6, .int x35), (0, .ref (ad 86)), (1, .int p0), (2, .int p1), (3, .int p2), (4, .int p3), (5, .int q17), (8, .int x20), (9, .int q31)]) hx hb dX11_row_166 hl (by decide) rfl (fun ls hl => ?_)
                    obtain rfl := Option.some.inj hf
                    exact jnq28 C H locs ls hP hS hag h86 h89 h91 h94 h108 (lv_sub hl [2, 3, 4, 5, 6, 7, 1, 0, 8] rfl)
                  clear hf
                  have hf := htq34
                  refine lv_if_ne (tgt := 139) hx hb dX11_row_132 (by decide) (fun c43 => ?_) (fun c43 => ?_)
                  · have hf := ie_e c43 hf
                    refine lv_iconst (v := 0) hx hb dX11_row_139 (by decide) ?_
                    obtain rfl := Option.some.inj hf
                    exact jnq34 C H locs ls hP hS hag h86 h89 h91 h94 h108 (lv_sub hl [1, 2, 3, 4, 5, 6, 7, 8, 9, 0] rfl)
                  · have hf := it_e c43 hf
                    refine lv_iconst (v := 1) hx hb dX11_row_135 (by decide) ?_
                    refine lv_goto (tgt := 140) hx hb dX11_row_136 (by decide) ?_
                    obtain rfl := Option.some.inj hf
                    exact jnq34 C H locs ls hP hS hag h86 h89 h91 h94 h108 (lv_sub hl [1, 2, 3, 4, 5, 6, 7, 8, 9, 0] rfl)
          refine key95 _ (fun x22 x23 x24 f25 C H locs ls hP hS hag h86 h89 h91 h94 h108 hl hf => ?_) FU 0 0 0 f12 C H locs ls hP hS hag h86 h89 h91 h94 h108 (lv_sub hl [4, 5, 6, 7, 8, 3, 2, 1, 0] rfl) hf
          refine lv_iload hx hb dX11_row_174 (lv_at hl 4 rfl) ?_
          refine lv_if_ne (tgt := 184) hx hb dX11_row_176 (by decide) (fun c44 => ?_) (fun c44 => ?_)
          · have hf := ie_e c44 hf
            refine lv_iload hx hb dX11_row_184 (lv_at hl 7 rfl) ?_
            obtain rfl := Option.some.inj hf
            rw [← hQ]
            exact e_iW hx hb hr rfl (tP_i _) hP hS ⟨hag, h108⟩ hlocks dX11_row_186
          · have hf := it_e c44 hf
            refine lv_iload hx hb dX11_row_179 (lv_at hl 6 rfl) ?_
            refine lv_goto (tgt := 186) hx hb dX11_row_181 (by decide) ?_
            obtain rfl := Option.some.inj hf
            rw [← hQ]
            exact e_iW hx hb hr rfl (tP_i _) hP hS ⟨hag, h108⟩ hlocks dX11_row_186
        · have hf := it_e c8 hf
          refine lv_bipush (v := (-3)) hx hb dX11_row_52 (by decide) ?_
          obtain rfl := Option.some.inj hf
          rw [← hQ]
          exact e_iW hx hb hr rfl (tP_i _) hP hS ⟨hag, h108⟩ hlocks dX11_row_54
    · have hf := it_e c4 hf
      refine lv_bipush (v := (-2)) hx hb dX11_row_24 (by decide) ?_
      obtain rfl := Option.some.inj hf
      rw [← hQ]
      exact e_iW hx hb hr rfl (tP_i _) hP hS ⟨hag, h108⟩ hlocks dX11_row_26
  · have hf := it_e c2 hf
    refine lv_bipush (v := (-3)) hx hb dX11_row_12 (by decide) ?_
    obtain rfl := Option.some.inj hf
    rw [← hQ]
    exact e_iW hx hb hr rfl (tP_i _) hP hS ⟨hag, h108⟩ hlocks dX11_row_14

def f_X11_answers (p0 : Int32) (p1 : Int32) (p2 : Int32) (p3 : Int32) (m_down : Nat → Int32) (m_walk : Nat → Int32) (m_lik : Nat → Int32) (m_there : Int32) : Option (Int32) :=
  (f_X11_in (Int32.toInt64 p2) (1 : Int64) (8 : Int64)).bind fun q1 =>
  if q1 = 0 then
    some ((-3))
  else
    (f_X11_isSource p0 m_lik m_there).bind fun q3 =>
    if q3 = 0 then
      some ((-2))
    else
      (f_X11_areLids p1 p2 m_there).bind fun q5 =>
      if q5 = 0 then
        some ((-2))
      else
        (f_X11_in (Int32.toInt64 p3) (-1 : Int64) (999 : Int64)).bind fun q7 =>
        if q7 = 0 then
          some ((-3))
        else
          (f_X11_answersOf p0 p1 p2 p3 m_down m_walk).bind fun q9 =>
          some (q9)
abbrev rmX11_answers : Room := { frames := 3, cells := 0, slots := 0, locals := 76 }
set_option maxHeartbeats 4000000 in
set_option maxRecDepth 100000 in
theorem c_X11_answers {l : Launch} {D : va_G} {g : Nat → ClassId} {N : Nat} {ad : Nat → Nat} {C : Nat → va_E} {sz : Nat} {m_len : Int32} {m_rm : Int32} {m_there : Int32} {m_lift : Int32} {m_blank : Int32} {m_fm : Int32} {m_at : Int32} {m_pl : Int32} {m_end : Int32} {m_seed : Int32} {m_down : Nat → Int32} {m_walk : Nat → Int32} {m_lik : Nat → Int32} {p0 : Int32} {p1 : Int32} {p2 : Int32} {p3 : Int32} {rr : Int32} (hN : 109 ≤ N) (h86 : C 86 = .inr (11, [.ref (ad 87), .int m_len, .ref (ad 88), .int m_rm, .int m_there, .ref (ad 89), .ref (ad 90), .ref (ad 91), .ref (ad 92), .ref (ad 93), .ref (ad 94), .ref (ad 95), .ref (ad 96), .ref (ad 97), .ref (ad 98), .ref (ad 99), .ref (ad 100), .ref (ad 101), .int m_lift, .int m_blank, .ref (ad 102), .int m_fm, .int m_at, .int m_pl, .int m_end, .ref (ad 103), .ref (ad 104), .ref (ad 105), .ref (ad 106), .ref (ad 107), .ref (ad 108), .int m_seed])) (h89 : C 89 = aI g 12 m_down) (h91 : C 91 = aI g 12 m_walk) (h94 : C 94 = aI g 12 m_lik) (hf : f_X11_answers p0 p1 p2 p3 m_down m_walk m_lik m_there = some rr) : Met l yX11_answers wsX11_answers rmX11_answers (PcW D g N ad C sz [.ref (ad 86), .int p0, .int p1, .int p2, .int p3]) (QiR sz tP rr) 0 0 (An sz) := by
  refine Met.ofW (cc := cX11_answers) (maxL := 5) (ret := (some .int)) (by decide) rfl ?_
  intro p e s m args below meth c s₁ B hml hv
  obtain ⟨hav, hsz, hK, hP⟩ := hv
  subst hsz
  have hx := B.exec
  have hb := B.bytes
  have hr := B.returns
  have hts := atoms_spec (ws := wsX11_answers) B.pre
  have hown : s.vm.findClass RX11 = some m.cls := findClass_of_methodNamed B.named
  have hlocks := B.notSynchronized
  generalize hQ : MQ below (QiR s.heap.size tP rr) args s 0 0 (An s.heap.size) = QQ
  have hS : va_S (An s.heap.size) s.heap s.heap [] := va_S.rf
  have hA : ∀ q, s.heap.size ≤ q → (An s.heap.size) q := fun q h => h
  have k0 := hts (.constantLong RX11 91 (8)) (List.mem_of_getElem? (i := 1) rfl)
  have k1 := hts (.constantLong RX11 288 (-1)) (List.mem_of_getElem? (i := 2) rfl)
  have k2 := hts (.constantLong RX11 290 (999)) (List.mem_of_getElem? (i := 3) rfl)
  have hE := lg_entry_eq m [.ref (ad 86), .int p0, .int p1, .int p2, .int p3] 5
  rw [← hav] at hE
  rw [hE]
  have hl := lv_entry [.ref (ad 86), .int p0, .int p1, .int p2, .int p3] (n := 5) (Nat.le_of_ble_eq_true rfl)
  generalize (lg_sl [.ref (ad 86), .int p0, .int p1, .int p2, .int p3] ++ List.replicate (5 - (lg_sl [.ref (ad 86), .int p0, .int p1, .int p2, .int p3]).length) Slot.unset).toArray = ls at hl ⊢
  have hl : lv_has ls 5 [(0, .ref (ad 86)), (1, .int p0), (2, .int p1), (3, .int p2), (4, .int p3)] := hl
  clear hE
  unfold f_X11_answers at hf
  suffices hgo : ∀ (H : Heap) (locs : List Loc), va_P D vwCl (wd N ad C) H → va_S (An s.heap.size) s.heap H locs → W p l e (headSpec wsX11_answers rmX11_answers).room s m args below meth c H locs 0 0 QQ (F0 m 0 ls []) from hgo s.heap [] hP hS
  clear hS hP
  intro H locs hP hS
  refine lv_iload_n hx hb dX11_answers_0 rfl (lv_at hl 3 rfl) ?_
  refine lv_i2l hx hb dX11_answers_1 rfl ?_
  refine lv_lconst (v := 1) hx hb dX11_answers_2 (by decide) ?_
  refine lv_ldc2 (own := RX11) hx hb hown k0 dX11_answers_3 ?_
  obtain ⟨q1, hq1, hf⟩ := bd_e hf
  refine k_iR (va_runS (As := [.long (Int32.toInt64 p2), .long (1 : Int64), .long (8 : Int64)]) (rest := []) ⟨hx, hb, hml, hown, hts⟩ (c_X11_in (l := l) (sz := H.size) (p0 := (Int32.toInt64 p2)) (p1 := (1 : Int64)) (p2 := (8 : Int64)) hq1) (va_cwS 3 hts gX11_answers_X11_in rfl rfl rfl (by decide +kernel) ⟨Nat.le_of_ble_eq_true rfl, Nat.le_of_ble_eq_true rfl⟩) preS0 rfl rfl hl.1 rfl (lv_room (Nat.le_of_ble_eq_true rfl)) dX11_answers_6 ⟨Nat.le_of_ble_eq_true rfl, Nat.le_of_ble_eq_true rfl⟩) hA hP hS (fun H locs hP hS hbz_q1 => ?_)
  refine lv_if_ne (tgt := 15) hx hb dX11_answers_9 (by decide) (fun c2 => ?_) (fun c2 => ?_)
  · have hf := ie_e c2 hf
    refine lv_aload_n hx hb dX11_answers_15 rfl (lv_at hl 0 rfl) ?_
    refine lv_iload_n hx hb dX11_answers_16 rfl (lv_at hl 1 rfl) ?_
    obtain ⟨q3, hq3, hf⟩ := bd_e hf
    refine k_iR (va_runV (C := RX11) (As := [.int p0]) (rest := []) ⟨hx, hb, hml, hown, hts⟩ (c_X11_isSource (l := l) (sz := H.size) (p0 := p0) hN h86 h94 hq3) (cwV 1 hts gX11_answers_X11_isSource rfl rfl rfl (by decide +kernel) ⟨Nat.le_of_ble_eq_true rfl, Nat.le_of_ble_eq_true rfl⟩) (preV_of hK hP (by omega) h86 rfl) rfl rfl hl.1 rfl (lv_room (Nat.le_of_ble_eq_true rfl)) dX11_answers_17 ⟨Nat.le_of_ble_eq_true rfl, Nat.le_of_ble_eq_true rfl⟩) hA hP hS (fun H locs hP hS hbz_q3 => ?_)
    refine lv_if_eq (tgt := 32) hx hb dX11_answers_20 (by decide) (fun c4 => ?_) (fun c4 => ?_)
    · have hf := it_e c4 hf
      refine lv_bipush (v := (-2)) hx hb dX11_answers_32 (by decide) ?_
      obtain rfl := Option.some.inj hf
      rw [← hQ]
      exact e_iR hx hb hr rfl (tP_i _) hS hlocks dX11_answers_34
    · have hf := ie_e c4 hf
      refine lv_aload_n hx hb dX11_answers_23 rfl (lv_at hl 0 rfl) ?_
      refine lv_iload_n hx hb dX11_answers_24 rfl (lv_at hl 2 rfl) ?_
      refine lv_iload_n hx hb dX11_answers_25 rfl (lv_at hl 3 rfl) ?_
      obtain ⟨q5, hq5, hf⟩ := bd_e hf
      refine k_iR (va_runV (C := RX11) (As := [.int p1, .int p2]) (rest := []) ⟨hx, hb, hml, hown, hts⟩ (c_X11_areLids (l := l) (sz := H.size) (p0 := p1) (p1 := p2) hN h86 hq5) (cwV 2 hts gX11_answers_X11_areLids rfl rfl rfl (by decide +kernel) ⟨Nat.le_of_ble_eq_true rfl, Nat.le_of_ble_eq_true rfl⟩) (preV_of hK hP (by omega) h86 rfl) rfl rfl hl.1 rfl (lv_room (Nat.le_of_ble_eq_true rfl)) dX11_answers_26 ⟨Nat.le_of_ble_eq_true rfl, Nat.le_of_ble_eq_true rfl⟩) hA hP hS (fun H locs hP hS hbz_q5 => ?_)
      refine lv_if_ne (tgt := 35) hx hb dX11_answers_29 (by decide) (fun c6 => ?_) (fun c6 => ?_)
      · have hf := ie_e c6 hf
        refine lv_iload hx hb dX11_answers_35 (lv_at hl 4 rfl) ?_
        refine lv_i2l hx hb dX11_answers_37 rfl ?_
        refine lv_ldc2 (own := RX11) hx hb hown k1 dX11_answers_38 ?_
        refine lv_ldc2 (own := RX11) hx hb hown k2 dX11_answers_41 ?_
        obtain ⟨q7, hq7, hf⟩ := bd_e hf
        refine k_iR (va_runS (As := [.long (Int32.toInt64 p3), .long (-1 : Int64), .long (999 : Int64)]) (rest := []) ⟨hx, hb, hml, hown, hts⟩ (c_X11_in (l := l) (sz := H.size) (p0 := (Int32.toInt64 p3)) (p1 := (-1 : Int64)) (p2 := (999 : Int64)) hq7) (va_cwS 3 hts gX11_answers_X11_in rfl rfl rfl (by decide +kernel) ⟨Nat.le_of_ble_eq_true rfl, Nat.le_of_ble_eq_true rfl⟩) preS0 rfl rfl hl.1 rfl (lv_room (Nat.le_of_ble_eq_true rfl)) dX11_answers_44 ⟨Nat.le_of_ble_eq_true rfl, Nat.le_of_ble_eq_true rfl⟩) hA hP hS (fun H locs hP hS hbz_q7 => ?_)
        refine lv_if_eq (tgt := 62) hx hb dX11_answers_47 (by decide) (fun c8 => ?_) (fun c8 => ?_)
        · have hf := it_e c8 hf
          refine lv_bipush (v := (-3)) hx hb dX11_answers_62 (by decide) ?_
          obtain rfl := Option.some.inj hf
          rw [← hQ]
          exact e_iR hx hb hr rfl (tP_i _) hS hlocks dX11_answers_64
        · have hf := ie_e c8 hf
          refine lv_aload_n hx hb dX11_answers_50 rfl (lv_at hl 0 rfl) ?_
          refine lv_iload_n hx hb dX11_answers_51 rfl (lv_at hl 1 rfl) ?_
          refine lv_iload_n hx hb dX11_answers_52 rfl (lv_at hl 2 rfl) ?_
          refine lv_iload_n hx hb dX11_answers_53 rfl (lv_at hl 3 rfl) ?_
          refine lv_iload hx hb dX11_answers_54 (lv_at hl 4 rfl) ?_
          obtain ⟨q9, hq9, hf⟩ := bd_e hf
          refine k_iR (va_runV (C := RX11) (As := [.int p0, .int p1, .int p2, .int p3]) (rest := []) ⟨hx, hb, hml, hown, hts⟩ (c_X11_answersOf (l := l) (sz := H.size) (p0 := p0) (p1 := p1) (p2 := p2) (p3 := p3) hN h86 h89 h91 hq9) (cwV 4 hts gX11_answers_X11_answersOf rfl rfl rfl (by decide +kernel) ⟨Nat.le_of_ble_eq_true rfl, Nat.le_of_ble_eq_true rfl⟩) (preV_of hK hP (by omega) h86 rfl) rfl rfl hl.1 rfl (lv_room (Nat.le_of_ble_eq_true rfl)) dX11_answers_56 ⟨Nat.le_of_ble_eq_true rfl, Nat.le_of_ble_eq_true rfl⟩) hA hP hS (fun H locs hP hS hbz_q9 => ?_)
          refine lv_goto (tgt := 64) hx hb dX11_answers_59 (by decide) ?_
          obtain rfl := Option.some.inj hf
          rw [← hQ]
          exact e_iR hx hb hr rfl (tP_i _) hS hlocks dX11_answers_64
      · have hf := it_e c6 hf
        refine lv_bipush (v := (-2)) hx hb dX11_answers_32 (by decide) ?_
        obtain rfl := Option.some.inj hf
        rw [← hQ]
        exact e_iR hx hb hr rfl (tP_i _) hS hlocks dX11_answers_34
  · have hf := it_e c2 hf
    refine lv_bipush (v := (-3)) hx hb dX11_answers_12 (by decide) ?_
    obtain rfl := Option.some.inj hf
    rw [← hQ]
    exact e_iR hx hb hr rfl (tP_i _) hS hlocks dX11_answers_14

def LX11_hang_76 (p0 : Int32) (m_down : Nat → Int32) (q3 : (Nat → Int32) × (Nat → Int32)) (q4 : Int32) (x7 : Int32) (ko : Int32 → Int32 → Option (Int32 × (Nat → Int32) × (Nat → Int32))) : Nat → Int32 → Int32 → Option (Int32 × (Nat → Int32) × (Nat → Int32))
  | 0, _, _ => none
  | n + 1, x12, x13 =>
    if 144 ≤ x13 then
      ko x12 x13
    else
      if x12 = 0 then
        ko x12 x13
      else
        nz (12) <|
        lt ((x13 / 12) : Int32) fun x19 =>
        nz (12) <|
        lt ((x13 - x13 / 12 * 12) : Int32) fun x21 =>
        (if x21 ≤ x19 then
          some (0)
        else
          (f_X11_has q4 x19).bind fun q30 =>
          if q30 = 0 then
            some (0)
          else
            (f_X11_has q4 x21).bind fun q32 =>
            if q32 = 0 then
              some (0)
            else
              ri q3.2 144 (((12 * x19) + x21)) fun x34 =>
              if x34 ≤ p0 then
                some (0)
              else
                some (1) : Option (Int32)).bind fun q22 =>
        (if q22 = 0 then
          some (1)
        else
          (f_X11_wayOf x19 m_down).bind fun q26 =>
          (f_X11_wayOf x21 m_down).bind fun q27 =>
          if (q26 &&& x7) = (q27 &&& x7) then
            some (0)
          else
            some (1) : Option (Int32)).bind fun q23 =>
        lt (x13 + 1 : Int32) fun x24 =>
        LX11_hang_76 p0 m_down q3 q4 x7 ko n q23 x24
theorem LX11_hang_76_z (p0 : Int32) (m_down : Nat → Int32) (q3 : (Nat → Int32) × (Nat → Int32)) (q4 : Int32) (x7 : Int32) (ko : Int32 → Int32 → Option (Int32 × (Nat → Int32) × (Nat → Int32))) (x12 : Int32) (x13 : Int32) : LX11_hang_76 p0 m_down q3 q4 x7 ko 0 x12 x13 = none := rfl
theorem LX11_hang_76_s (p0 : Int32) (m_down : Nat → Int32) (q3 : (Nat → Int32) × (Nat → Int32)) (q4 : Int32) (x7 : Int32) (ko : Int32 → Int32 → Option (Int32 × (Nat → Int32) × (Nat → Int32))) (n : Nat) (x12 : Int32) (x13 : Int32) : LX11_hang_76 p0 m_down q3 q4 x7 ko (n + 1) x12 x13 =
    if 144 ≤ x13 then
      ko x12 x13
    else
      if x12 = 0 then
        ko x12 x13
      else
        nz (12) <|
        lt ((x13 / 12) : Int32) fun x19 =>
        nz (12) <|
        lt ((x13 - x13 / 12 * 12) : Int32) fun x21 =>
        (if x21 ≤ x19 then
          some (0)
        else
          (f_X11_has q4 x19).bind fun q30 =>
          if q30 = 0 then
            some (0)
          else
            (f_X11_has q4 x21).bind fun q32 =>
            if q32 = 0 then
              some (0)
            else
              ri q3.2 144 (((12 * x19) + x21)) fun x34 =>
              if x34 ≤ p0 then
                some (0)
              else
                some (1) : Option (Int32)).bind fun q22 =>
        (if q22 = 0 then
          some (1)
        else
          (f_X11_wayOf x19 m_down).bind fun q26 =>
          (f_X11_wayOf x21 m_down).bind fun q27 =>
          if (q26 &&& x7) = (q27 &&& x7) then
            some (0)
          else
            some (1) : Option (Int32)).bind fun q23 =>
        lt (x13 + 1 : Int32) fun x24 =>
        LX11_hang_76 p0 m_down q3 q4 x7 ko n q23 x24 := rfl
def LX11_hang_29 (p0 : Int32) (m_down : Nat → Int32) (m_there : Int32) (q3 : (Nat → Int32) × (Nat → Int32)) (q4 : Int32) (ko : Int32 → Int32 → Option (Int32 × (Nat → Int32) × (Nat → Int32))) : Nat → Int32 → Int32 → Option (Int32 × (Nat → Int32) × (Nat → Int32))
  | 0, _, _ => none
  | n + 1, x6, x7 =>
    if 4096 ≤ x7 then
      ko x6 x7
    else
      (if (x7 &&& (m_there ^^^ (-1))) = 0 then
        if x6 = (-1) then
          some (1)
        else
          (f_X11_many x7).bind fun q42 =>
          (f_X11_many x6).bind fun q43 =>
          if q43 ≤ q42 then
            some (0)
          else
            some (1)
      else
        some (0) : Option (Int32)).bind fun q11 =>
      LX11_hang_76 p0 m_down q3 q4 x7 (fun x14 x15 =>
        (if x14 = 0 then
          some (x6)
        else
          some (x7) : Option (Int32)).bind fun q37 =>
        lt (x7 + 1 : Int32) fun x38 =>
        LX11_hang_29 p0 m_down m_there q3 q4 ko n q37 x38) FU q11 0
theorem LX11_hang_29_z (p0 : Int32) (m_down : Nat → Int32) (m_there : Int32) (q3 : (Nat → Int32) × (Nat → Int32)) (q4 : Int32) (ko : Int32 → Int32 → Option (Int32 × (Nat → Int32) × (Nat → Int32))) (x6 : Int32) (x7 : Int32) : LX11_hang_29 p0 m_down m_there q3 q4 ko 0 x6 x7 = none := rfl
theorem LX11_hang_29_s (p0 : Int32) (m_down : Nat → Int32) (m_there : Int32) (q3 : (Nat → Int32) × (Nat → Int32)) (q4 : Int32) (ko : Int32 → Int32 → Option (Int32 × (Nat → Int32) × (Nat → Int32))) (n : Nat) (x6 : Int32) (x7 : Int32) : LX11_hang_29 p0 m_down m_there q3 q4 ko (n + 1) x6 x7 =
    if 4096 ≤ x7 then
      ko x6 x7
    else
      (if (x7 &&& (m_there ^^^ (-1))) = 0 then
        if x6 = (-1) then
          some (1)
        else
          (f_X11_many x7).bind fun q42 =>
          (f_X11_many x6).bind fun q43 =>
          if q43 ≤ q42 then
            some (0)
          else
            some (1)
      else
        some (0) : Option (Int32)).bind fun q11 =>
      LX11_hang_76 p0 m_down q3 q4 x7 (fun x14 x15 =>
        (if x14 = 0 then
          some (x6)
        else
          some (x7) : Option (Int32)).bind fun q37 =>
        lt (x7 + 1 : Int32) fun x38 =>
        LX11_hang_29 p0 m_down m_there q3 q4 ko n q37 x38) FU q11 0 := rfl
def f_X11_hang (p0 : Int32) (m_down : Nat → Int32) (m_walk : Nat → Int32) (m_lik : Nat → Int32) (m_abv : Nat → Int32) (m_apart : Nat → Int32) (m_there : Int32) : Option (Int32 × (Nat → Int32) × (Nat → Int32)) :=
  (f_X11_in (Int32.toInt64 p0) (0 : Int64) (999 : Int64)).bind fun q1 =>
  if q1 = 0 then
    some ((-3), m_abv, m_apart)
  else
    (f_X11_layWays m_down m_walk m_abv m_apart m_there).bind fun q3 =>
    (f_X11_sources m_lik m_there).bind fun q4 =>
    lt ((-1) : Int32) fun x5 =>
    LX11_hang_29 p0 m_down m_there q3 q4 (fun x8 x9 =>
      some (x8, q3.1, q3.2)) FU x5 0
abbrev rmX11_hang : Room := { frames := 3, cells := 0, slots := 0, locals := 70 }
set_option maxHeartbeats 4000000 in
set_option maxRecDepth 100000 in
theorem c_X11_hang {l : Launch} {D : va_G} {g : Nat → ClassId} {N : Nat} {ad : Nat → Nat} {C : Nat → va_E} {sz : Nat} {m_len : Int32} {m_rm : Int32} {m_there : Int32} {m_lift : Int32} {m_blank : Int32} {m_fm : Int32} {m_at : Int32} {m_pl : Int32} {m_end : Int32} {m_seed : Int32} {m_down : Nat → Int32} {m_walk : Nat → Int32} {m_lik : Nat → Int32} {m_abv : Nat → Int32} {m_apart : Nat → Int32} {p0 : Int32} {rr : Int32 × (Nat → Int32) × (Nat → Int32)} (hN : 109 ≤ N) (hI : Inj N ad) (h86 : C 86 = .inr (11, [.ref (ad 87), .int m_len, .ref (ad 88), .int m_rm, .int m_there, .ref (ad 89), .ref (ad 90), .ref (ad 91), .ref (ad 92), .ref (ad 93), .ref (ad 94), .ref (ad 95), .ref (ad 96), .ref (ad 97), .ref (ad 98), .ref (ad 99), .ref (ad 100), .ref (ad 101), .int m_lift, .int m_blank, .ref (ad 102), .int m_fm, .int m_at, .int m_pl, .int m_end, .ref (ad 103), .ref (ad 104), .ref (ad 105), .ref (ad 106), .ref (ad 107), .ref (ad 108), .int m_seed])) (h89 : C 89 = aI g 12 m_down) (h91 : C 91 = aI g 12 m_walk) (h94 : C 94 = aI g 12 m_lik) (h103 : C 103 = aI g 12 m_abv) (h104 : C 104 = aI g 144 m_apart) (hf : f_X11_hang p0 m_down m_walk m_lik m_abv m_apart m_there = some rr) : Met l yX11_hang wsX11_hang rmX11_hang (PcW D g N ad C sz [.ref (ad 86), .int p0]) (QiW D N ad sz tP rr.1 (fun C' => (∀ i : Nat, i ≠ 103 ∧ i ≠ 104 → C' i = C i) ∧ (C' 103 = aI g 12 rr.2.1) ∧ (C' 104 = aI g 144 rr.2.2))) 0 0 (Aw N ad sz) := by
  refine Met.ofW (cc := cX11_hang) (maxL := 10) (ret := (some .int)) (by decide) rfl ?_
  intro p e s m args below meth c s₁ B hml hv
  obtain ⟨hav, hsz, hK, hP⟩ := hv
  subst hsz
  have hx := B.exec
  have hb := B.bytes
  have hr := B.returns
  have hts := atoms_spec (ws := wsX11_hang) B.pre
  have hown : s.vm.findClass RX11 = some m.cls := findClass_of_methodNamed B.named
  have hlocks := B.notSynchronized
  generalize hQ : MQ below (QiW D N ad s.heap.size tP rr.1 (fun C' => (∀ i : Nat, i ≠ 103 ∧ i ≠ 104 → C' i = C i) ∧ (C' 103 = aI g 12 rr.2.1) ∧ (C' 104 = aI g 144 rr.2.2))) args s 0 0 (Aw N ad s.heap.size) = QQ
  have hS : va_S (Aw N ad s.heap.size) s.heap s.heap [] := va_S.rf
  have hA : ∀ q, s.heap.size ≤ q → (Aw N ad s.heap.size) q := fun q h => Or.inr h
  have hAd : ∀ j : Nat, j < N → (Aw N ad s.heap.size) (ad j) := fun j h => Or.inl ⟨j, h, rfl⟩
  obtain ⟨C0, hC0⟩ : ∃ C0 : Nat → va_E, C0 = C := ⟨_, rfl⟩
  have hag : ∀ i : Nat, i ≠ 103 ∧ i ≠ 104 → C i = C0 i := fun i _ => by rw [hC0]
  rw [← hC0] at hQ
  have k0 := hts (.constantLong RX11 290 (999)) (List.mem_of_getElem? (i := 1) rfl)
  have k1 := hts (.fieldLink RX11 16 "UpDrainModel" "there" "I") (List.mem_of_getElem? (i := 2) rfl)
  have nX11 : ∀ w ∈ u_ws RX11 TX11 32, w ∈ wsX11_hang := fun _ h => List.mem_cons_of_mem _ (List.mem_append_right _ h)
  have k3 := hts (.fieldLink RX11 65 "UpDrainModel" "apart" "[I") (List.mem_of_getElem? (i := 3) rfl)
  have hE := lg_entry_eq m [.ref (ad 86), .int p0] 10
  rw [← hav] at hE
  rw [hE]
  have hl := lv_entry [.ref (ad 86), .int p0] (n := 10) (Nat.le_of_ble_eq_true rfl)
  generalize (lg_sl [.ref (ad 86), .int p0] ++ List.replicate (10 - (lg_sl [.ref (ad 86), .int p0]).length) Slot.unset).toArray = ls at hl ⊢
  have hl : lv_has ls 10 [(0, .ref (ad 86)), (1, .int p0)] := hl
  clear hE
  unfold f_X11_hang at hf
  suffices hgo : ∀ (H : Heap) (locs : List Loc), va_P D vwCl (wd N ad C) H → va_S (Aw N ad s.heap.size) s.heap H locs → W p l e (headSpec wsX11_hang rmX11_hang).room s m args below meth c H locs 0 0 QQ (F0 m 0 ls []) from hgo s.heap [] hP hS
  clear hS hP
  intro H locs hP hS
  refine lv_iload_n hx hb dX11_hang_0 rfl (lv_at hl 1 rfl) ?_
  refine lv_i2l hx hb dX11_hang_1 rfl ?_
  refine lv_lconst (v := 0) hx hb dX11_hang_2 (by decide) ?_
  refine lv_ldc2 (own := RX11) hx hb hown k0 dX11_hang_3 ?_
  obtain ⟨q1, hq1, hf⟩ := bd_e hf
  refine k_iR (va_runS (As := [.long (Int32.toInt64 p0), .long (0 : Int64), .long (999 : Int64)]) (rest := []) ⟨hx, hb, hml, hown, hts⟩ (c_X11_in (l := l) (sz := H.size) (p0 := (Int32.toInt64 p0)) (p1 := (0 : Int64)) (p2 := (999 : Int64)) hq1) (va_cwS 3 hts gX11_hang_X11_in rfl rfl rfl (by decide +kernel) ⟨Nat.le_of_ble_eq_true rfl, Nat.le_of_ble_eq_true rfl⟩) preS0 rfl rfl hl.1 rfl (lv_room (Nat.le_of_ble_eq_true rfl)) dX11_hang_6 ⟨Nat.le_of_ble_eq_true rfl, Nat.le_of_ble_eq_true rfl⟩) hA hP hS (fun H locs hP hS hbz_q1 => ?_)
  refine lv_if_ne (tgt := 15) hx hb dX11_hang_9 (by decide) (fun c2 => ?_) (fun c2 => ?_)
  · have hf := ie_e c2 hf
    refine lv_aload_n hx hb dX11_hang_15 rfl (lv_at hl 0 rfl) ?_
    obtain ⟨q3, hq3, hf⟩ := bd_e hf
    refine k_vW (va_runV (C := RX11) (As := []) (rest := []) ⟨hx, hb, hml, hown, hts⟩ (c_X11_layWays (l := l) (sz := H.size)  hN hI h86 h89 h91 h103 h104 hq3) (cwV 0 hts gX11_hang_X11_layWays rfl rfl rfl (by decide +kernel) ⟨Nat.le_of_ble_eq_true rfl, Nat.le_of_ble_eq_true rfl⟩) (preV_of hK hP (by omega) h86 rfl) rfl rfl hl.1 rfl (lv_room (Nat.le_of_ble_eq_true rfl)) dX11_hang_16 ⟨Nat.le_of_ble_eq_true rfl, Nat.le_of_ble_eq_true rfl⟩) hA hAd hS (fun C H locs hP hS hpo => ?_)
    obtain ⟨he, h103, h104⟩ := hpo
    have hag : ∀ i : Nat, i ≠ 103 ∧ i ≠ 104 → C i = C0 i := fun i h => (he i (by omega)).trans (hag i h)
    have h86 := (he 86 (by decide)).trans h86
    have h89 := (he 89 (by decide)).trans h89
    have h91 := (he 91 (by decide)).trans h91
    have h94 := (he 94 (by decide)).trans h94
    refine lv_aload_n hx hb dX11_hang_19 rfl (lv_at hl 0 rfl) ?_
    obtain ⟨q4, hq4, hf⟩ := bd_e hf
    refine k_iR (va_runV (C := RX11) (As := []) (rest := []) ⟨hx, hb, hml, hown, hts⟩ (c_X11_sources (l := l) (sz := H.size)  hN h86 h94 hq4) (cwV 0 hts gX11_hang_X11_sources rfl rfl rfl (by decide +kernel) ⟨Nat.le_of_ble_eq_true rfl, Nat.le_of_ble_eq_true rfl⟩) (preV_of hK hP (by omega) h86 rfl) rfl rfl hl.1 rfl (lv_room (Nat.le_of_ble_eq_true rfl)) dX11_hang_20 ⟨Nat.le_of_ble_eq_true rfl, Nat.le_of_ble_eq_true rfl⟩) hA hP hS (fun H locs hP hS hbz_q4 => ?_)
    refine lv_istore_n (lv' := [(2, .int q4), (0, .ref (ad 86)), (1, .int p0)]) hx hb dX11_hang_23 rfl hl (by decide) rfl (fun ls hl => ?_)
    refine lv_iconst (v := (-1)) hx hb dX11_hang_24 (by decide) ?_
    obtain ⟨x5, ex5, hf⟩ := lt_e hf
    refine tp_i ex5 ?_
    refine lv_istore_n (lv' := [(3, .int x5), (2, .int q4), (0, .ref (ad 86)), (1, .int p0)]) hx hb dX11_hang_25 rfl hl (by decide) rfl (fun ls hl => ?_)
    refine lv_iconst (v := 0) hx hb dX11_hang_26 (by decide) ?_
    refine lv_istore (lv' := [(4, .int 0), (3, .int x5), (2, .int q4), (0, .ref (ad 86)), (1, .int p0)]) hx hb dX11_hang_27 hl (by decide) rfl (fun ls hl => ?_)
    have key29 : ∀ (ko : Int32 → Int32 → Option (Int32 × (Nat → Int32) × (Nat → Int32))), (∀ (x8 : Int32) (x9 : Int32) (C : Nat → va_E) (H : Heap) (locs : List Loc) (ls : Array Slot), va_P D vwCl (wd N ad C) H → va_S (Aw N ad s.heap.size) s.heap H locs → (∀ i : Nat, i ≠ 103 ∧ i ≠ 104 → C i = C0 i) → C 86 = .inr (11, [.ref (ad 87), .int m_len, .ref (ad 88), .int m_rm, .int m_there, .ref (ad 89), .ref (ad 90), .ref (ad 91), .ref (ad 92), .ref (ad 93), .ref (ad 94), .ref (ad 95), .ref (ad 96), .ref (ad 97), .ref (ad 98), .ref (ad 99), .ref (ad 100), .ref (ad 101), .int m_lift, .int m_blank, .ref (ad 102), .int m_fm, .int m_at, .int m_pl, .int m_end, .ref (ad 103), .ref (ad 104), .ref (ad 105), .ref (ad 106), .ref (ad 107), .ref (ad 108), .int m_seed]) → C 89 = aI g 12 m_down → C 91 = aI g 12 m_walk → C 94 = aI g 12 m_lik → C 103 = aI g 12 q3.1 → C 104 = aI g 144 q3.2 → lv_has ls 10 [(0, .ref (ad 86)), (1, .int p0), (2, .int q4), (3, .int x8), (4, .int x9)] → ko x8 x9 = some rr → W p l e (headSpec wsX11_hang rmX11_hang).room s m args below meth c H locs 0 0 QQ (F0 m 209 ls [])) → ∀ (n : Nat) (x6 : Int32) (x7 : Int32) (C : Nat → va_E) (H : Heap) (locs : List Loc) (ls : Array Slot), va_P D vwCl (wd N ad C) H → va_S (Aw N ad s.heap.size) s.heap H locs → (∀ i : Nat, i ≠ 103 ∧ i ≠ 104 → C i = C0 i) → C 86 = .inr (11, [.ref (ad 87), .int m_len, .ref (ad 88), .int m_rm, .int m_there, .ref (ad 89), .ref (ad 90), .ref (ad 91), .ref (ad 92), .ref (ad 93), .ref (ad 94), .ref (ad 95), .ref (ad 96), .ref (ad 97), .ref (ad 98), .ref (ad 99), .ref (ad 100), .ref (ad 101), .int m_lift, .int m_blank, .ref (ad 102), .int m_fm, .int m_at, .int m_pl, .int m_end, .ref (ad 103), .ref (ad 104), .ref (ad 105), .ref (ad 106), .ref (ad 107), .ref (ad 108), .int m_seed]) → C 89 = aI g 12 m_down → C 91 = aI g 12 m_walk → C 94 = aI g 12 m_lik → C 103 = aI g 12 q3.1 → C 104 = aI g 144 q3.2 → lv_has ls 10 [(0, .ref (ad 86)), (1, .int p0), (2, .int q4), (3, .int x6), (4, .int x7)] → LX11_hang_29 p0 m_down m_there q3 q4 ko n x6 x7 = some rr → W p l e (headSpec wsX11_hang rmX11_hang).room s m args below meth c H locs 0 0 QQ (F0 m 29 ls []) := by
      intro ko hko n
      induction n with
      | zero =>
        intro x6 x7 C H locs ls hP hS hag h86 h89 h91 h94 h103 h104 hl hf
        rw [LX11_hang_29_z] at hf
        cases hf
      | succ n ih =>
        intro x6 x7 C H locs ls hP hS hag h86 h89 h91 h94 h103 h104 hl hf
        rw [LX11_hang_29_s] at hf
        refine lv_iload hx hb dX11_hang_29 (lv_at hl 4 rfl) ?_
        refine lv_sipush (v := 4096) hx hb dX11_hang_31 (by decide) ?_
        refine lv_icmp_ge (tgt := 209) hx hb dX11_hang_34 (by decide) (fun c10 => ?_) (fun c10 => ?_)
        · have hf := it_e c10 hf
          exact hko x6 x7 C H locs ls hP hS hag h86 h89 h91 h94 h103 h104 (lv_sub hl [0, 1, 2, 3, 4] rfl) hf
        · have hf := ie_e c10 hf
          refine lv_iload hx hb dX11_hang_37 (lv_at hl 4 rfl) ?_
          refine lv_aload_n hx hb dX11_hang_39 rfl (lv_at hl 0 rfl) ?_
          refine r_get (own := RX11) (T := TX11) (n := 32) (ci := 11) (v := .int m_there) hx hb hts nX11 hown hK hP (by omega) h86 rfl 4 (by decide) k1 rfl dX11_hang_40 ?_
          refine lv_iconst (v := (-1)) hx hb dX11_hang_43 (by decide) ?_
          refine lv_ixor hx hb dX11_hang_44 ?_
          refine lv_iand hx hb dX11_hang_45 ?_
          obtain ⟨q11, htq11, hf⟩ := bd_e hf
          have jnq11 : ∀ (C : Nat → va_E) (H : Heap) (locs : List Loc) (ls : Array Slot), va_P D vwCl (wd N ad C) H → va_S (Aw N ad s.heap.size) s.heap H locs → (∀ i : Nat, i ≠ 103 ∧ i ≠ 104 → C i = C0 i) → C 86 = .inr (11, [.ref (ad 87), .int m_len, .ref (ad 88), .int m_rm, .int m_there, .ref (ad 89), .ref (ad 90), .ref (ad 91), .ref (ad 92), .ref (ad 93), .ref (ad 94), .ref (ad 95), .ref (ad 96), .ref (ad 97), .ref (ad 98), .ref (ad 99), .ref (ad 100), .ref (ad 101), .int m_lift, .int m_blank, .ref (ad 102), .int m_fm, .int m_at, .int m_pl, .int m_end, .ref (ad 103), .ref (ad 104), .ref (ad 105), .ref (ad 106), .ref (ad 107), .ref (ad 108), .int m_seed]) → C 89 = aI g 12 m_down → C 91 = aI g 12 m_walk → C 94 = aI g 12 m_lik → C 103 = aI g 12 q3.1 → C 104 = aI g 144 q3.2 → lv_has ls 10 [(0, .ref (ad 86)), (1, .int p0), (2, .int q4), (3, .int x6), (4, .int x7)] → W p l e (headSpec wsX11_hang rmX11_hang).room s m args below meth c H locs 0 0 QQ (F0 m 71 ls [.int q11]) := by
            intro C H locs ls hP hS hag h86 h89 h91 h94 h103 h104 hl
            refine lv_istore (lv' := [(5, .int q11), (0, .ref (ad 86)), (1, .int p0), (2, .int q4), (3, .int x6), (4, .int x7)]) hx hb dX11_hang_71 hl (by decide) rfl (fun ls hl => ?_)
            refine lv_iconst (v := 0) hx hb dX11_hang_73 (by decide) ?_
            refine lv_istore (lv' := [(6, .int 0), (5, .int q11), (0, .ref (ad 86)), (1, .int p0), (2, .int q4), (3, .int x6), (4, .int x7)]) hx hb dX11_hang_74 hl (by decide) rfl (fun ls hl => ?_)
            have key76 : ∀ (ko : Int32 → Int32 → Option (Int32 × (Nat → Int32) × (Nat → Int32))), (∀ (x14 : Int32) (x15 : Int32) (C : Nat → va_E) (H : Heap) (locs : List Loc) (ls : Array Slot), va_P D vwCl (wd N ad C) H → va_S (Aw N ad s.heap.size) s.heap H locs → (∀ i : Nat, i ≠ 103 ∧ i ≠ 104 → C i = C0 i) → C 86 = .inr (11, [.ref (ad 87), .int m_len, .ref (ad 88), .int m_rm, .int m_there, .ref (ad 89), .ref (ad 90), .ref (ad 91), .ref (ad 92), .ref (ad 93), .ref (ad 94), .ref (ad 95), .ref (ad 96), .ref (ad 97), .ref (ad 98), .ref (ad 99), .ref (ad 100), .ref (ad 101), .int m_lift, .int m_blank, .ref (ad 102), .int m_fm, .int m_at, .int m_pl, .int m_end, .ref (ad 103), .ref (ad 104), .ref (ad 105), .ref (ad 106), .ref (ad 107), .ref (ad 108), .int m_seed]) → C 89 = aI g 12 m_down → C 91 = aI g 12 m_walk → C 94 = aI g 12 m_lik → C 103 = aI g 12 q3.1 → C 104 = aI g 144 q3.2 → lv_has ls 10 [(0, .ref (ad 86)), (1, .int p0), (2, .int q4), (3, .int x6), (4, .int x7), (5, .int x14), (6, .int x15)] → ko x14 x15 = some rr → W p l e (headSpec wsX11_hang rmX11_hang).room s m args below meth c H locs 0 0 QQ (F0 m 191 ls [])) → ∀ (n : Nat) (x12 : Int32) (x13 : Int32) (C : Nat → va_E) (H : Heap) (locs : List Loc) (ls : Array Slot), va_P D vwCl (wd N ad C) H → va_S (Aw N ad s.heap.size) s.heap H locs → (∀ i : Nat, i ≠ 103 ∧ i ≠ 104 → C i = C0 i) → C 86 = .inr (11, [.ref (ad 87), .int m_len, .ref (ad 88), .int m_rm, .int m_there, .ref (ad 89), .ref (ad 90), .ref (ad 91), .ref (ad 92), .ref (ad 93), .ref (ad 94), .ref (ad 95), .ref (ad 96), .ref (ad 97), .ref (ad 98), .ref (ad 99), .ref (ad 100), .ref (ad 101), .int m_lift, .int m_blank, .ref (ad 102), .int m_fm, .int m_at, .int m_pl, .int m_end, .ref (ad 103), .ref (ad 104), .ref (ad 105), .ref (ad 106), .ref (ad 107), .ref (ad 108), .int m_seed]) → C 89 = aI g 12 m_down → C 91 = aI g 12 m_walk → C 94 = aI g 12 m_lik → C 103 = aI g 12 q3.1 → C 104 = aI g 144 q3.2 → lv_has ls 10 [(0, .ref (ad 86)), (1, .int p0), (2, .int q4), (3, .int x6), (4, .int x7), (5, .int x12), (6, .int x13)] → LX11_hang_76 p0 m_down q3 q4 x7 ko n x12 x13 = some rr → W p l e (headSpec wsX11_hang rmX11_hang).room s m args below meth c H locs 0 0 QQ (F0 m 76 ls []) := by
              intro ko hko n
              induction n with
              | zero =>
                intro x12 x13 C H locs ls hP hS hag h86 h89 h91 h94 h103 h104 hl hf
                rw [LX11_hang_76_z] at hf
                cases hf
              | succ n ih =>
                intro x12 x13 C H locs ls hP hS hag h86 h89 h91 h94 h103 h104 hl hf
                rw [LX11_hang_76_s] at hf
                refine lv_iload hx hb dX11_hang_76 (lv_at hl 6 rfl) ?_
                refine lv_sipush (v := 144) hx hb dX11_hang_78 (by decide) ?_
                refine lv_icmp_ge (tgt := 191) hx hb dX11_hang_81 (by decide) (fun c16 => ?_) (fun c16 => ?_)
                · have hf := it_e c16 hf
                  exact hko x12 x13 C H locs ls hP hS hag h86 h89 h91 h94 h103 h104 (lv_sub hl [0, 1, 2, 3, 4, 5, 6] rfl) hf
                · have hf := ie_e c16 hf
                  refine lv_iload hx hb dX11_hang_84 (lv_at hl 5 rfl) ?_
                  refine lv_if_eq (tgt := 191) hx hb dX11_hang_86 (by decide) (fun c17 => ?_) (fun c17 => ?_)
                  · have hf := it_e c17 hf
                    exact hko x12 x13 C H locs ls hP hS hag h86 h89 h91 h94 h103 h104 (lv_sub hl [0, 1, 2, 3, 4, 5, 6] rfl) hf
                  · have hf := ie_e c17 hf
                    refine lv_iload hx hb dX11_hang_89 (lv_at hl 6 rfl) ?_
                    refine lv_bipush (v := 12) hx hb dX11_hang_91 (by decide) ?_
                    obtain ⟨z18, hf⟩ := nz_e hf
                    refine lv_idiv hx hb dX11_hang_93 z18 ?_
                    obtain ⟨x19, ex19, hf⟩ := lt_e hf
                    refine tp_i ex19 ?_
                    refine lv_istore (lv' := [(7, .int x19), (0, .ref (ad 86)), (1, .int p0), (2, .int q4), (3, .int x6), (4, .int x7), (5, .int x12), (6, .int x13)]) hx hb dX11_hang_94 hl (by decide) rfl (fun ls hl => ?_)
                    refine lv_iload hx hb dX11_hang_96 (lv_at hl 7 rfl) ?_
                    refine lv_bipush (v := 12) hx hb dX11_hang_98 (by decide) ?_
                    obtain ⟨z20, hf⟩ := nz_e hf
                    refine lv_irem hx hb dX11_hang_100 z20 ?_
                    obtain ⟨x21, ex21, hf⟩ := lt_e hf
                    refine tp_i ex21 ?_
                    refine lv_istore (lv' := [(8, .int x21), (7, .int x19), (0, .ref (ad 86)), (1, .int p0), (2, .int q4), (3, .int x6), (4, .int x7), (5, .int x12), (6, .int x13)]) hx hb dX11_hang_101 hl (by decide) rfl (fun ls hl => ?_)
                    refine lv_iload hx hb dX11_hang_103 (lv_at hl 1 rfl) ?_
                    refine lv_iload hx hb dX11_hang_105 (lv_at hl 0 rfl) ?_
                    obtain ⟨q22, htq22, hf⟩ := bd_e hf
                    have jnq22 : ∀ (C : Nat → va_E) (H : Heap) (locs : List Loc) (ls : Array Slot), va_P D vwCl (wd N ad C) H → va_S (Aw N ad s.heap.size) s.heap H locs → (∀ i : Nat, i ≠ 103 ∧ i ≠ 104 → C i = C0 i) → C 86 = .inr (11, [.ref (ad 87), .int m_len, .ref (ad 88), .int m_rm, .int m_there, .ref (ad 89), .ref (ad 90), .ref (ad 91), .ref (ad 92), .ref (ad 93), .ref (ad 94), .ref (ad 95), .ref (ad 96), .ref (ad 97), .ref (ad 98), .ref (ad 99), .ref (ad 100), .ref (ad 101), .int m_lift, .int m_blank, .ref (ad 102), .int m_fm, .int m_at, .int m_pl, .int m_end, .ref (ad 103), .ref (ad 104), .ref (ad 105), .ref (ad 106), .ref (ad 107), .ref (ad 108), .int m_seed]) → C 89 = aI g 12 m_down → C 91 = aI g 12 m_walk → C 94 = aI g 12 m_lik → C 103 = aI g 12 q3.1 → C 104 = aI g 144 q3.2 → lv_has ls 10 [(0, .ref (ad 86)), (1, .int p0), (2, .int q4), (3, .int x6), (4, .int x7), (5, .int x12), (6, .int x13), (7, .int x19), (8, .int x21)] → W p l e (headSpec wsX11_hang rmX11_hang).room s m args below meth c H locs 0 0 QQ (F0 m 150 ls [.int q22]) := by
                      intro C H locs ls hP hS hag h86 h89 h91 h94 h103 h104 hl
                      refine lv_istore (lv' := [(9, .int q22), (0, .ref (ad 86)), (1, .int p0), (2, .int q4), (3, .int x6), (4, .int x7), (5, .int x12), (6, .int x13), (7, .int x19), (8, .int x21)]) hx hb dX11_hang_150 hl (by decide) rfl (fun ls hl => ?_)
                      refine lv_iload hx hb dX11_hang_152 (lv_at hl 0 rfl) ?_
                      obtain ⟨q23, htq23, hf⟩ := bd_e hf
                      have jnq23 : ∀ (C : Nat → va_E) (H : Heap) (locs : List Loc) (ls : Array Slot), va_P D vwCl (wd N ad C) H → va_S (Aw N ad s.heap.size) s.heap H locs → (∀ i : Nat, i ≠ 103 ∧ i ≠ 104 → C i = C0 i) → C 86 = .inr (11, [.ref (ad 87), .int m_len, .ref (ad 88), .int m_rm, .int m_there, .ref (ad 89), .ref (ad 90), .ref (ad 91), .ref (ad 92), .ref (ad 93), .ref (ad 94), .ref (ad 95), .ref (ad 96), .ref (ad 97), .ref (ad 98), .ref (ad 99), .ref (ad 100), .ref (ad 101), .int m_lift, .int m_blank, .ref (ad 102), .int m_fm, .int m_at, .int m_pl, .int m_end, .ref (ad 103), .ref (ad 104), .ref (ad 105), .ref (ad 106), .ref (ad 107), .ref (ad 108), .int m_seed]) → C 89 = aI g 12 m_down → C 91 = aI g 12 m_walk → C 94 = aI g 12 m_lik → C 103 = aI g 12 q3.1 → C 104 = aI g 144 q3.2 → lv_has ls 10 [(0, .ref (ad 86)), (1, .int p0), (2, .int q4), (3, .int x6), (4, .int x7), (5, .int x12), (6, .int x13), (7, .int x19), (8, .int x21), (9, .int q22)] → W p l e (headSpec wsX11_hang rmX11_hang).room s m args below meth c H locs 0 0 QQ (F0 m 183 ls [.int q23]) := by
                        intro C H locs ls hP hS hag h86 h89 h91 h94 h103 h104 hl
                        refine lv_istore (lv' := [(5, .int q23), (0, .ref (ad 86)), (1, .int p0), (2, .int q4), (3, .int x6), (4, .int x7), (6, .int x13), (7, .int x19), (8, .int x21), (9, .int q22)]) hx hb dX11_hang_183 hl (by decide) rfl (fun ls hl => ?_)
                        obtain ⟨x24, ex24, hf⟩ := lt_e hf
                        refine lv_iinc (v := x24) (lv' := [(6, .int x24), (5, .int q23), (0, .ref (ad 86)), (1, .int p0), (2, .int q4), (3, .int x6), (4, .int x7), (7, .int x19), (8, .int x21), (9, .int q22)]) hx hb dX11_hang_185 hl (k := 6) rfl (by rw [ex24]; rfl) (by decide) rfl (fun ls hl => ?_)
                        refine lv_goto (tgt := 76) hx hb dX11_hang_188 (by decide) ?_
                        exact ih q23 x24 C H locs ls hP hS hag h86 h89 h91 h94 h103 h104 (lv_sub hl [2, 3, 4, 5, 6, 1, 0] rfl) hf
                      clear hf
                      have hf := htq23
                      refine lv_if_eq (tgt := 178) hx hb dX11_hang_154 (by decide) (fun c25 => ?_) (fun c25 => ?_)
                      · have hf := it_e c25 hf
                        refine lv_iconst (v := 1) hx hb dX11_hang_178 (by decide) ?_
                        refine lv_goto (tgt := 183) hx hb dX11_hang_179 (by decide) ?_
                        obtain rfl := Option.some.inj hf
                        exact jnq23 C H locs ls hP hS hag h86 h89 h91 h94 h103 h104 (lv_sub hl [1, 2, 3, 4, 5, 6, 7, 8, 9, 0] rfl)
                      · have hf := ie_e c25 hf
                        refine lv_aload_n hx hb dX11_hang_157 rfl (lv_at hl 1 rfl) ?_
                        refine lv_iload hx hb dX11_hang_158 (lv_at hl 8 rfl) ?_
                        obtain ⟨q26, hq26, hf⟩ := bd_e hf
                        refine k_iR (va_runV (C := RX11) (As := [.int x19]) (rest := []) ⟨hx, hb, hml, hown, hts⟩ (c_X11_wayOf (l := l) (sz := H.size) (p0 := x19) hN h86 h89 hq26) (cwV 1 hts gX11_hang_X11_wayOf rfl rfl rfl (by decide +kernel) ⟨Nat.le_of_ble_eq_true rfl, Nat.le_of_ble_eq_true rfl⟩) (preV_of hK hP (by omega) h86 rfl) rfl rfl hl.1 rfl (lv_room (Nat.le_of_ble_eq_true rfl)) dX11_hang_160 ⟨Nat.le_of_ble_eq_true rfl, Nat.le_of_ble_eq_true rfl⟩) hA hP hS (fun H locs hP hS hbz_q26 => ?_)
                        refine lv_iload hx hb dX11_hang_163 (lv_at hl 5 rfl) ?_
                        refine lv_iand hx hb dX11_hang_165 ?_
                        refine lv_aload_n hx hb dX11_hang_166 rfl (lv_at hl 1 rfl) ?_
                        refine lv_iload hx hb dX11_hang_167 (lv_at hl 9 rfl) ?_
                        obtain ⟨q27, hq27, hf⟩ := bd_e hf
                        refine k_iR (va_runV (C := RX11) (As := [.int x21]) (rest := [.int (q26 &&& x7)]) ⟨hx, hb, hml, hown, hts⟩ (c_X11_wayOf (l := l) (sz := H.size) (p0 := x21) hN h86 h89 hq27) (cwV 1 hts gX11_hang_X11_wayOf rfl rfl rfl (by decide +kernel) ⟨Nat.le_of_ble_eq_true rfl, Nat.le_of_ble_eq_true rfl⟩) (preV_of hK hP (by omega) h86 rfl) rfl rfl hl.1 rfl (lv_room (Nat.le_of_ble_eq_true rfl)) dX11_hang_169 ⟨Nat.le_of_ble_eq_true rfl, Nat.le_of_ble_eq_true rfl⟩) hA hP hS (fun H locs hP hS hbz_q27 => ?_)
                        refine lv_iload hx hb dX11_hang_172 (lv_at hl 5 rfl) ?_
                        refine lv_iand hx hb dX11_hang_174 ?_
                        refine lv_icmp_eq (tgt := 182) hx hb dX11_hang_175 (by decide) (fun c28 => ?_) (fun c28 => ?_)
                        · have hf := it_e c28 hf
                          refine lv_iconst (v := 0) hx hb dX11_hang_182 (by decide) ?_
                          obtain rfl := Option.some.inj hf
                          exact jnq23 C H locs ls hP hS hag h86 h89 h91 h94 h103 h104 (lv_sub hl [1, 2, 3, 4, 5, 6, 7, 8, 9, 0] rfl)
                        · have hf := ie_e c28 hf
                          refine lv_iconst (v := 1) hx hb dX11_hang_178 (by decide) ?_
                          refine lv_goto (tgt := 183) hx hb dX11_hang_179 (by decide) ?_
                          obtain rfl := Option.some.inj hf
                          exact jnq23 C H locs ls hP hS hag h86 h89 h91 h94 h103 h104 (lv_sub hl [1, 2, 3, 4, 5, 6, 7, 8, 9, 0] rfl)
                    clear hf
                    have hf := htq22
                    refine lv_icmp_ge (tgt := 149) hx hb dX11_hang_107 (by decide) (fun c29 => ?_) (fun c29 => ?_)
                    · have hf := it_e c29 hf
                      refine lv_iconst (v := 0) hx hb dX11_hang_149 (by decide) ?_
                      obtain rfl := Option.some.inj hf
                      exact jnq22 C H locs ls hP hS hag h86 h89 h91 h94 h103 h104 (lv_sub hl [2, 3, 4, 5, 6, 7, 8, 1, 0] rfl)
                    · have hf := ie_e c29 hf
                      refine lv_iload_n hx hb dX11_hang_110 rfl (lv_at hl 4 rfl) ?_
                      refine lv_iload hx hb dX11_hang_111 (lv_at hl 1 rfl) ?_
                      obtain ⟨q30, hq30, hf⟩ := bd_e hf
                      refine k_iR (va_runS (As := [.int q4, .int x19]) (rest := []) ⟨hx, hb, hml, hown, hts⟩ (c_X11_has (l := l) (sz := H.size) (p0 := q4) (p1 := x19) hq30) (va_cwS 2 hts gX11_hang_X11_has rfl rfl rfl (by decide +kernel) ⟨Nat.le_of_ble_eq_true rfl, Nat.le_of_ble_eq_true rfl⟩) preS0 rfl rfl hl.1 rfl (lv_room (Nat.le_of_ble_eq_true rfl)) dX11_hang_113 ⟨Nat.le_of_ble_eq_true rfl, Nat.le_of_ble_eq_true rfl⟩) hA hP hS (fun H locs hP hS hbz_q30 => ?_)
                      refine lv_if_eq (tgt := 149) hx hb dX11_hang_116 (by decide) (fun c31 => ?_) (fun c31 => ?_)
                      · have hf := it_e c31 hf
                        refine lv_iconst (v := 0) hx hb dX11_hang_149 (by decide) ?_
                        obtain rfl := Option.some.inj hf
                        exact jnq22 C H locs ls hP hS hag h86 h89 h91 h94 h103 h104 (lv_sub hl [2, 3, 4, 5, 6, 7, 8, 1, 0] rfl)
                      · have hf := ie_e c31 hf
                        refine lv_iload_n hx hb dX11_hang_119 rfl (lv_at hl 4 rfl) ?_
                        refine lv_iload hx hb dX11_hang_120 (lv_at hl 0 rfl) ?_
                        obtain ⟨q32, hq32, hf⟩ := bd_e hf
                        refine k_iR (va_runS (As := [.int q4, .int x21]) (rest := []) ⟨hx, hb, hml, hown, hts⟩ (c_X11_has (l := l) (sz := H.size) (p0 := q4) (p1 := x21) hq32) (va_cwS 2 hts gX11_hang_X11_has rfl rfl rfl (by decide +kernel) ⟨Nat.le_of_ble_eq_true rfl, Nat.le_of_ble_eq_true rfl⟩) preS0 rfl rfl hl.1 rfl (lv_room (Nat.le_of_ble_eq_true rfl)) dX11_hang_122 ⟨Nat.le_of_ble_eq_true rfl, Nat.le_of_ble_eq_true rfl⟩) hA hP hS (fun H locs hP hS hbz_q32 => ?_)
                        refine lv_if_eq (tgt := 149) hx hb dX11_hang_125 (by decide) (fun c33 => ?_) (fun c33 => ?_)
                        · have hf := it_e c33 hf
                          refine lv_iconst (v := 0) hx hb dX11_hang_149 (by decide) ?_
                          obtain rfl := Option.some.inj hf
                          exact jnq22 C H locs ls hP hS hag h86 h89 h91 h94 h103 h104 (lv_sub hl [2, 3, 4, 5, 6, 7, 8, 1, 0] rfl)
                        · have hf := ie_e c33 hf
                          refine lv_aload_n hx hb dX11_hang_128 rfl (lv_at hl 2 rfl) ?_
                          refine r_get (own := RX11) (T := TX11) (n := 32) (ci := 11) (v := .ref (ad 104)) hx hb hts nX11 hown hK hP (by omega) h86 rfl 26 (by decide) k3 rfl dX11_hang_129 ?_
                          refine lv_bipush (v := 12) hx hb dX11_hang_132 (by decide) ?_
                          refine lv_iload hx hb dX11_hang_134 (lv_at hl 1 rfl) ?_
                          refine lv_imul hx hb dX11_hang_136 ?_
                          refine lv_iload hx hb dX11_hang_137 (lv_at hl 0 rfl) ?_
                          refine lv_iadd hx hb dX11_hang_139 ?_
                          obtain ⟨i35, x34, ex34, hf⟩ := ri_e hf
                          refine r_iald hx hb hK hP (by omega) h104 i35 dX11_hang_140 ex34 ?_
                          refine lv_iload_n hx hb dX11_hang_141 rfl (lv_at hl 3 rfl) ?_
                          refine lv_icmp_le (tgt := 149) hx hb dX11_hang_142 (by decide) (fun c36 => ?_) (fun c36 => ?_)
                          · have hf := it_e c36 hf
                            refine lv_iconst (v := 0) hx hb dX11_hang_149 (by decide) ?_
                            obtain rfl := Option.some.inj hf
                            exact jnq22 C H locs ls hP hS hag h86 h89 h91 h94 h103 h104 (lv_sub hl [2, 3, 4, 5, 6, 7, 8, 1, 0] rfl)
                          · have hf := ie_e c36 hf
                            refine lv_iconst (v := 1) hx hb dX11_hang_145 (by decide) ?_
                            refine lv_goto (tgt := 150) hx hb dX11_hang_146 (by decide) ?_
                            obtain rfl := Option.some.inj hf
                            exact jnq22 C H locs ls hP hS hag h86 h89 h91 h94 h103 h104 (lv_sub hl [2, 3, 4, 5, 6, 7, 8, 1, 0] rfl)
            refine key76 _ (fun x14 x15 C H locs ls hP hS hag h86 h89 h91 h94 h103 h104 hl hf => ?_) FU q11 0 C H locs ls hP hS hag h86 h89 h91 h94 h103 h104 (lv_sub hl [2, 3, 4, 5, 6, 1, 0] rfl) hf
            refine lv_iload hx hb dX11_hang_191 (lv_at hl 5 rfl) ?_
            obtain ⟨q37, htq37, hf⟩ := bd_e hf
            have jnq37 : ∀ (C : Nat → va_E) (H : Heap) (locs : List Loc) (ls : Array Slot), va_P D vwCl (wd N ad C) H → va_S (Aw N ad s.heap.size) s.heap H locs → (∀ i : Nat, i ≠ 103 ∧ i ≠ 104 → C i = C0 i) → C 86 = .inr (11, [.ref (ad 87), .int m_len, .ref (ad 88), .int m_rm, .int m_there, .ref (ad 89), .ref (ad 90), .ref (ad 91), .ref (ad 92), .ref (ad 93), .ref (ad 94), .ref (ad 95), .ref (ad 96), .ref (ad 97), .ref (ad 98), .ref (ad 99), .ref (ad 100), .ref (ad 101), .int m_lift, .int m_blank, .ref (ad 102), .int m_fm, .int m_at, .int m_pl, .int m_end, .ref (ad 103), .ref (ad 104), .ref (ad 105), .ref (ad 106), .ref (ad 107), .ref (ad 108), .int m_seed]) → C 89 = aI g 12 m_down → C 91 = aI g 12 m_walk → C 94 = aI g 12 m_lik → C 103 = aI g 12 q3.1 → C 104 = aI g 144 q3.2 → lv_has ls 10 [(0, .ref (ad 86)), (1, .int p0), (2, .int q4), (3, .int x6), (4, .int x7), (5, .int x14), (6, .int x15)] → W p l e (headSpec wsX11_hang rmX11_hang).room s m args below meth c H locs 0 0 QQ (F0 m 202 ls [.int q37]) := by
              intro C H locs ls hP hS hag h86 h89 h91 h94 h103 h104 hl
              refine lv_istore_n (lv' := [(3, .int q37), (0, .ref (ad 86)), (1, .int p0), (2, .int q4), (4, .int x7), (5, .int x14), (6, .int x15)]) hx hb dX11_hang_202 rfl hl (by decide) rfl (fun ls hl => ?_)
              obtain ⟨x38, ex38, hf⟩ := lt_e hf
              refine lv_iinc (v := x38) (lv' := [(4, .int x38), (3, .int q37), (0, .ref (ad 86)), (1, .int p0), (2, .int q4), (5, .int x14), (6, .int x15)]) hx hb dX11_hang_203 hl (k := 4) rfl (by rw [ex38]; rfl) (by decide) rfl (fun ls hl => ?_)
              refine lv_goto (tgt := 29) hx hb dX11_hang_206 (by decide) ?_
              exact ih q37 x38 C H locs ls hP hS hag h86 h89 h91 h94 h103 h104 (lv_sub hl [2, 3, 4, 1, 0] rfl) hf
            clear hf
            have hf := htq37
            refine lv_if_eq (tgt := 201) hx hb dX11_hang_193 (by decide) (fun c39 => ?_) (fun c39 => ?_)
            · have hf := it_e c39 hf
              refine lv_iload_n hx hb dX11_hang_201 rfl (lv_at hl 3 rfl) ?_
              obtain rfl := Option.some.inj hf
              exact jnq37 C H locs ls hP hS hag h86 h89 h91 h94 h103 h104 (lv_sub hl [0, 1, 2, 3, 4, 5, 6] rfl)
            · have hf := ie_e c39 hf
              refine lv_iload hx hb dX11_hang_196 (lv_at hl 4 rfl) ?_
              refine lv_goto (tgt := 202) hx hb dX11_hang_198 (by decide) ?_
              obtain rfl := Option.some.inj hf
              exact jnq37 C H locs ls hP hS hag h86 h89 h91 h94 h103 h104 (lv_sub hl [0, 1, 2, 3, 4, 5, 6] rfl)
          clear hf
          have hf := htq11
          refine lv_if_ne (tgt := 70) hx hb dX11_hang_46 (by decide) (fun c40 => ?_) (fun c40 => ?_)
          · have hf := ie_e c40 hf
            refine lv_iconst (v := 0) hx hb dX11_hang_70 (by decide) ?_
            obtain rfl := Option.some.inj hf
            exact jnq11 C H locs ls hP hS hag h86 h89 h91 h94 h103 h104 (lv_sub hl [0, 1, 2, 3, 4] rfl)
          · have hf := it_e c40 hf
            refine lv_iload_n hx hb dX11_hang_49 rfl (lv_at hl 3 rfl) ?_
            refine lv_iconst (v := (-1)) hx hb dX11_hang_50 (by decide) ?_
            refine lv_icmp_eq (tgt := 66) hx hb dX11_hang_51 (by decide) (fun c41 => ?_) (fun c41 => ?_)
            · have hf := it_e c41 hf
              refine lv_iconst (v := 1) hx hb dX11_hang_66 (by decide) ?_
              refine lv_goto (tgt := 71) hx hb dX11_hang_67 (by decide) ?_
              obtain rfl := Option.some.inj hf
              exact jnq11 C H locs ls hP hS hag h86 h89 h91 h94 h103 h104 (lv_sub hl [0, 1, 2, 3, 4] rfl)
            · have hf := ie_e c41 hf
              refine lv_iload hx hb dX11_hang_54 (lv_at hl 4 rfl) ?_
              obtain ⟨q42, hq42, hf⟩ := bd_e hf
              refine k_iR (va_runS (As := [.int x7]) (rest := []) ⟨hx, hb, hml, hown, hts⟩ (c_X11_many (l := l) (sz := H.size) (p0 := x7) hq42) (va_cwS 1 hts gX11_hang_X11_many rfl rfl rfl (by decide +kernel) ⟨Nat.le_of_ble_eq_true rfl, Nat.le_of_ble_eq_true rfl⟩) preS0 rfl rfl hl.1 rfl (lv_room (Nat.le_of_ble_eq_true rfl)) dX11_hang_56 ⟨Nat.le_of_ble_eq_true rfl, Nat.le_of_ble_eq_true rfl⟩) hA hP hS (fun H locs hP hS hbz_q42 => ?_)
              refine lv_iload_n hx hb dX11_hang_59 rfl (lv_at hl 3 rfl) ?_
              obtain ⟨q43, hq43, hf⟩ := bd_e hf
              refine k_iR (va_runS (As := [.int x6]) (rest := [.int q42]) ⟨hx, hb, hml, hown, hts⟩ (c_X11_many (l := l) (sz := H.size) (p0 := x6) hq43) (va_cwS 1 hts gX11_hang_X11_many rfl rfl rfl (by decide +kernel) ⟨Nat.le_of_ble_eq_true rfl, Nat.le_of_ble_eq_true rfl⟩) preS0 rfl rfl hl.1 rfl (lv_room (Nat.le_of_ble_eq_true rfl)) dX11_hang_60 ⟨Nat.le_of_ble_eq_true rfl, Nat.le_of_ble_eq_true rfl⟩) hA hP hS (fun H locs hP hS hbz_q43 => ?_)
              refine lv_icmp_ge (tgt := 70) hx hb dX11_hang_63 (by decide) (fun c44 => ?_) (fun c44 => ?_)
              · have hf := it_e c44 hf
                refine lv_iconst (v := 0) hx hb dX11_hang_70 (by decide) ?_
                obtain rfl := Option.some.inj hf
                exact jnq11 C H locs ls hP hS hag h86 h89 h91 h94 h103 h104 (lv_sub hl [0, 1, 2, 3, 4] rfl)
              · have hf := ie_e c44 hf
                refine lv_iconst (v := 1) hx hb dX11_hang_66 (by decide) ?_
                refine lv_goto (tgt := 71) hx hb dX11_hang_67 (by decide) ?_
                obtain rfl := Option.some.inj hf
                exact jnq11 C H locs ls hP hS hag h86 h89 h91 h94 h103 h104 (lv_sub hl [0, 1, 2, 3, 4] rfl)
    refine key29 _ (fun x8 x9 C H locs ls hP hS hag h86 h89 h91 h94 h103 h104 hl hf => ?_) FU x5 0 C H locs ls hP hS hag h86 h89 h91 h94 h103 h104 (lv_sub hl [3, 4, 2, 1, 0] rfl) hf
    refine lv_iload_n hx hb dX11_hang_209 rfl (lv_at hl 3 rfl) ?_
    obtain rfl := Option.some.inj hf
    rw [← hQ]
    exact e_iW hx hb hr rfl (tP_i _) hP hS ⟨hag, h103, h104⟩ hlocks dX11_hang_210
  · have hf := it_e c2 hf
    refine lv_bipush (v := (-3)) hx hb dX11_hang_12 (by decide) ?_
    obtain rfl := Option.some.inj hf
    rw [← hQ]
    exact e_iW hx hb hr rfl (tP_i _) hP hS ⟨hag, h103, h104⟩ hlocks dX11_hang_14

def f_X11_draw (p0 : Int32) (m_seed : Int32) : Option (Int32 × Int32) :=
  nz (65536) <|
  lt ((((m_seed * 25173) + 13849) - ((m_seed * 25173) + 13849) / 65536 * 65536) : Int32) fun x2 =>
  nz (64) <|
  nz (p0) <|
  some (((x2 / 64) - (x2 / 64) / p0 * p0), x2)
abbrev rmX11_draw : Room := { frames := 0, cells := 0, slots := 0, locals := 0 }
set_option maxHeartbeats 4000000 in
set_option maxRecDepth 100000 in
theorem c_X11_draw {l : Launch} {D : va_G} {g : Nat → ClassId} {N : Nat} {ad : Nat → Nat} {C : Nat → va_E} {sz : Nat} {m_len : Int32} {m_rm : Int32} {m_there : Int32} {m_lift : Int32} {m_blank : Int32} {m_fm : Int32} {m_at : Int32} {m_pl : Int32} {m_end : Int32} {m_seed : Int32} {p0 : Int32} {rr : Int32 × Int32} (hN : 109 ≤ N) (hI : Inj N ad) (h86 : C 86 = .inr (11, [.ref (ad 87), .int m_len, .ref (ad 88), .int m_rm, .int m_there, .ref (ad 89), .ref (ad 90), .ref (ad 91), .ref (ad 92), .ref (ad 93), .ref (ad 94), .ref (ad 95), .ref (ad 96), .ref (ad 97), .ref (ad 98), .ref (ad 99), .ref (ad 100), .ref (ad 101), .int m_lift, .int m_blank, .ref (ad 102), .int m_fm, .int m_at, .int m_pl, .int m_end, .ref (ad 103), .ref (ad 104), .ref (ad 105), .ref (ad 106), .ref (ad 107), .ref (ad 108), .int m_seed])) (hf : f_X11_draw p0 m_seed = some rr) : Met l yX11_draw wsX11_draw rmX11_draw (PcW D g N ad C sz [.ref (ad 86), .int p0]) (QiW D N ad sz tP rr.1 (fun C' => (∀ i : Nat, i ≠ 86 → C' i = C i) ∧ (C' 86 = .inr (11, [.ref (ad 87), .int m_len, .ref (ad 88), .int m_rm, .int m_there, .ref (ad 89), .ref (ad 90), .ref (ad 91), .ref (ad 92), .ref (ad 93), .ref (ad 94), .ref (ad 95), .ref (ad 96), .ref (ad 97), .ref (ad 98), .ref (ad 99), .ref (ad 100), .ref (ad 101), .int m_lift, .int m_blank, .ref (ad 102), .int m_fm, .int m_at, .int m_pl, .int m_end, .ref (ad 103), .ref (ad 104), .ref (ad 105), .ref (ad 106), .ref (ad 107), .ref (ad 108), .int rr.2])))) 0 0 (Aw N ad sz) := by
  refine Met.ofW (cc := cX11_draw) (maxL := 2) (ret := (some .int)) (by decide) rfl ?_
  intro p e s m args below meth c s₁ B hml hv
  obtain ⟨hav, hsz, hK, hP⟩ := hv
  subst hsz
  have hx := B.exec
  have hb := B.bytes
  have hr := B.returns
  have hts := atoms_spec (ws := wsX11_draw) B.pre
  have hown : s.vm.findClass RX11 = some m.cls := findClass_of_methodNamed B.named
  have hlocks := B.notSynchronized
  generalize hQ : MQ below (QiW D N ad s.heap.size tP rr.1 (fun C' => (∀ i : Nat, i ≠ 86 → C' i = C i) ∧ (C' 86 = .inr (11, [.ref (ad 87), .int m_len, .ref (ad 88), .int m_rm, .int m_there, .ref (ad 89), .ref (ad 90), .ref (ad 91), .ref (ad 92), .ref (ad 93), .ref (ad 94), .ref (ad 95), .ref (ad 96), .ref (ad 97), .ref (ad 98), .ref (ad 99), .ref (ad 100), .ref (ad 101), .int m_lift, .int m_blank, .ref (ad 102), .int m_fm, .int m_at, .int m_pl, .int m_end, .ref (ad 103), .ref (ad 104), .ref (ad 105), .ref (ad 106), .ref (ad 107), .ref (ad 108), .int rr.2])))) args s 0 0 (Aw N ad s.heap.size) = QQ
  have hS : va_S (Aw N ad s.heap.size) s.heap s.heap [] := va_S.rf
  have hA : ∀ q, s.heap.size ≤ q → (Aw N ad s.heap.size) q := fun q h => Or.inr h
  have hAd : ∀ j : Nat, j < N → (Aw N ad s.heap.size) (ad j) := fun j h => Or.inl ⟨j, h, rfl⟩
  obtain ⟨C0, hC0⟩ : ∃ C0 : Nat → va_E, C0 = C := ⟨_, rfl⟩
  have hag : ∀ i : Nat, i ≠ 86 → C i = C0 i := fun i _ => by rw [hC0]
  rw [← hC0] at hQ
  have k0 := hts (.fieldLink RX11 296 "UpDrainModel" "seed" "I") (List.mem_of_getElem? (i := 1) rfl)
  have nX11 : ∀ w ∈ u_ws RX11 TX11 32, w ∈ wsX11_draw := fun _ h => List.mem_cons_of_mem _ (List.mem_append_right _ h)
  have k2 := hts (.constant RX11 299 (65536)) (List.mem_of_getElem? (i := 2) rfl)
  have hE := lg_entry_eq m [.ref (ad 86), .int p0] 2
  rw [← hav] at hE
  rw [hE]
  have hl := lv_entry [.ref (ad 86), .int p0] (n := 2) (Nat.le_of_ble_eq_true rfl)
  generalize (lg_sl [.ref (ad 86), .int p0] ++ List.replicate (2 - (lg_sl [.ref (ad 86), .int p0]).length) Slot.unset).toArray = ls at hl ⊢
  have hl : lv_has ls 2 [(0, .ref (ad 86)), (1, .int p0)] := hl
  clear hE
  unfold f_X11_draw at hf
  suffices hgo : ∀ (H : Heap) (locs : List Loc), va_P D vwCl (wd N ad C) H → va_S (Aw N ad s.heap.size) s.heap H locs → W p l e (headSpec wsX11_draw rmX11_draw).room s m args below meth c H locs 0 0 QQ (F0 m 0 ls []) from hgo s.heap [] hP hS
  clear hS hP
  intro H locs hP hS
  refine lv_aload_n hx hb dX11_draw_0 rfl (lv_at hl 0 rfl) ?_
  refine lv_aload_n hx hb dX11_draw_1 rfl (lv_at hl 0 rfl) ?_
  refine r_get (own := RX11) (T := TX11) (n := 32) (ci := 11) (v := .int m_seed) hx hb hts nX11 hown hK hP (by omega) h86 rfl 31 (by decide) k0 rfl dX11_draw_2 ?_
  refine lv_sipush (v := 25173) hx hb dX11_draw_5 (by decide) ?_
  refine lv_imul hx hb dX11_draw_8 ?_
  refine lv_sipush (v := 13849) hx hb dX11_draw_9 (by decide) ?_
  refine lv_iadd hx hb dX11_draw_12 ?_
  refine lv_ldcw (own := RX11) hx hb hown k2 dX11_draw_13 ?_
  obtain ⟨z1, hf⟩ := nz_e hf
  refine lv_irem hx hb dX11_draw_16 z1 ?_
  obtain ⟨x2, ex2, hf⟩ := lt_e hf
  refine tp_i ex2 ?_
  refine r_put (own := RX11) (T := TX11) (n := 32) (ci := 11) (v := .int x2) hx hb hts nX11 tyX11 tyX11_ok nmX11 hown hK hI hAd hP hS (by omega) h86 rfl 31 (by decide) k0 rfl rfl rfl (Nat.le_of_ble_eq_true rfl) dX11_draw_17 (fun C H locs hP hS he hn => ?_)
  have hag : ∀ i : Nat, i ≠ 86 → C i = C0 i := fun i h => (he i (by omega)).trans (hag i h)
  have h86 : C 86 = .inr (11, [.ref (ad 87), .int m_len, .ref (ad 88), .int m_rm, .int m_there, .ref (ad 89), .ref (ad 90), .ref (ad 91), .ref (ad 92), .ref (ad 93), .ref (ad 94), .ref (ad 95), .ref (ad 96), .ref (ad 97), .ref (ad 98), .ref (ad 99), .ref (ad 100), .ref (ad 101), .int m_lift, .int m_blank, .ref (ad 102), .int m_fm, .int m_at, .int m_pl, .int m_end, .ref (ad 103), .ref (ad 104), .ref (ad 105), .ref (ad 106), .ref (ad 107), .ref (ad 108), .int x2]) := hn
  refine lv_aload_n hx hb dX11_draw_20 rfl (lv_at hl 0 rfl) ?_
  refine r_get (own := RX11) (T := TX11) (n := 32) (ci := 11) (v := .int x2) hx hb hts nX11 hown hK hP (by omega) h86 rfl 31 (by decide) k0 rfl dX11_draw_21 ?_
  refine lv_bipush (v := 64) hx hb dX11_draw_24 (by decide) ?_
  obtain ⟨z3, hf⟩ := nz_e hf
  refine lv_idiv hx hb dX11_draw_26 z3 ?_
  refine lv_iload_n hx hb dX11_draw_27 rfl (lv_at hl 1 rfl) ?_
  obtain ⟨z4, hf⟩ := nz_e hf
  refine lv_irem hx hb dX11_draw_28 z4 ?_
  obtain rfl := Option.some.inj hf
  rw [← hQ]
  exact e_iW hx hb hr rfl (tP_i _) hP hS ⟨hag, h86⟩ hlocks dX11_draw_29

def LX11_drawSource_12 (p0 : Int32) (m_lik : Nat → Int32) (q2 : Int32 × Int32) (ko : Int32 → Int32 → Option (Int32 × Int32)) : Nat → Int32 → Int32 → Option (Int32 × Int32)
  | 0, _, _ => none
  | n + 1, x3, x4 =>
    if 12 ≤ x4 then
      ko x3 x4
    else
      (f_X11_has p0 x4).bind fun q8 =>
      if q8 = 0 then
        lt (x4 + 1 : Int32) fun x10 =>
        LX11_drawSource_12 p0 m_lik q2 ko n x3 x10
      else
        ri m_lik 12 (x4) fun x11 =>
        if x11 ≤ x3 then
          ri m_lik 12 (x4) fun x14 =>
          lt ((x3 - x14) : Int32) fun x16 =>
          lt (x4 + 1 : Int32) fun x17 =>
          LX11_drawSource_12 p0 m_lik q2 ko n x16 x17
        else
          some (x4, q2.2)
theorem LX11_drawSource_12_z (p0 : Int32) (m_lik : Nat → Int32) (q2 : Int32 × Int32) (ko : Int32 → Int32 → Option (Int32 × Int32)) (x3 : Int32) (x4 : Int32) : LX11_drawSource_12 p0 m_lik q2 ko 0 x3 x4 = none := rfl
theorem LX11_drawSource_12_s (p0 : Int32) (m_lik : Nat → Int32) (q2 : Int32 × Int32) (ko : Int32 → Int32 → Option (Int32 × Int32)) (n : Nat) (x3 : Int32) (x4 : Int32) : LX11_drawSource_12 p0 m_lik q2 ko (n + 1) x3 x4 =
    if 12 ≤ x4 then
      ko x3 x4
    else
      (f_X11_has p0 x4).bind fun q8 =>
      if q8 = 0 then
        lt (x4 + 1 : Int32) fun x10 =>
        LX11_drawSource_12 p0 m_lik q2 ko n x3 x10
      else
        ri m_lik 12 (x4) fun x11 =>
        if x11 ≤ x3 then
          ri m_lik 12 (x4) fun x14 =>
          lt ((x3 - x14) : Int32) fun x16 =>
          lt (x4 + 1 : Int32) fun x17 =>
          LX11_drawSource_12 p0 m_lik q2 ko n x16 x17
        else
          some (x4, q2.2) := rfl
def f_X11_drawSource (p0 : Int32) (m_lik : Nat → Int32) (m_seed : Int32) : Option (Int32 × Int32) :=
  (f_X11_likelyOf p0 m_lik).bind fun q1 =>
  (f_X11_draw q1 m_seed).bind fun q2 =>
  LX11_drawSource_12 p0 m_lik q2 (fun x5 x6 =>
    some ((-1), q2.2)) FU q2.1 0
abbrev rmX11_drawSource : Room := { frames := 2, cells := 0, slots := 0, locals := 44 }
set_option maxHeartbeats 4000000 in
set_option maxRecDepth 100000 in
theorem c_X11_drawSource {l : Launch} {D : va_G} {g : Nat → ClassId} {N : Nat} {ad : Nat → Nat} {C : Nat → va_E} {sz : Nat} {m_len : Int32} {m_rm : Int32} {m_there : Int32} {m_lift : Int32} {m_blank : Int32} {m_fm : Int32} {m_at : Int32} {m_pl : Int32} {m_end : Int32} {m_seed : Int32} {m_lik : Nat → Int32} {p0 : Int32} {rr : Int32 × Int32} (hN : 109 ≤ N) (hI : Inj N ad) (h86 : C 86 = .inr (11, [.ref (ad 87), .int m_len, .ref (ad 88), .int m_rm, .int m_there, .ref (ad 89), .ref (ad 90), .ref (ad 91), .ref (ad 92), .ref (ad 93), .ref (ad 94), .ref (ad 95), .ref (ad 96), .ref (ad 97), .ref (ad 98), .ref (ad 99), .ref (ad 100), .ref (ad 101), .int m_lift, .int m_blank, .ref (ad 102), .int m_fm, .int m_at, .int m_pl, .int m_end, .ref (ad 103), .ref (ad 104), .ref (ad 105), .ref (ad 106), .ref (ad 107), .ref (ad 108), .int m_seed])) (h94 : C 94 = aI g 12 m_lik) (hf : f_X11_drawSource p0 m_lik m_seed = some rr) : Met l yX11_drawSource wsX11_drawSource rmX11_drawSource (PcW D g N ad C sz [.ref (ad 86), .int p0]) (QiW D N ad sz tP rr.1 (fun C' => (∀ i : Nat, i ≠ 86 → C' i = C i) ∧ (C' 86 = .inr (11, [.ref (ad 87), .int m_len, .ref (ad 88), .int m_rm, .int m_there, .ref (ad 89), .ref (ad 90), .ref (ad 91), .ref (ad 92), .ref (ad 93), .ref (ad 94), .ref (ad 95), .ref (ad 96), .ref (ad 97), .ref (ad 98), .ref (ad 99), .ref (ad 100), .ref (ad 101), .int m_lift, .int m_blank, .ref (ad 102), .int m_fm, .int m_at, .int m_pl, .int m_end, .ref (ad 103), .ref (ad 104), .ref (ad 105), .ref (ad 106), .ref (ad 107), .ref (ad 108), .int rr.2])))) 0 0 (Aw N ad sz) := by
  refine Met.ofW (cc := cX11_drawSource) (maxL := 4) (ret := (some .int)) (by decide) rfl ?_
  intro p e s m args below meth c s₁ B hml hv
  obtain ⟨hav, hsz, hK, hP⟩ := hv
  subst hsz
  have hx := B.exec
  have hb := B.bytes
  have hr := B.returns
  have hts := atoms_spec (ws := wsX11_drawSource) B.pre
  have hown : s.vm.findClass RX11 = some m.cls := findClass_of_methodNamed B.named
  have hlocks := B.notSynchronized
  generalize hQ : MQ below (QiW D N ad s.heap.size tP rr.1 (fun C' => (∀ i : Nat, i ≠ 86 → C' i = C i) ∧ (C' 86 = .inr (11, [.ref (ad 87), .int m_len, .ref (ad 88), .int m_rm, .int m_there, .ref (ad 89), .ref (ad 90), .ref (ad 91), .ref (ad 92), .ref (ad 93), .ref (ad 94), .ref (ad 95), .ref (ad 96), .ref (ad 97), .ref (ad 98), .ref (ad 99), .ref (ad 100), .ref (ad 101), .int m_lift, .int m_blank, .ref (ad 102), .int m_fm, .int m_at, .int m_pl, .int m_end, .ref (ad 103), .ref (ad 104), .ref (ad 105), .ref (ad 106), .ref (ad 107), .ref (ad 108), .int rr.2])))) args s 0 0 (Aw N ad s.heap.size) = QQ
  have hS : va_S (Aw N ad s.heap.size) s.heap s.heap [] := va_S.rf
  have hA : ∀ q, s.heap.size ≤ q → (Aw N ad s.heap.size) q := fun q h => Or.inr h
  have hAd : ∀ j : Nat, j < N → (Aw N ad s.heap.size) (ad j) := fun j h => Or.inl ⟨j, h, rfl⟩
  obtain ⟨C0, hC0⟩ : ∃ C0 : Nat → va_E, C0 = C := ⟨_, rfl⟩
  have hag : ∀ i : Nat, i ≠ 86 → C i = C0 i := fun i _ => by rw [hC0]
  rw [← hC0] at hQ
  have k0 := hts (.fieldLink RX11 35 "UpDrainModel" "likely" "[I") (List.mem_of_getElem? (i := 1) rfl)
  have nX11 : ∀ w ∈ u_ws RX11 TX11 32, w ∈ wsX11_drawSource := fun _ h => List.mem_cons_of_mem _ (List.mem_append_right _ h)
  have hE := lg_entry_eq m [.ref (ad 86), .int p0] 4
  rw [← hav] at hE
  rw [hE]
  have hl := lv_entry [.ref (ad 86), .int p0] (n := 4) (Nat.le_of_ble_eq_true rfl)
  generalize (lg_sl [.ref (ad 86), .int p0] ++ List.replicate (4 - (lg_sl [.ref (ad 86), .int p0]).length) Slot.unset).toArray = ls at hl ⊢
  have hl : lv_has ls 4 [(0, .ref (ad 86)), (1, .int p0)] := hl
  clear hE
  unfold f_X11_drawSource at hf
  suffices hgo : ∀ (H : Heap) (locs : List Loc), va_P D vwCl (wd N ad C) H → va_S (Aw N ad s.heap.size) s.heap H locs → W p l e (headSpec wsX11_drawSource rmX11_drawSource).room s m args below meth c H locs 0 0 QQ (F0 m 0 ls []) from hgo s.heap [] hP hS
  clear hS hP
  intro H locs hP hS
  refine lv_aload_n hx hb dX11_drawSource_0 rfl (lv_at hl 0 rfl) ?_
  refine lv_aload_n hx hb dX11_drawSource_1 rfl (lv_at hl 0 rfl) ?_
  refine lv_iload_n hx hb dX11_drawSource_2 rfl (lv_at hl 1 rfl) ?_
  obtain ⟨q1, hq1, hf⟩ := bd_e hf
  refine k_iR (va_runV (C := RX11) (As := [.int p0]) (rest := [.ref (ad 86)]) ⟨hx, hb, hml, hown, hts⟩ (c_X11_likelyOf (l := l) (sz := H.size) (p0 := p0) hN h86 h94 hq1) (cwV 1 hts gX11_drawSource_X11_likelyOf rfl rfl rfl (by decide +kernel) ⟨Nat.le_of_ble_eq_true rfl, Nat.le_of_ble_eq_true rfl⟩) (preV_of hK hP (by omega) h86 rfl) rfl rfl hl.1 rfl (lv_room (Nat.le_of_ble_eq_true rfl)) dX11_drawSource_3 ⟨Nat.le_of_ble_eq_true rfl, Nat.le_of_ble_eq_true rfl⟩) hA hP hS (fun H locs hP hS hbz_q1 => ?_)
  obtain ⟨q2, hq2, hf⟩ := bd_e hf
  refine k_iW (va_runV (C := RX11) (As := [.int q1]) (rest := []) ⟨hx, hb, hml, hown, hts⟩ (c_X11_draw (l := l) (sz := H.size) (p0 := q1) hN hI h86 hq2) (cwV 1 hts gX11_drawSource_X11_draw rfl rfl rfl (by decide +kernel) ⟨Nat.le_of_ble_eq_true rfl, Nat.le_of_ble_eq_true rfl⟩) (preV_of hK hP (by omega) h86 rfl) rfl rfl hl.1 rfl (lv_room (Nat.le_of_ble_eq_true rfl)) dX11_drawSource_6 ⟨Nat.le_of_ble_eq_true rfl, Nat.le_of_ble_eq_true rfl⟩) hA hAd hS (fun C H locs hP hS hpo hbz_q2 => ?_)
  obtain ⟨he, h86⟩ := hpo
  have hag : ∀ i : Nat, i ≠ 86 → C i = C0 i := fun i h => (he i (by omega)).trans (hag i h)
  have h94 := (he 94 (by decide)).trans h94
  refine lv_istore_n (lv' := [(2, .int q2.1), (0, .ref (ad 86)), (1, .int p0)]) hx hb dX11_drawSource_9 rfl hl (by decide) rfl (fun ls hl => ?_)
  refine lv_iconst (v := 0) hx hb dX11_drawSource_10 (by decide) ?_
  refine lv_istore_n (lv' := [(3, .int 0), (2, .int q2.1), (0, .ref (ad 86)), (1, .int p0)]) hx hb dX11_drawSource_11 rfl hl (by decide) rfl (fun ls hl => ?_)
  have key12 : ∀ (ko : Int32 → Int32 → Option (Int32 × Int32)), (∀ (x5 : Int32) (x6 : Int32) (C : Nat → va_E) (H : Heap) (locs : List Loc) (ls : Array Slot), va_P D vwCl (wd N ad C) H → va_S (Aw N ad s.heap.size) s.heap H locs → (∀ i : Nat, i ≠ 86 → C i = C0 i) → C 86 = .inr (11, [.ref (ad 87), .int m_len, .ref (ad 88), .int m_rm, .int m_there, .ref (ad 89), .ref (ad 90), .ref (ad 91), .ref (ad 92), .ref (ad 93), .ref (ad 94), .ref (ad 95), .ref (ad 96), .ref (ad 97), .ref (ad 98), .ref (ad 99), .ref (ad 100), .ref (ad 101), .int m_lift, .int m_blank, .ref (ad 102), .int m_fm, .int m_at, .int m_pl, .int m_end, .ref (ad 103), .ref (ad 104), .ref (ad 105), .ref (ad 106), .ref (ad 107), .ref (ad 108), .int q2.2]) → C 94 = aI g 12 m_lik → lv_has ls 4 [(0, .ref (ad 86)), (1, .int p0), (2, .int x5), (3, .int x6)] → ko x5 x6 = some rr → W p l e (headSpec wsX11_drawSource rmX11_drawSource).room s m args below meth c H locs 0 0 QQ (F0 m 53 ls [])) → ∀ (n : Nat) (x3 : Int32) (x4 : Int32) (C : Nat → va_E) (H : Heap) (locs : List Loc) (ls : Array Slot), va_P D vwCl (wd N ad C) H → va_S (Aw N ad s.heap.size) s.heap H locs → (∀ i : Nat, i ≠ 86 → C i = C0 i) → C 86 = .inr (11, [.ref (ad 87), .int m_len, .ref (ad 88), .int m_rm, .int m_there, .ref (ad 89), .ref (ad 90), .ref (ad 91), .ref (ad 92), .ref (ad 93), .ref (ad 94), .ref (ad 95), .ref (ad 96), .ref (ad 97), .ref (ad 98), .ref (ad 99), .ref (ad 100), .ref (ad 101), .int m_lift, .int m_blank, .ref (ad 102), .int m_fm, .int m_at, .int m_pl, .int m_end, .ref (ad 103), .ref (ad 104), .ref (ad 105), .ref (ad 106), .ref (ad 107), .ref (ad 108), .int q2.2]) → C 94 = aI g 12 m_lik → lv_has ls 4 [(0, .ref (ad 86)), (1, .int p0), (2, .int x3), (3, .int x4)] → LX11_drawSource_12 p0 m_lik q2 ko n x3 x4 = some rr → W p l e (headSpec wsX11_drawSource rmX11_drawSource).room s m args below meth c H locs 0 0 QQ (F0 m 12 ls []) := by
    intro ko hko n
    induction n with
    | zero =>
      intro x3 x4 C H locs ls hP hS hag h86 h94 hl hf
      rw [LX11_drawSource_12_z] at hf
      cases hf
    | succ n ih =>
      intro x3 x4 C H locs ls hP hS hag h86 h94 hl hf
      rw [LX11_drawSource_12_s] at hf
      refine lv_iload_n hx hb dX11_drawSource_12 rfl (lv_at hl 3 rfl) ?_
      refine lv_bipush (v := 12) hx hb dX11_drawSource_13 (by decide) ?_
      refine lv_icmp_ge (tgt := 53) hx hb dX11_drawSource_15 (by decide) (fun c7 => ?_) (fun c7 => ?_)
      · have hf := it_e c7 hf
        exact hko x3 x4 C H locs ls hP hS hag h86 h94 (lv_sub hl [0, 1, 2, 3] rfl) hf
      · have hf := ie_e c7 hf
        refine lv_iload_n hx hb dX11_drawSource_18 rfl (lv_at hl 1 rfl) ?_
        refine lv_iload_n hx hb dX11_drawSource_19 rfl (lv_at hl 3 rfl) ?_
        obtain ⟨q8, hq8, hf⟩ := bd_e hf
        refine k_iR (va_runS (As := [.int p0, .int x4]) (rest := []) ⟨hx, hb, hml, hown, hts⟩ (c_X11_has (l := l) (sz := H.size) (p0 := p0) (p1 := x4) hq8) (va_cwS 2 hts gX11_drawSource_X11_has rfl rfl rfl (by decide +kernel) ⟨Nat.le_of_ble_eq_true rfl, Nat.le_of_ble_eq_true rfl⟩) preS0 rfl rfl hl.1 rfl (lv_room (Nat.le_of_ble_eq_true rfl)) dX11_drawSource_20 ⟨Nat.le_of_ble_eq_true rfl, Nat.le_of_ble_eq_true rfl⟩) hA hP hS (fun H locs hP hS hbz_q8 => ?_)
        refine lv_if_eq (tgt := 47) hx hb dX11_drawSource_23 (by decide) (fun c9 => ?_) (fun c9 => ?_)
        · have hf := it_e c9 hf
          obtain ⟨x10, ex10, hf⟩ := lt_e hf
          refine lv_iinc (v := x10) (lv' := [(3, .int x10), (0, .ref (ad 86)), (1, .int p0), (2, .int x3)]) hx hb dX11_drawSource_47 hl (k := 3) rfl (by rw [ex10]; rfl) (by decide) rfl (fun ls hl => ?_)
          refine lv_goto (tgt := 12) hx hb dX11_drawSource_50 (by decide) ?_
          exact ih x3 x10 C H locs ls hP hS hag h86 h94 (lv_sub hl [1, 2, 3, 0] rfl) hf
        · have hf := ie_e c9 hf
          refine lv_iload_n hx hb dX11_drawSource_26 rfl (lv_at hl 2 rfl) ?_
          refine lv_aload_n hx hb dX11_drawSource_27 rfl (lv_at hl 0 rfl) ?_
          refine r_get (own := RX11) (T := TX11) (n := 32) (ci := 11) (v := .ref (ad 94)) hx hb hts nX11 hown hK hP (by omega) h86 rfl 10 (by decide) k0 rfl dX11_drawSource_28 ?_
          refine lv_iload_n hx hb dX11_drawSource_31 rfl (lv_at hl 3 rfl) ?_
          obtain ⟨i12, x11, ex11, hf⟩ := ri_e hf
          refine r_iald hx hb hK hP (by omega) h94 i12 dX11_drawSource_32 ex11 ?_
          refine lv_icmp_ge (tgt := 38) hx hb dX11_drawSource_33 (by decide) (fun c13 => ?_) (fun c13 => ?_)
          · have hf := it_e c13 hf
            refine lv_iload_n hx hb dX11_drawSource_38 rfl (lv_at hl 2 rfl) ?_
            refine lv_aload_n hx hb dX11_drawSource_39 rfl (lv_at hl 0 rfl) ?_
            refine r_get (own := RX11) (T := TX11) (n := 32) (ci := 11) (v := .ref (ad 94)) hx hb hts nX11 hown hK hP (by omega) h86 rfl 10 (by decide) k0 rfl dX11_drawSource_40 ?_
            refine lv_iload_n hx hb dX11_drawSource_43 rfl (lv_at hl 3 rfl) ?_
            obtain ⟨i15, x14, ex14, hf⟩ := ri_e hf
            refine r_iald hx hb hK hP (by omega) h94 i15 dX11_drawSource_44 ex14 ?_
            refine lv_isub hx hb dX11_drawSource_45 ?_
            obtain ⟨x16, ex16, hf⟩ := lt_e hf
            refine tp_i ex16 ?_
            refine lv_istore_n (lv' := [(2, .int x16), (0, .ref (ad 86)), (1, .int p0), (3, .int x4)]) hx hb dX11_drawSource_46 rfl hl (by decide) rfl (fun ls hl => ?_)
            obtain ⟨x17, ex17, hf⟩ := lt_e hf
            refine lv_iinc (v := x17) (lv' := [(3, .int x17), (2, .int x16), (0, .ref (ad 86)), (1, .int p0)]) hx hb dX11_drawSource_47 hl (k := 3) rfl (by rw [ex17]; rfl) (by decide) rfl (fun ls hl => ?_)
            refine lv_goto (tgt := 12) hx hb dX11_drawSource_50 (by decide) ?_
            exact ih x16 x17 C H locs ls hP hS hag h86 h94 (lv_sub hl [2, 3, 1, 0] rfl) hf
          · have hf := ie_e c13 hf
            refine lv_iload_n hx hb dX11_drawSource_36 rfl (lv_at hl 3 rfl) ?_
            obtain rfl := Option.some.inj hf
            rw [← hQ]
            exact e_iW hx hb hr rfl (tP_i _) hP hS ⟨hag, h86⟩ hlocks dX11_drawSource_37
  refine key12 _ (fun x5 x6 C H locs ls hP hS hag h86 h94 hl hf => ?_) FU q2.1 0 C H locs ls hP hS hag h86 h94 (lv_sub hl [2, 3, 1, 0] rfl) hf
  refine lv_iconst (v := (-1)) hx hb dX11_drawSource_53 (by decide) ?_
  obtain rfl := Option.some.inj hf
  rw [← hQ]
  exact e_iW hx hb hr rfl (tP_i _) hP hS ⟨hag, h86⟩ hlocks dX11_drawSource_54

def LX11_least_2 (p0 : Int32) (ko : Int32 → Option (Int32)) : Nat → Int32 → Option (Int32)
  | 0, _ => none
  | n + 1, x1 =>
    (f_X11_has p0 x1).bind fun q3 =>
    if q3 = 0 then
      lt (x1 + 1 : Int32) fun x5 =>
      LX11_least_2 p0 ko n x5
    else
      ko x1
theorem LX11_least_2_z (p0 : Int32) (ko : Int32 → Option (Int32)) (x1 : Int32) : LX11_least_2 p0 ko 0 x1 = none := rfl
theorem LX11_least_2_s (p0 : Int32) (ko : Int32 → Option (Int32)) (n : Nat) (x1 : Int32) : LX11_least_2 p0 ko (n + 1) x1 =
    (f_X11_has p0 x1).bind fun q3 =>
    if q3 = 0 then
      lt (x1 + 1 : Int32) fun x5 =>
      LX11_least_2 p0 ko n x5
    else
      ko x1 := rfl
def f_X11_least (p0 : Int32) : Option (Int32) :=
  LX11_least_2 p0 (fun x2 =>
    some (x2)) FU 0
abbrev rmX11_least : Room := { frames := 1, cells := 0, slots := 0, locals := 21 }
set_option maxHeartbeats 4000000 in
set_option maxRecDepth 100000 in
theorem c_X11_least {l : Launch} {sz : Nat}  {p0 : Int32} {rr : Int32} (hf : f_X11_least p0 = some rr) : Met l yX11_least wsX11_least rmX11_least (PcS sz [.int p0]) (QiR sz tP rr) 0 0 (An sz) := by
  refine Met.ofW (cc := cX11_least) (maxL := 2) (ret := (some .int)) (by decide) rfl ?_
  intro p e s m args below meth c s₁ B hml hv
  obtain ⟨hav, hsz⟩ := hv
  subst hsz
  have hx := B.exec
  have hb := B.bytes
  have hr := B.returns
  have hts := atoms_spec (ws := wsX11_least) B.pre
  have hown : s.vm.findClass RX11 = some m.cls := findClass_of_methodNamed B.named
  have hlocks := B.notSynchronized
  generalize hQ : MQ below (QiR s.heap.size tP rr) args s 0 0 (An s.heap.size) = QQ
  have hS : va_S (An s.heap.size) s.heap s.heap [] := va_S.rf
  have hA : ∀ q, s.heap.size ≤ q → (An s.heap.size) q := fun q h => h
  have hE := lg_entry_eq m [.int p0] 2
  rw [← hav] at hE
  rw [hE]
  have hl := lv_entry [.int p0] (n := 2) (Nat.le_of_ble_eq_true rfl)
  generalize (lg_sl [.int p0] ++ List.replicate (2 - (lg_sl [.int p0]).length) Slot.unset).toArray = ls at hl ⊢
  have hl : lv_has ls 2 [(0, .int p0)] := hl
  clear hE
  unfold f_X11_least at hf
  suffices hgo : ∀ (H : Heap) (locs : List Loc), va_S (An s.heap.size) s.heap H locs → W p l e (headSpec wsX11_least rmX11_least).room s m args below meth c H locs 0 0 QQ (F0 m 0 ls []) from hgo s.heap [] hS
  clear hS
  intro H locs hS
  refine lv_iconst (v := 0) hx hb dX11_least_0 (by decide) ?_
  refine lv_istore_n (lv' := [(1, .int 0), (0, .int p0)]) hx hb dX11_least_1 rfl hl (by decide) rfl (fun ls hl => ?_)
  have key2 : ∀ (ko : Int32 → Option (Int32)), (∀ (x2 : Int32) (H : Heap) (locs : List Loc) (ls : Array Slot), va_S (An s.heap.size) s.heap H locs → lv_has ls 2 [(0, .int p0), (1, .int x2)] → ko x2 = some rr → W p l e (headSpec wsX11_least rmX11_least).room s m args below meth c H locs 0 0 QQ (F0 m 16 ls [])) → ∀ (n : Nat) (x1 : Int32) (H : Heap) (locs : List Loc) (ls : Array Slot), va_S (An s.heap.size) s.heap H locs → lv_has ls 2 [(0, .int p0), (1, .int x1)] → LX11_least_2 p0 ko n x1 = some rr → W p l e (headSpec wsX11_least rmX11_least).room s m args below meth c H locs 0 0 QQ (F0 m 2 ls []) := by
    intro ko hko n
    induction n with
    | zero =>
      intro x1 H locs ls hS hl hf
      rw [LX11_least_2_z] at hf
      cases hf
    | succ n ih =>
      intro x1 H locs ls hS hl hf
      rw [LX11_least_2_s] at hf
      refine lv_iload_n hx hb dX11_least_2 rfl (lv_at hl 0 rfl) ?_
      refine lv_iload_n hx hb dX11_least_3 rfl (lv_at hl 1 rfl) ?_
      obtain ⟨q3, hq3, hf⟩ := bd_e hf
      refine k_i0 (va_runS (As := [.int p0, .int x1]) (rest := []) ⟨hx, hb, hml, hown, hts⟩ (c_X11_has (l := l) (sz := H.size) (p0 := p0) (p1 := x1) hq3) (va_cwS 2 hts gX11_least_X11_has rfl rfl rfl (by decide +kernel) ⟨Nat.le_of_ble_eq_true rfl, Nat.le_of_ble_eq_true rfl⟩) preS0 rfl rfl hl.1 rfl (lv_room (Nat.le_of_ble_eq_true rfl)) dX11_least_4 ⟨Nat.le_of_ble_eq_true rfl, Nat.le_of_ble_eq_true rfl⟩) hA hS (fun H locs hS hbz_q3 => ?_)
      refine lv_if_ne (tgt := 16) hx hb dX11_least_7 (by decide) (fun c4 => ?_) (fun c4 => ?_)
      · have hf := ie_e c4 hf
        exact hko x1 H locs ls hS (lv_sub hl [0, 1] rfl) hf
      · have hf := it_e c4 hf
        obtain ⟨x5, ex5, hf⟩ := lt_e hf
        refine lv_iinc (v := x5) (lv' := [(1, .int x5), (0, .int p0)]) hx hb dX11_least_10 hl (k := 1) rfl (by rw [ex5]; rfl) (by decide) rfl (fun ls hl => ?_)
        refine lv_goto (tgt := 2) hx hb dX11_least_13 (by decide) ?_
        exact ih x5 H locs ls hS (lv_sub hl [1, 0] rfl) hf
  refine key2 _ (fun x2 H locs ls hS hl hf => ?_) FU 0 H locs ls hS (lv_sub hl [1, 0] rfl) hf
  refine lv_iload_n hx hb dX11_least_16 rfl (lv_at hl 1 rfl) ?_
  obtain rfl := Option.some.inj hf
  rw [← hQ]
  exact e_iR hx hb hr rfl (tP_i _) hS hlocks dX11_least_17

