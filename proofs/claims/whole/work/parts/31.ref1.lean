def LX11_town_13 (q1 : Int32 × (Nat → Int32) × Int32 × Int32 × Int32 × Int32) (ko : Int32 → Int32 → (Nat → Int32) → (Nat → Int32) → (Nat → Int32) → (Nat → Int32) → (Nat → Int32) → (Nat → Int32) → Int32 → (Nat → Int32) → (Nat → Int32) → (Nat → Int32) → (Nat → Int32) → (Nat → Int32) → Int32 → (Nat → Int32) → (Nat → Int32) → Option (Int32 × (Nat → Int32) × (Nat → Int32) × (Nat → Int32) × (Nat → Int32) × (Nat → Int32) × (Nat → Int32) × (Nat → Int32) × (Nat → Int32) × (Nat → Int32) × (Nat → Int32) × (Nat → Int32) × (Nat → Int32) × (Nat → Int32) × (Nat → Int32) × Int32 × Int32 × Int32 × Int32 × Int32 × Int32 × Int32 × Int32)) : Nat → Int32 → Int32 → (Nat → Int32) → (Nat → Int32) → (Nat → Int32) → (Nat → Int32) → (Nat → Int32) → (Nat → Int32) → Int32 → (Nat → Int32) → (Nat → Int32) → (Nat → Int32) → (Nat → Int32) → (Nat → Int32) → Int32 → (Nat → Int32) → (Nat → Int32) → Option (Int32 × (Nat → Int32) × (Nat → Int32) × (Nat → Int32) × (Nat → Int32) × (Nat → Int32) × (Nat → Int32) × (Nat → Int32) × (Nat → Int32) × (Nat → Int32) × (Nat → Int32) × (Nat → Int32) × (Nat → Int32) × (Nat → Int32) × (Nat → Int32) × Int32 × Int32 × Int32 × Int32 × Int32 × Int32 × Int32 × Int32)
  | 0, _, _, _, _, _, _, _, _, _, _, _, _, _, _, _, _, _ => none
  | n + 1, x3, x4, f5, f6, f7, f8, f9, f10, x11, f12, f13, f14, f15, f16, x17, f18, f19 =>
    if q1.2.2.1 ≤ x3 then
      ko x3 x4 f5 f6 f7 f8 f9 f10 x11 f12 f13 f14 f15 f16 x17 f18 f19
    else
      (f_X11_run (6 * x3) q1.2.1 f5 f13 f19 f10 f6 f12 f15 f8 f18 f14 f16 f9 f7 x17 x11 x4).bind fun q38 =>
      lt (x3 + 1 : Int32) fun x39 =>
      LX11_town_13 q1 ko n x39 q38.2.2.2.2.2.2.2.2.2.2.2.2.2.2.2 q38.1 q38.2.2.2.2.1 q38.2.2.2.2.2.2.2.2.2.2.2.2.1 q38.2.2.2.2.2.2.2.1 q38.2.2.2.2.2.2.2.2.2.2.2.1 q38.2.2.2.1 q38.2.2.2.2.2.2.2.2.2.2.2.2.2.2.1 q38.2.2.2.2.2.1 q38.2.1 q38.2.2.2.2.2.2.2.2.2.1 q38.2.2.2.2.2.2.1 q38.2.2.2.2.2.2.2.2.2.2.1 q38.2.2.2.2.2.2.2.2.2.2.2.2.2.1 q38.2.2.2.2.2.2.2.2.1 q38.2.2.1
theorem LX11_town_13_z (q1 : Int32 × (Nat → Int32) × Int32 × Int32 × Int32 × Int32) (ko : Int32 → Int32 → (Nat → Int32) → (Nat → Int32) → (Nat → Int32) → (Nat → Int32) → (Nat → Int32) → (Nat → Int32) → Int32 → (Nat → Int32) → (Nat → Int32) → (Nat → Int32) → (Nat → Int32) → (Nat → Int32) → Int32 → (Nat → Int32) → (Nat → Int32) → Option (Int32 × (Nat → Int32) × (Nat → Int32) × (Nat → Int32) × (Nat → Int32) × (Nat → Int32) × (Nat → Int32) × (Nat → Int32) × (Nat → Int32) × (Nat → Int32) × (Nat → Int32) × (Nat → Int32) × (Nat → Int32) × (Nat → Int32) × (Nat → Int32) × Int32 × Int32 × Int32 × Int32 × Int32 × Int32 × Int32 × Int32)) (x3 : Int32) (x4 : Int32) (f5 : Nat → Int32) (f6 : Nat → Int32) (f7 : Nat → Int32) (f8 : Nat → Int32) (f9 : Nat → Int32) (f10 : Nat → Int32) (x11 : Int32) (f12 : Nat → Int32) (f13 : Nat → Int32) (f14 : Nat → Int32) (f15 : Nat → Int32) (f16 : Nat → Int32) (x17 : Int32) (f18 : Nat → Int32) (f19 : Nat → Int32) : LX11_town_13 q1 ko 0 x3 x4 f5 f6 f7 f8 f9 f10 x11 f12 f13 f14 f15 f16 x17 f18 f19 = none := rfl
theorem LX11_town_13_s (q1 : Int32 × (Nat → Int32) × Int32 × Int32 × Int32 × Int32) (ko : Int32 → Int32 → (Nat → Int32) → (Nat → Int32) → (Nat → Int32) → (Nat → Int32) → (Nat → Int32) → (Nat → Int32) → Int32 → (Nat → Int32) → (Nat → Int32) → (Nat → Int32) → (Nat → Int32) → (Nat → Int32) → Int32 → (Nat → Int32) → (Nat → Int32) → Option (Int32 × (Nat → Int32) × (Nat → Int32) × (Nat → Int32) × (Nat → Int32) × (Nat → Int32) × (Nat → Int32) × (Nat → Int32) × (Nat → Int32) × (Nat → Int32) × (Nat → Int32) × (Nat → Int32) × (Nat → Int32) × (Nat → Int32) × (Nat → Int32) × Int32 × Int32 × Int32 × Int32 × Int32 × Int32 × Int32 × Int32)) (n : Nat) (x3 : Int32) (x4 : Int32) (f5 : Nat → Int32) (f6 : Nat → Int32) (f7 : Nat → Int32) (f8 : Nat → Int32) (f9 : Nat → Int32) (f10 : Nat → Int32) (x11 : Int32) (f12 : Nat → Int32) (f13 : Nat → Int32) (f14 : Nat → Int32) (f15 : Nat → Int32) (f16 : Nat → Int32) (x17 : Int32) (f18 : Nat → Int32) (f19 : Nat → Int32) : LX11_town_13 q1 ko (n + 1) x3 x4 f5 f6 f7 f8 f9 f10 x11 f12 f13 f14 f15 f16 x17 f18 f19 =
    if q1.2.2.1 ≤ x3 then
      ko x3 x4 f5 f6 f7 f8 f9 f10 x11 f12 f13 f14 f15 f16 x17 f18 f19
    else
      (f_X11_run (6 * x3) q1.2.1 f5 f13 f19 f10 f6 f12 f15 f8 f18 f14 f16 f9 f7 x17 x11 x4).bind fun q38 =>
      lt (x3 + 1 : Int32) fun x39 =>
      LX11_town_13 q1 ko n x39 q38.2.2.2.2.2.2.2.2.2.2.2.2.2.2.2 q38.1 q38.2.2.2.2.1 q38.2.2.2.2.2.2.2.2.2.2.2.2.1 q38.2.2.2.2.2.2.2.1 q38.2.2.2.2.2.2.2.2.2.2.2.1 q38.2.2.2.1 q38.2.2.2.2.2.2.2.2.2.2.2.2.2.2.1 q38.2.2.2.2.2.1 q38.2.1 q38.2.2.2.2.2.2.2.2.2.1 q38.2.2.2.2.2.2.1 q38.2.2.2.2.2.2.2.2.2.2.1 q38.2.2.2.2.2.2.2.2.2.2.2.2.2.1 q38.2.2.2.2.2.2.2.2.1 q38.2.2.1 := rfl
def f_X11_town (m_text : Nat → Int32) (m_read : Nat → Int32) (m_down : Nat → Int32) (m_min : Nat → Int32) (m_walk : Nat → Int32) (m_gone : Nat → Int32) (m_flow : Nat → Int32) (m_lik : Nat → Int32) (m_str : Nat → Int32) (m_from : Nat → Int32) (m_to : Nat → Int32) (m_rain : Nat → Int32) (m_tell : Nat → Int32) (m_fy : Nat → Int32) (m_fn : Nat → Int32) (m_len : Int32) (m_rm : Int32) (m_there : Int32) (m_lift : Int32) (m_blank : Int32) (m_at : Int32) (m_pl : Int32) (m_end : Int32) : Option (Int32 × (Nat → Int32) × (Nat → Int32) × (Nat → Int32) × (Nat → Int32) × (Nat → Int32) × (Nat → Int32) × (Nat → Int32) × (Nat → Int32) × (Nat → Int32) × (Nat → Int32) × (Nat → Int32) × (Nat → Int32) × (Nat → Int32) × (Nat → Int32) × Int32 × Int32 × Int32 × Int32 × Int32 × Int32 × Int32 × Int32) :=
  (f_X11_fault m_text m_read m_len m_rm m_at m_pl m_end).bind fun q1 =>
  if q1.1 = (-1) then
    LX11_town_13 q1 (fun x20 x21 f22 f23 f24 f25 f26 f27 x28 f29 f30 f31 f32 f33 x34 f35 f36 =>
      some (q1.2.2.1, q1.2.1, f22, f30, f36, f27, f23, f29, f32, f25, f35, f31, f33, f26, f24, 0, q1.2.2.1, x34, x28, x21, q1.2.2.2.1, q1.2.2.2.2.1, q1.2.2.2.2.2)) FU 0 m_blank m_down m_flow m_fn m_from m_fy m_gone m_lift m_lik m_min m_rain m_str m_tell m_there m_to m_walk
  else
    some ((-4), q1.2.1, m_down, m_min, m_walk, m_gone, m_flow, m_lik, m_str, m_from, m_to, m_rain, m_tell, m_fy, m_fn, m_len, q1.2.2.1, m_there, m_lift, m_blank, q1.2.2.2.1, q1.2.2.2.2.1, q1.2.2.2.2.2)
abbrev rmX11_town : Room := { frames := 6, cells := 0, slots := 0, locals := 129 }
set_option maxHeartbeats 4000000 in
set_option maxRecDepth 100000 in
theorem c_X11_town {l : Launch} {D : va_G} {g : Nat → ClassId} {N : Nat} {ad : Nat → Nat} {C : Nat → va_E} {sz : Nat} {m_len : Int32} {m_rm : Int32} {m_there : Int32} {m_lift : Int32} {m_blank : Int32} {m_fm : Int32} {m_at : Int32} {m_pl : Int32} {m_end : Int32} {m_seed : Int32} {m_text : Nat → Int32} {m_read : Nat → Int32} {m_down : Nat → Int32} {m_min : Nat → Int32} {m_walk : Nat → Int32} {m_gone : Nat → Int32} {m_flow : Nat → Int32} {m_lik : Nat → Int32} {m_str : Nat → Int32} {m_from : Nat → Int32} {m_to : Nat → Int32} {m_rain : Nat → Int32} {m_tell : Nat → Int32} {m_fy : Nat → Int32} {m_fn : Nat → Int32}  {rr : Int32 × (Nat → Int32) × (Nat → Int32) × (Nat → Int32) × (Nat → Int32) × (Nat → Int32) × (Nat → Int32) × (Nat → Int32) × (Nat → Int32) × (Nat → Int32) × (Nat → Int32) × (Nat → Int32) × (Nat → Int32) × (Nat → Int32) × (Nat → Int32) × Int32 × Int32 × Int32 × Int32 × Int32 × Int32 × Int32 × Int32} (hN : 109 ≤ N) (hI : Inj N ad) (h86 : C 86 = .inr (11, [.ref (ad 87), .int m_len, .ref (ad 88), .int m_rm, .int m_there, .ref (ad 89), .ref (ad 90), .ref (ad 91), .ref (ad 92), .ref (ad 93), .ref (ad 94), .ref (ad 95), .ref (ad 96), .ref (ad 97), .ref (ad 98), .ref (ad 99), .ref (ad 100), .ref (ad 101), .int m_lift, .int m_blank, .ref (ad 102), .int m_fm, .int m_at, .int m_pl, .int m_end, .ref (ad 103), .ref (ad 104), .ref (ad 105), .ref (ad 106), .ref (ad 107), .ref (ad 108), .int m_seed])) (h87 : C 87 = aI g 200 m_text) (h88 : C 88 = aI g 54 m_read) (h89 : C 89 = aI g 12 m_down) (h90 : C 90 = aI g 12 m_min) (h91 : C 91 = aI g 12 m_walk) (h92 : C 92 = aI g 12 m_gone) (h93 : C 93 = aI g 12 m_flow) (h94 : C 94 = aI g 12 m_lik) (h95 : C 95 = aI g 12 m_str) (h96 : C 96 = aI g 12 m_from) (h97 : C 97 = aI g 12 m_to) (h98 : C 98 = aI g 24 m_rain) (h99 : C 99 = aI g 4 m_tell) (h100 : C 100 = aI g 4 m_fy) (h101 : C 101 = aI g 4 m_fn) (hf : f_X11_town m_text m_read m_down m_min m_walk m_gone m_flow m_lik m_str m_from m_to m_rain m_tell m_fy m_fn m_len m_rm m_there m_lift m_blank m_at m_pl m_end = some rr) : Met l yX11_town wsX11_town rmX11_town (PcW D g N ad C sz [.ref (ad 86)]) (QiW D N ad sz tP rr.1 (fun C' => (∀ i : Nat, i ≠ 100 ∧ i ≠ 101 ∧ i ≠ 86 ∧ i ≠ 88 ∧ i ≠ 89 ∧ i ≠ 90 ∧ i ≠ 91 ∧ i ≠ 92 ∧ i ≠ 93 ∧ i ≠ 94 ∧ i ≠ 95 ∧ i ≠ 96 ∧ i ≠ 97 ∧ i ≠ 98 ∧ i ≠ 99 → C' i = C i) ∧ (C' 100 = aI g 4 rr.2.2.2.2.2.2.2.2.2.2.2.2.2.1) ∧ (C' 101 = aI g 4 rr.2.2.2.2.2.2.2.2.2.2.2.2.2.2.1) ∧ (C' 86 = .inr (11, [.ref (ad 87), .int rr.2.2.2.2.2.2.2.2.2.2.2.2.2.2.2.1, .ref (ad 88), .int rr.2.2.2.2.2.2.2.2.2.2.2.2.2.2.2.2.1, .int rr.2.2.2.2.2.2.2.2.2.2.2.2.2.2.2.2.2.1, .ref (ad 89), .ref (ad 90), .ref (ad 91), .ref (ad 92), .ref (ad 93), .ref (ad 94), .ref (ad 95), .ref (ad 96), .ref (ad 97), .ref (ad 98), .ref (ad 99), .ref (ad 100), .ref (ad 101), .int rr.2.2.2.2.2.2.2.2.2.2.2.2.2.2.2.2.2.2.1, .int rr.2.2.2.2.2.2.2.2.2.2.2.2.2.2.2.2.2.2.2.1, .ref (ad 102), .int m_fm, .int rr.2.2.2.2.2.2.2.2.2.2.2.2.2.2.2.2.2.2.2.2.1, .int rr.2.2.2.2.2.2.2.2.2.2.2.2.2.2.2.2.2.2.2.2.2.1, .int rr.2.2.2.2.2.2.2.2.2.2.2.2.2.2.2.2.2.2.2.2.2.2, .ref (ad 103), .ref (ad 104), .ref (ad 105), .ref (ad 106), .ref (ad 107), .ref (ad 108), .int m_seed])) ∧ (C' 88 = aI g 54 rr.2.1) ∧ (C' 89 = aI g 12 rr.2.2.1) ∧ (C' 90 = aI g 12 rr.2.2.2.1) ∧ (C' 91 = aI g 12 rr.2.2.2.2.1) ∧ (C' 92 = aI g 12 rr.2.2.2.2.2.1) ∧ (C' 93 = aI g 12 rr.2.2.2.2.2.2.1) ∧ (C' 94 = aI g 12 rr.2.2.2.2.2.2.2.1) ∧ (C' 95 = aI g 12 rr.2.2.2.2.2.2.2.2.1) ∧ (C' 96 = aI g 12 rr.2.2.2.2.2.2.2.2.2.1) ∧ (C' 97 = aI g 12 rr.2.2.2.2.2.2.2.2.2.2.1) ∧ (C' 98 = aI g 24 rr.2.2.2.2.2.2.2.2.2.2.2.1) ∧ (C' 99 = aI g 4 rr.2.2.2.2.2.2.2.2.2.2.2.2.1))) 0 0 (Aw N ad sz) := by
  refine Met.ofW (cc := cX11_town) (maxL := 2) (ret := (some .int)) (by decide) rfl ?_
  intro p e s m args below meth c s₁ B hml hv
  obtain ⟨hav, hsz, hK, hP⟩ := hv
  subst hsz
  have hx := B.exec
  have hb := B.bytes
  have hr := B.returns
  have hts := atoms_spec (ws := wsX11_town) B.pre
  have hown : s.vm.findClass RX11 = some m.cls := findClass_of_methodNamed B.named
  have hlocks := B.notSynchronized
  generalize hQ : MQ below (QiW D N ad s.heap.size tP rr.1 (fun C' => (∀ i : Nat, i ≠ 100 ∧ i ≠ 101 ∧ i ≠ 86 ∧ i ≠ 88 ∧ i ≠ 89 ∧ i ≠ 90 ∧ i ≠ 91 ∧ i ≠ 92 ∧ i ≠ 93 ∧ i ≠ 94 ∧ i ≠ 95 ∧ i ≠ 96 ∧ i ≠ 97 ∧ i ≠ 98 ∧ i ≠ 99 → C' i = C i) ∧ (C' 100 = aI g 4 rr.2.2.2.2.2.2.2.2.2.2.2.2.2.1) ∧ (C' 101 = aI g 4 rr.2.2.2.2.2.2.2.2.2.2.2.2.2.2.1) ∧ (C' 86 = .inr (11, [.ref (ad 87), .int rr.2.2.2.2.2.2.2.2.2.2.2.2.2.2.2.1, .ref (ad 88), .int rr.2.2.2.2.2.2.2.2.2.2.2.2.2.2.2.2.1, .int rr.2.2.2.2.2.2.2.2.2.2.2.2.2.2.2.2.2.1, .ref (ad 89), .ref (ad 90), .ref (ad 91), .ref (ad 92), .ref (ad 93), .ref (ad 94), .ref (ad 95), .ref (ad 96), .ref (ad 97), .ref (ad 98), .ref (ad 99), .ref (ad 100), .ref (ad 101), .int rr.2.2.2.2.2.2.2.2.2.2.2.2.2.2.2.2.2.2.1, .int rr.2.2.2.2.2.2.2.2.2.2.2.2.2.2.2.2.2.2.2.1, .ref (ad 102), .int m_fm, .int rr.2.2.2.2.2.2.2.2.2.2.2.2.2.2.2.2.2.2.2.2.1, .int rr.2.2.2.2.2.2.2.2.2.2.2.2.2.2.2.2.2.2.2.2.2.1, .int rr.2.2.2.2.2.2.2.2.2.2.2.2.2.2.2.2.2.2.2.2.2.2, .ref (ad 103), .ref (ad 104), .ref (ad 105), .ref (ad 106), .ref (ad 107), .ref (ad 108), .int m_seed])) ∧ (C' 88 = aI g 54 rr.2.1) ∧ (C' 89 = aI g 12 rr.2.2.1) ∧ (C' 90 = aI g 12 rr.2.2.2.1) ∧ (C' 91 = aI g 12 rr.2.2.2.2.1) ∧ (C' 92 = aI g 12 rr.2.2.2.2.2.1) ∧ (C' 93 = aI g 12 rr.2.2.2.2.2.2.1) ∧ (C' 94 = aI g 12 rr.2.2.2.2.2.2.2.1) ∧ (C' 95 = aI g 12 rr.2.2.2.2.2.2.2.2.1) ∧ (C' 96 = aI g 12 rr.2.2.2.2.2.2.2.2.2.1) ∧ (C' 97 = aI g 12 rr.2.2.2.2.2.2.2.2.2.2.1) ∧ (C' 98 = aI g 24 rr.2.2.2.2.2.2.2.2.2.2.2.1) ∧ (C' 99 = aI g 4 rr.2.2.2.2.2.2.2.2.2.2.2.2.1))) args s 0 0 (Aw N ad s.heap.size) = QQ
  have hS : va_S (Aw N ad s.heap.size) s.heap s.heap [] := va_S.rf
  have hA : ∀ q, s.heap.size ≤ q → (Aw N ad s.heap.size) q := fun q h => Or.inr h
  have hAd : ∀ j : Nat, j < N → (Aw N ad s.heap.size) (ad j) := fun j h => Or.inl ⟨j, h, rfl⟩
  obtain ⟨C0, hC0⟩ : ∃ C0 : Nat → va_E, C0 = C := ⟨_, rfl⟩
  have hag : ∀ i : Nat, i ≠ 100 ∧ i ≠ 101 ∧ i ≠ 86 ∧ i ≠ 88 ∧ i ≠ 89 ∧ i ≠ 90 ∧ i ≠ 91 ∧ i ≠ 92 ∧ i ≠ 93 ∧ i ≠ 94 ∧ i ≠ 95 ∧ i ≠ 96 ∧ i ≠ 97 ∧ i ≠ 98 ∧ i ≠ 99 → C i = C0 i := fun i _ => by rw [hC0]
  rw [← hC0] at hQ
  have k0 := hts (.fieldLink RX11 111 "UpDrainModel" "readMany" "I") (List.mem_of_getElem? (i := 1) rfl)
  have nX11 : ∀ w ∈ u_ws RX11 TX11 32, w ∈ wsX11_town := fun _ h => List.mem_cons_of_mem _ (List.mem_append_right _ h)
  have k2 := hts (.fieldLink RX11 93 "UpDrainModel" "length" "I") (List.mem_of_getElem? (i := 2) rfl)
  have hE := lg_entry_eq m [.ref (ad 86)] 2
  rw [← hav] at hE
  rw [hE]
  have hl := lv_entry [.ref (ad 86)] (n := 2) (Nat.le_of_ble_eq_true rfl)
  generalize (lg_sl [.ref (ad 86)] ++ List.replicate (2 - (lg_sl [.ref (ad 86)]).length) Slot.unset).toArray = ls at hl ⊢
  have hl : lv_has ls 2 [(0, .ref (ad 86))] := hl
  clear hE
  unfold f_X11_town at hf
  suffices hgo : ∀ (H : Heap) (locs : List Loc), va_P D vwCl (wd N ad C) H → va_S (Aw N ad s.heap.size) s.heap H locs → W p l e (headSpec wsX11_town rmX11_town).room s m args below meth c H locs 0 0 QQ (F0 m 0 ls []) from hgo s.heap [] hP hS
  clear hS hP
  intro H locs hP hS
  refine lv_aload_n hx hb dX11_town_0 rfl (lv_at hl 0 rfl) ?_
  obtain ⟨q1, hq1, hf⟩ := bd_e hf
  refine k_iW (va_runV (C := RX11) (As := []) (rest := []) ⟨hx, hb, hml, hown, hts⟩ (c_X11_fault (l := l) (sz := H.size)  hN hI h86 h87 h88 hq1) (cwV 0 hts gX11_town_X11_fault rfl rfl rfl (by decide +kernel) ⟨Nat.le_of_ble_eq_true rfl, Nat.le_of_ble_eq_true rfl⟩) (preV_of hK hP (by omega) h86 rfl) rfl rfl hl.1 rfl (lv_room (Nat.le_of_ble_eq_true rfl)) dX11_town_1 ⟨Nat.le_of_ble_eq_true rfl, Nat.le_of_ble_eq_true rfl⟩) hA hAd hS (fun C H locs hP hS hpo hbz_q1 => ?_)
  obtain ⟨he, h86, h88⟩ := hpo
  have hag : ∀ i : Nat, i ≠ 100 ∧ i ≠ 101 ∧ i ≠ 86 ∧ i ≠ 88 ∧ i ≠ 89 ∧ i ≠ 90 ∧ i ≠ 91 ∧ i ≠ 92 ∧ i ≠ 93 ∧ i ≠ 94 ∧ i ≠ 95 ∧ i ≠ 96 ∧ i ≠ 97 ∧ i ≠ 98 ∧ i ≠ 99 → C i = C0 i := fun i h => (he i (by omega)).trans (hag i h)
  have h87 := (he 87 (by decide)).trans h87
  have h89 := (he 89 (by decide)).trans h89
  have h90 := (he 90 (by decide)).trans h90
  have h91 := (he 91 (by decide)).trans h91
  have h92 := (he 92 (by decide)).trans h92
  have h93 := (he 93 (by decide)).trans h93
  have h94 := (he 94 (by decide)).trans h94
  have h95 := (he 95 (by decide)).trans h95
  have h96 := (he 96 (by decide)).trans h96
  have h97 := (he 97 (by decide)).trans h97
  have h98 := (he 98 (by decide)).trans h98
  have h99 := (he 99 (by decide)).trans h99
  have h100 := (he 100 (by decide)).trans h100
  have h101 := (he 101 (by decide)).trans h101
  refine lv_iconst (v := (-1)) hx hb dX11_town_4 (by decide) ?_
  refine lv_icmp_eq (tgt := 11) hx hb dX11_town_5 (by decide) (fun c2 => ?_) (fun c2 => ?_)
  · have hf := it_e c2 hf
    refine lv_iconst (v := 0) hx hb dX11_town_11 (by decide) ?_
    refine lv_istore_n (lv' := [(1, .int 0), (0, .ref (ad 86))]) hx hb dX11_town_12 rfl hl (by decide) rfl (fun ls hl => ?_)
    have key13 : ∀ (ko : Int32 → Int32 → (Nat → Int32) → (Nat → Int32) → (Nat → Int32) → (Nat → Int32) → (Nat → Int32) → (Nat → Int32) → Int32 → (Nat → Int32) → (Nat → Int32) → (Nat → Int32) → (Nat → Int32) → (Nat → Int32) → Int32 → (Nat → Int32) → (Nat → Int32) → Option (Int32 × (Nat → Int32) × (Nat → Int32) × (Nat → Int32) × (Nat → Int32) × (Nat → Int32) × (Nat → Int32) × (Nat → Int32) × (Nat → Int32) × (Nat → Int32) × (Nat → Int32) × (Nat → Int32) × (Nat → Int32) × (Nat → Int32) × (Nat → Int32) × Int32 × Int32 × Int32 × Int32 × Int32 × Int32 × Int32 × Int32)), (∀ (x20 : Int32) (x21 : Int32) (f22 : Nat → Int32) (f23 : Nat → Int32) (f24 : Nat → Int32) (f25 : Nat → Int32) (f26 : Nat → Int32) (f27 : Nat → Int32) (x28 : Int32) (f29 : Nat → Int32) (f30 : Nat → Int32) (f31 : Nat → Int32) (f32 : Nat → Int32) (f33 : Nat → Int32) (x34 : Int32) (f35 : Nat → Int32) (f36 : Nat → Int32) (C : Nat → va_E) (H : Heap) (locs : List Loc) (ls : Array Slot), va_P D vwCl (wd N ad C) H → va_S (Aw N ad s.heap.size) s.heap H locs → (∀ i : Nat, i ≠ 100 ∧ i ≠ 101 ∧ i ≠ 86 ∧ i ≠ 88 ∧ i ≠ 89 ∧ i ≠ 90 ∧ i ≠ 91 ∧ i ≠ 92 ∧ i ≠ 93 ∧ i ≠ 94 ∧ i ≠ 95 ∧ i ≠ 96 ∧ i ≠ 97 ∧ i ≠ 98 ∧ i ≠ 99 → C i = C0 i) → C 86 = .inr (11, [.ref (ad 87), .int m_len, .ref (ad 88), .int q1.2.2.1, .int x34, .ref (ad 89), .ref (ad 90), .ref (ad 91), .ref (ad 92), .ref (ad 93), .ref (ad 94), .ref (ad 95), .ref (ad 96), .ref (ad 97), .ref (ad 98), .ref (ad 99), .ref (ad 100), .ref (ad 101), .int x28, .int x21, .ref (ad 102), .int m_fm, .int q1.2.2.2.1, .int q1.2.2.2.2.1, .int q1.2.2.2.2.2, .ref (ad 103), .ref (ad 104), .ref (ad 105), .ref (ad 106), .ref (ad 107), .ref (ad 108), .int m_seed]) → C 87 = aI g 200 m_text → C 88 = aI g 54 q1.2.1 → C 89 = aI g 12 f22 → C 90 = aI g 12 f30 → C 91 = aI g 12 f36 → C 92 = aI g 12 f27 → C 93 = aI g 12 f23 → C 94 = aI g 12 f29 → C 95 = aI g 12 f32 → C 96 = aI g 12 f25 → C 97 = aI g 12 f35 → C 98 = aI g 24 f31 → C 99 = aI g 4 f33 → C 100 = aI g 4 f26 → C 101 = aI g 4 f24 → lv_has ls 2 [(0, .ref (ad 86)), (1, .int x20)] → ko x20 x21 f22 f23 f24 f25 f26 f27 x28 f29 f30 f31 f32 f33 x34 f35 f36 = some rr → W p l e (headSpec wsX11_town rmX11_town).room s m args below meth c H locs 0 0 QQ (F0 m 35 ls [])) → ∀ (n : Nat) (x3 : Int32) (x4 : Int32) (f5 : Nat → Int32) (f6 : Nat → Int32) (f7 : Nat → Int32) (f8 : Nat → Int32) (f9 : Nat → Int32) (f10 : Nat → Int32) (x11 : Int32) (f12 : Nat → Int32) (f13 : Nat → Int32) (f14 : Nat → Int32) (f15 : Nat → Int32) (f16 : Nat → Int32) (x17 : Int32) (f18 : Nat → Int32) (f19 : Nat → Int32) (C : Nat → va_E) (H : Heap) (locs : List Loc) (ls : Array Slot), va_P D vwCl (wd N ad C) H → va_S (Aw N ad s.heap.size) s.heap H locs → (∀ i : Nat, i ≠ 100 ∧ i ≠ 101 ∧ i ≠ 86 ∧ i ≠ 88 ∧ i ≠ 89 ∧ i ≠ 90 ∧ i ≠ 91 ∧ i ≠ 92 ∧ i ≠ 93 ∧ i ≠ 94 ∧ i ≠ 95 ∧ i ≠ 96 ∧ i ≠ 97 ∧ i ≠ 98 ∧ i ≠ 99 → C i = C0 i) → C 86 = .inr (11, [.ref (ad 87), .int m_len, .ref (ad 88), .int q1.2.2.1, .int x17, .ref (ad 89), .ref (ad 90), .ref (ad 91), .ref (ad 92), .ref (ad 93), .ref (ad 94), .ref (ad 95), .ref (ad 96), .ref (ad 97), .ref (ad 98), .ref (ad 99), .ref (ad 100), .ref (ad 101), .int x11, .int x4, .ref (ad 102), .int m_fm, .int q1.2.2.2.1, .int q1.2.2.2.2.1, .int q1.2.2.2.2.2, .ref (ad 103), .ref (ad 104), .ref (ad 105), .ref (ad 106), .ref (ad 107), .ref (ad 108), .int m_seed]) → C 87 = aI g 200 m_text → C 88 = aI g 54 q1.2.1 → C 89 = aI g 12 f5 → C 90 = aI g 12 f13 → C 91 = aI g 12 f19 → C 92 = aI g 12 f10 → C 93 = aI g 12 f6 → C 94 = aI g 12 f12 → C 95 = aI g 12 f15 → C 96 = aI g 12 f8 → C 97 = aI g 12 f18 → C 98 = aI g 24 f14 → C 99 = aI g 4 f16 → C 100 = aI g 4 f9 → C 101 = aI g 4 f7 → lv_has ls 2 [(0, .ref (ad 86)), (1, .int x3)] → LX11_town_13 q1 ko n x3 x4 f5 f6 f7 f8 f9 f10 x11 f12 f13 f14 f15 f16 x17 f18 f19 = some rr → W p l e (headSpec wsX11_town rmX11_town).room s m args below meth c H locs 0 0 QQ (F0 m 13 ls []) := by
      intro ko hko n
      induction n with
      | zero =>
        intro x3 x4 f5 f6 f7 f8 f9 f10 x11 f12 f13 f14 f15 f16 x17 f18 f19 C H locs ls hP hS hag h86 h87 h88 h89 h90 h91 h92 h93 h94 h95 h96 h97 h98 h99 h100 h101 hl hf
        rw [LX11_town_13_z] at hf
        cases hf
      | succ n ih =>
        intro x3 x4 f5 f6 f7 f8 f9 f10 x11 f12 f13 f14 f15 f16 x17 f18 f19 C H locs ls hP hS hag h86 h87 h88 h89 h90 h91 h92 h93 h94 h95 h96 h97 h98 h99 h100 h101 hl hf
        rw [LX11_town_13_s] at hf
        refine lv_iload_n hx hb dX11_town_13 rfl (lv_at hl 1 rfl) ?_
        refine lv_aload_n hx hb dX11_town_14 rfl (lv_at hl 0 rfl) ?_
        refine r_get (own := RX11) (T := TX11) (n := 32) (ci := 11) (v := .int q1.2.2.1) hx hb hts nX11 hown hK hP (by omega) h86 rfl 3 (by decide) k0 rfl dX11_town_15 ?_
        refine lv_icmp_ge (tgt := 35) hx hb dX11_town_18 (by decide) (fun c37 => ?_) (fun c37 => ?_)
        · have hf := it_e c37 hf
          exact hko x3 x4 f5 f6 f7 f8 f9 f10 x11 f12 f13 f14 f15 f16 x17 f18 f19 C H locs ls hP hS hag h86 h87 h88 h89 h90 h91 h92 h93 h94 h95 h96 h97 h98 h99 h100 h101 (lv_sub hl [0, 1] rfl) hf
        · have hf := ie_e c37 hf
          refine lv_aload_n hx hb dX11_town_21 rfl (lv_at hl 0 rfl) ?_
          refine lv_bipush (v := 6) hx hb dX11_town_22 (by decide) ?_
          refine lv_iload_n hx hb dX11_town_24 rfl (lv_at hl 1 rfl) ?_
          refine lv_imul hx hb dX11_town_25 ?_
          obtain ⟨q38, hq38, hf⟩ := bd_e hf
          refine k_vW (va_runV (C := RX11) (As := [.int (6 * x3)]) (rest := []) ⟨hx, hb, hml, hown, hts⟩ (c_X11_run (l := l) (sz := H.size) (p0 := (6 * x3)) hN hI h86 h88 h89 h90 h91 h92 h93 h94 h95 h96 h97 h98 h99 h100 h101 hq38) (cwV 1 hts gX11_town_X11_run rfl rfl rfl (by decide +kernel) ⟨Nat.le_of_ble_eq_true rfl, Nat.le_of_ble_eq_true rfl⟩) (preV_of hK hP (by omega) h86 rfl) rfl rfl hl.1 rfl (lv_room (Nat.le_of_ble_eq_true rfl)) dX11_town_26 ⟨Nat.le_of_ble_eq_true rfl, Nat.le_of_ble_eq_true rfl⟩) hA hAd hS (fun C H locs hP hS hpo => ?_)
          obtain ⟨he, h100, h101, h86, h89, h90, h91, h92, h93, h94, h95, h96, h97, h98, h99⟩ := hpo
          have hag : ∀ i : Nat, i ≠ 100 ∧ i ≠ 101 ∧ i ≠ 86 ∧ i ≠ 88 ∧ i ≠ 89 ∧ i ≠ 90 ∧ i ≠ 91 ∧ i ≠ 92 ∧ i ≠ 93 ∧ i ≠ 94 ∧ i ≠ 95 ∧ i ≠ 96 ∧ i ≠ 97 ∧ i ≠ 98 ∧ i ≠ 99 → C i = C0 i := fun i h => (he i (by omega)).trans (hag i h)
          have h87 := (he 87 (by decide)).trans h87
          have h88 := (he 88 (by decide)).trans h88
          obtain ⟨x39, ex39, hf⟩ := lt_e hf
          refine lv_iinc (v := x39) (lv' := [(1, .int x39), (0, .ref (ad 86))]) hx hb dX11_town_29 hl (k := 1) rfl (by rw [ex39]; rfl) (by decide) rfl (fun ls hl => ?_)
          refine lv_goto (tgt := 13) hx hb dX11_town_32 (by decide) ?_
          exact ih x39 q38.2.2.2.2.2.2.2.2.2.2.2.2.2.2.2 q38.1 q38.2.2.2.2.1 q38.2.2.2.2.2.2.2.2.2.2.2.2.1 q38.2.2.2.2.2.2.2.1 q38.2.2.2.2.2.2.2.2.2.2.2.1 q38.2.2.2.1 q38.2.2.2.2.2.2.2.2.2.2.2.2.2.2.1 q38.2.2.2.2.2.1 q38.2.1 q38.2.2.2.2.2.2.2.2.2.1 q38.2.2.2.2.2.2.1 q38.2.2.2.2.2.2.2.2.2.2.1 q38.2.2.2.2.2.2.2.2.2.2.2.2.2.1 q38.2.2.2.2.2.2.2.2.1 q38.2.2.1 C H locs ls hP hS hag h86 h87 h88 h89 h90 h91 h92 h93 h94 h95 h96 h97 h98 h99 h100 h101 (lv_sub hl [1, 0] rfl) hf
    refine key13 _ (fun x20 x21 f22 f23 f24 f25 f26 f27 x28 f29 f30 f31 f32 f33 x34 f35 f36 C H locs ls hP hS hag h86 h87 h88 h89 h90 h91 h92 h93 h94 h95 h96 h97 h98 h99 h100 h101 hl hf => ?_) FU 0 m_blank m_down m_flow m_fn m_from m_fy m_gone m_lift m_lik m_min m_rain m_str m_tell m_there m_to m_walk C H locs ls hP hS hag h86 h87 h88 h89 h90 h91 h92 h93 h94 h95 h96 h97 h98 h99 h100 h101 (lv_sub hl [1, 0] rfl) hf
    refine lv_aload_n hx hb dX11_town_35 rfl (lv_at hl 0 rfl) ?_
    refine lv_iconst (v := 0) hx hb dX11_town_36 (by decide) ?_
    refine r_put (own := RX11) (T := TX11) (n := 32) (ci := 11) (v := .int 0) hx hb hts nX11 tyX11 tyX11_ok nmX11 hown hK hI hAd hP hS (by omega) h86 rfl 1 (by decide) k2 rfl rfl rfl (Nat.le_of_ble_eq_true rfl) dX11_town_37 (fun C H locs hP hS he hn => ?_)
    have hag : ∀ i : Nat, i ≠ 100 ∧ i ≠ 101 ∧ i ≠ 86 ∧ i ≠ 88 ∧ i ≠ 89 ∧ i ≠ 90 ∧ i ≠ 91 ∧ i ≠ 92 ∧ i ≠ 93 ∧ i ≠ 94 ∧ i ≠ 95 ∧ i ≠ 96 ∧ i ≠ 97 ∧ i ≠ 98 ∧ i ≠ 99 → C i = C0 i := fun i h => (he i (by omega)).trans (hag i h)
    have h87 := (he 87 (by decide)).trans h87
    have h88 := (he 88 (by decide)).trans h88
    have h89 := (he 89 (by decide)).trans h89
    have h90 := (he 90 (by decide)).trans h90
    have h91 := (he 91 (by decide)).trans h91
    have h92 := (he 92 (by decide)).trans h92
    have h93 := (he 93 (by decide)).trans h93
    have h94 := (he 94 (by decide)).trans h94
    have h95 := (he 95 (by decide)).trans h95
    have h96 := (he 96 (by decide)).trans h96
    have h97 := (he 97 (by decide)).trans h97
    have h98 := (he 98 (by decide)).trans h98
    have h99 := (he 99 (by decide)).trans h99
    have h100 := (he 100 (by decide)).trans h100
    have h101 := (he 101 (by decide)).trans h101
    have h86 : C 86 = .inr (11, [.ref (ad 87), .int 0, .ref (ad 88), .int q1.2.2.1, .int x34, .ref (ad 89), .ref (ad 90), .ref (ad 91), .ref (ad 92), .ref (ad 93), .ref (ad 94), .ref (ad 95), .ref (ad 96), .ref (ad 97), .ref (ad 98), .ref (ad 99), .ref (ad 100), .ref (ad 101), .int x28, .int x21, .ref (ad 102), .int m_fm, .int q1.2.2.2.1, .int q1.2.2.2.2.1, .int q1.2.2.2.2.2, .ref (ad 103), .ref (ad 104), .ref (ad 105), .ref (ad 106), .ref (ad 107), .ref (ad 108), .int m_seed]) := hn
    refine lv_aload_n hx hb dX11_town_40 rfl (lv_at hl 0 rfl) ?_
    refine r_get (own := RX11) (T := TX11) (n := 32) (ci := 11) (v := .int q1.2.2.1) hx hb hts nX11 hown hK hP (by omega) h86 rfl 3 (by decide) k0 rfl dX11_town_41 ?_
    obtain rfl := Option.some.inj hf
    rw [← hQ]
    exact e_iW hx hb hr rfl (tP_i _) hP hS ⟨hag, h100, h101, h86, h88, h89, h90, h91, h92, h93, h94, h95, h96, h97, h98, h99⟩ hlocks dX11_town_44
  · have hf := ie_e c2 hf
    refine lv_bipush (v := (-4)) hx hb dX11_town_8 (by decide) ?_
    obtain rfl := Option.some.inj hf
    rw [← hQ]
    exact e_iW hx hb hr rfl (tP_i _) hP hS ⟨hag, h100, h101, h86, h88, h89, h90, h91, h92, h93, h94, h95, h96, h97, h98, h99⟩ hlocks dX11_town_10

def f_X11_of (p0 : Int32) (p1 : Int32) (m_down : Nat → Int32) (m_min : Nat → Int32) (m_walk : Nat → Int32) (m_gone : Nat → Int32) (m_flow : Nat → Int32) (m_lik : Nat → Int32) (m_str : Nat → Int32) (m_from : Nat → Int32) (m_to : Nat → Int32) (m_there : Int32) : Option (Int32) :=
  (f_X11_isNode p0 m_there).bind fun q1 =>
  if q1 = 0 then
    some ((-2))
  else
    if p1 = 0 then
      ri m_down 12 (p0) fun x4 =>
      some (x4)
    else if p1 = 1 then
      ri m_min 12 (p0) fun x7 =>
      some (x7)
    else if p1 = 2 then
      ri m_walk 12 (p0) fun x10 =>
      some (x10)
    else if p1 = 3 then
      ri m_gone 12 (p0) fun x13 =>
      some (x13)
    else if p1 = 4 then
      ri m_flow 12 (p0) fun x16 =>
      some (x16)
    else if p1 = 5 then
      ri m_lik 12 (p0) fun x19 =>
      some (x19)
    else if p1 = 6 then
      ri m_str 12 (p0) fun x22 =>
      some (x22)
    else if p1 = 7 then
      ri m_from 12 (p0) fun x25 =>
      some (x25)
    else if p1 = 8 then
      ri m_to 12 (p0) fun x28 =>
      some (x28)
    else 
      some ((-3))
abbrev rmX11_of : Room := { frames := 2, cells := 0, slots := 0, locals := 46 }
set_option maxHeartbeats 4000000 in
set_option maxRecDepth 100000 in
theorem c_X11_of {l : Launch} {D : va_G} {g : Nat → ClassId} {N : Nat} {ad : Nat → Nat} {C : Nat → va_E} {sz : Nat} {m_len : Int32} {m_rm : Int32} {m_there : Int32} {m_lift : Int32} {m_blank : Int32} {m_fm : Int32} {m_at : Int32} {m_pl : Int32} {m_end : Int32} {m_seed : Int32} {m_down : Nat → Int32} {m_min : Nat → Int32} {m_walk : Nat → Int32} {m_gone : Nat → Int32} {m_flow : Nat → Int32} {m_lik : Nat → Int32} {m_str : Nat → Int32} {m_from : Nat → Int32} {m_to : Nat → Int32} {p0 : Int32} {p1 : Int32} {rr : Int32} (hN : 109 ≤ N) (h86 : C 86 = .inr (11, [.ref (ad 87), .int m_len, .ref (ad 88), .int m_rm, .int m_there, .ref (ad 89), .ref (ad 90), .ref (ad 91), .ref (ad 92), .ref (ad 93), .ref (ad 94), .ref (ad 95), .ref (ad 96), .ref (ad 97), .ref (ad 98), .ref (ad 99), .ref (ad 100), .ref (ad 101), .int m_lift, .int m_blank, .ref (ad 102), .int m_fm, .int m_at, .int m_pl, .int m_end, .ref (ad 103), .ref (ad 104), .ref (ad 105), .ref (ad 106), .ref (ad 107), .ref (ad 108), .int m_seed])) (h89 : C 89 = aI g 12 m_down) (h90 : C 90 = aI g 12 m_min) (h91 : C 91 = aI g 12 m_walk) (h92 : C 92 = aI g 12 m_gone) (h93 : C 93 = aI g 12 m_flow) (h94 : C 94 = aI g 12 m_lik) (h95 : C 95 = aI g 12 m_str) (h96 : C 96 = aI g 12 m_from) (h97 : C 97 = aI g 12 m_to) (hf : f_X11_of p0 p1 m_down m_min m_walk m_gone m_flow m_lik m_str m_from m_to m_there = some rr) : Met l yX11_of wsX11_of rmX11_of (PcW D g N ad C sz [.ref (ad 86), .int p0, .int p1]) (QiR sz tP rr) 0 0 (An sz) := by
  refine Met.ofW (cc := cX11_of) (maxL := 3) (ret := (some .int)) (by decide) rfl ?_
  intro p e s m args below meth c s₁ B hml hv
  obtain ⟨hav, hsz, hK, hP⟩ := hv
  subst hsz
  have hx := B.exec
  have hb := B.bytes
  have hr := B.returns
  have hts := atoms_spec (ws := wsX11_of) B.pre
  have hown : s.vm.findClass RX11 = some m.cls := findClass_of_methodNamed B.named
  have hlocks := B.notSynchronized
  generalize hQ : MQ below (QiR s.heap.size tP rr) args s 0 0 (An s.heap.size) = QQ
  have hS : va_S (An s.heap.size) s.heap s.heap [] := va_S.rf
  have hA : ∀ q, s.heap.size ≤ q → (An s.heap.size) q := fun q h => h
  have k0 := hts (.fieldLink RX11 20 "UpDrainModel" "down" "[I") (List.mem_of_getElem? (i := 1) rfl)
  have nX11 : ∀ w ∈ u_ws RX11 TX11 32, w ∈ wsX11_of := fun _ h => List.mem_cons_of_mem _ (List.mem_append_right _ h)
  have k2 := hts (.fieldLink RX11 23 "UpDrainModel" "minutes" "[I") (List.mem_of_getElem? (i := 2) rfl)
  have k3 := hts (.fieldLink RX11 26 "UpDrainModel" "walks" "[I") (List.mem_of_getElem? (i := 3) rfl)
  have k4 := hts (.fieldLink RX11 29 "UpDrainModel" "gone" "[I") (List.mem_of_getElem? (i := 4) rfl)
  have k5 := hts (.fieldLink RX11 32 "UpDrainModel" "flows" "[I") (List.mem_of_getElem? (i := 5) rfl)
  have k6 := hts (.fieldLink RX11 35 "UpDrainModel" "likely" "[I") (List.mem_of_getElem? (i := 6) rfl)
  have k7 := hts (.fieldLink RX11 38 "UpDrainModel" "strength" "[I") (List.mem_of_getElem? (i := 7) rfl)
  have k8 := hts (.fieldLink RX11 41 "UpDrainModel" "from" "[I") (List.mem_of_getElem? (i := 8) rfl)
  have k9 := hts (.fieldLink RX11 44 "UpDrainModel" "to" "[I") (List.mem_of_getElem? (i := 9) rfl)
  have hE := lg_entry_eq m [.ref (ad 86), .int p0, .int p1] 3
  rw [← hav] at hE
  rw [hE]
  have hl := lv_entry [.ref (ad 86), .int p0, .int p1] (n := 3) (Nat.le_of_ble_eq_true rfl)
  generalize (lg_sl [.ref (ad 86), .int p0, .int p1] ++ List.replicate (3 - (lg_sl [.ref (ad 86), .int p0, .int p1]).length) Slot.unset).toArray = ls at hl ⊢
  have hl : lv_has ls 3 [(0, .ref (ad 86)), (1, .int p0), (2, .int p1)] := hl
  clear hE
  unfold f_X11_of at hf
  suffices hgo : ∀ (H : Heap) (locs : List Loc), va_P D vwCl (wd N ad C) H → va_S (An s.heap.size) s.heap H locs → W p l e (headSpec wsX11_of rmX11_of).room s m args below meth c H locs 0 0 QQ (F0 m 0 ls []) from hgo s.heap [] hP hS
  clear hS hP
  intro H locs hP hS
  refine lv_aload_n hx hb dX11_of_0 rfl (lv_at hl 0 rfl) ?_
  refine lv_iload_n hx hb dX11_of_1 rfl (lv_at hl 1 rfl) ?_
  obtain ⟨q1, hq1, hf⟩ := bd_e hf
  refine k_iR (va_runV (C := RX11) (As := [.int p0]) (rest := []) ⟨hx, hb, hml, hown, hts⟩ (c_X11_isNode (l := l) (sz := H.size) (p0 := p0) hN h86 hq1) (cwV 1 hts gX11_of_X11_isNode rfl rfl rfl (by decide +kernel) ⟨Nat.le_of_ble_eq_true rfl, Nat.le_of_ble_eq_true rfl⟩) (preV_of hK hP (by omega) h86 rfl) rfl rfl hl.1 rfl (lv_room (Nat.le_of_ble_eq_true rfl)) dX11_of_2 ⟨Nat.le_of_ble_eq_true rfl, Nat.le_of_ble_eq_true rfl⟩) hA hP hS (fun H locs hP hS hbz_q1 => ?_)
  refine lv_if_ne (tgt := 11) hx hb dX11_of_5 (by decide) (fun c2 => ?_) (fun c2 => ?_)
  · have hf := ie_e c2 hf
    refine lv_iload_n hx hb dX11_of_11 rfl (lv_at hl 2 rfl) ?_
    by_cases c3 : p1 = 0
    · have hf := it_e c3 hf
      refine lv_tableIn (tgt := 64) hx hb dX11_of_12 (by rw [c3]; decide) (by rw [c3]; decide) (by rw [c3]; rfl) (by decide) ?_
      refine lv_aload_n hx hb dX11_of_64 rfl (lv_at hl 0 rfl) ?_
      refine r_get (own := RX11) (T := TX11) (n := 32) (ci := 11) (v := .ref (ad 89)) hx hb hts nX11 hown hK hP (by omega) h86 rfl 5 (by decide) k0 rfl dX11_of_65 ?_
      refine lv_iload_n hx hb dX11_of_68 rfl (lv_at hl 1 rfl) ?_
      obtain ⟨i5, x4, ex4, hf⟩ := ri_e hf
      refine r_iald hx hb hK hP (by omega) h89 i5 dX11_of_69 ex4 ?_
      obtain rfl := Option.some.inj hf
      rw [← hQ]
      exact e_iR hx hb hr rfl (tP_i _) hS hlocks dX11_of_70
    have hf := ie_e c3 hf
    by_cases c6 : p1 = 1
    · have hf := it_e c6 hf
      refine lv_tableIn (tgt := 71) hx hb dX11_of_12 (by rw [c6]; decide) (by rw [c6]; decide) (by rw [c6]; rfl) (by decide) ?_
      refine lv_aload_n hx hb dX11_of_71 rfl (lv_at hl 0 rfl) ?_
      refine r_get (own := RX11) (T := TX11) (n := 32) (ci := 11) (v := .ref (ad 90)) hx hb hts nX11 hown hK hP (by omega) h86 rfl 6 (by decide) k2 rfl dX11_of_72 ?_
      refine lv_iload_n hx hb dX11_of_75 rfl (lv_at hl 1 rfl) ?_
      obtain ⟨i8, x7, ex7, hf⟩ := ri_e hf
      refine r_iald hx hb hK hP (by omega) h90 i8 dX11_of_76 ex7 ?_
      obtain rfl := Option.some.inj hf
      rw [← hQ]
      exact e_iR hx hb hr rfl (tP_i _) hS hlocks dX11_of_77
    have hf := ie_e c6 hf
    by_cases c9 : p1 = 2
    · have hf := it_e c9 hf
      refine lv_tableIn (tgt := 78) hx hb dX11_of_12 (by rw [c9]; decide) (by rw [c9]; decide) (by rw [c9]; rfl) (by decide) ?_
      refine lv_aload_n hx hb dX11_of_78 rfl (lv_at hl 0 rfl) ?_
      refine r_get (own := RX11) (T := TX11) (n := 32) (ci := 11) (v := .ref (ad 91)) hx hb hts nX11 hown hK hP (by omega) h86 rfl 7 (by decide) k3 rfl dX11_of_79 ?_
      refine lv_iload_n hx hb dX11_of_82 rfl (lv_at hl 1 rfl) ?_
      obtain ⟨i11, x10, ex10, hf⟩ := ri_e hf
      refine r_iald hx hb hK hP (by omega) h91 i11 dX11_of_83 ex10 ?_
      obtain rfl := Option.some.inj hf
      rw [← hQ]
      exact e_iR hx hb hr rfl (tP_i _) hS hlocks dX11_of_84
    have hf := ie_e c9 hf
    by_cases c12 : p1 = 3
    · have hf := it_e c12 hf
      refine lv_tableIn (tgt := 85) hx hb dX11_of_12 (by rw [c12]; decide) (by rw [c12]; decide) (by rw [c12]; rfl) (by decide) ?_
      refine lv_aload_n hx hb dX11_of_85 rfl (lv_at hl 0 rfl) ?_
      refine r_get (own := RX11) (T := TX11) (n := 32) (ci := 11) (v := .ref (ad 92)) hx hb hts nX11 hown hK hP (by omega) h86 rfl 8 (by decide) k4 rfl dX11_of_86 ?_
      refine lv_iload_n hx hb dX11_of_89 rfl (lv_at hl 1 rfl) ?_
      obtain ⟨i14, x13, ex13, hf⟩ := ri_e hf
      refine r_iald hx hb hK hP (by omega) h92 i14 dX11_of_90 ex13 ?_
      obtain rfl := Option.some.inj hf
      rw [← hQ]
      exact e_iR hx hb hr rfl (tP_i _) hS hlocks dX11_of_91
    have hf := ie_e c12 hf
    by_cases c15 : p1 = 4
    · have hf := it_e c15 hf
      refine lv_tableIn (tgt := 92) hx hb dX11_of_12 (by rw [c15]; decide) (by rw [c15]; decide) (by rw [c15]; rfl) (by decide) ?_
      refine lv_aload_n hx hb dX11_of_92 rfl (lv_at hl 0 rfl) ?_
      refine r_get (own := RX11) (T := TX11) (n := 32) (ci := 11) (v := .ref (ad 93)) hx hb hts nX11 hown hK hP (by omega) h86 rfl 9 (by decide) k5 rfl dX11_of_93 ?_
      refine lv_iload_n hx hb dX11_of_96 rfl (lv_at hl 1 rfl) ?_
      obtain ⟨i17, x16, ex16, hf⟩ := ri_e hf
      refine r_iald hx hb hK hP (by omega) h93 i17 dX11_of_97 ex16 ?_
      obtain rfl := Option.some.inj hf
      rw [← hQ]
      exact e_iR hx hb hr rfl (tP_i _) hS hlocks dX11_of_98
    have hf := ie_e c15 hf
    by_cases c18 : p1 = 5
    · have hf := it_e c18 hf
      refine lv_tableIn (tgt := 99) hx hb dX11_of_12 (by rw [c18]; decide) (by rw [c18]; decide) (by rw [c18]; rfl) (by decide) ?_
      refine lv_aload_n hx hb dX11_of_99 rfl (lv_at hl 0 rfl) ?_
      refine r_get (own := RX11) (T := TX11) (n := 32) (ci := 11) (v := .ref (ad 94)) hx hb hts nX11 hown hK hP (by omega) h86 rfl 10 (by decide) k6 rfl dX11_of_100 ?_
      refine lv_iload_n hx hb dX11_of_103 rfl (lv_at hl 1 rfl) ?_
      obtain ⟨i20, x19, ex19, hf⟩ := ri_e hf
      refine r_iald hx hb hK hP (by omega) h94 i20 dX11_of_104 ex19 ?_
      obtain rfl := Option.some.inj hf
      rw [← hQ]
      exact e_iR hx hb hr rfl (tP_i _) hS hlocks dX11_of_105
    have hf := ie_e c18 hf
    by_cases c21 : p1 = 6
    · have hf := it_e c21 hf
      refine lv_tableIn (tgt := 106) hx hb dX11_of_12 (by rw [c21]; decide) (by rw [c21]; decide) (by rw [c21]; rfl) (by decide) ?_
      refine lv_aload_n hx hb dX11_of_106 rfl (lv_at hl 0 rfl) ?_
      refine r_get (own := RX11) (T := TX11) (n := 32) (ci := 11) (v := .ref (ad 95)) hx hb hts nX11 hown hK hP (by omega) h86 rfl 11 (by decide) k7 rfl dX11_of_107 ?_
      refine lv_iload_n hx hb dX11_of_110 rfl (lv_at hl 1 rfl) ?_
      obtain ⟨i23, x22, ex22, hf⟩ := ri_e hf
      refine r_iald hx hb hK hP (by omega) h95 i23 dX11_of_111 ex22 ?_
      obtain rfl := Option.some.inj hf
      rw [← hQ]
      exact e_iR hx hb hr rfl (tP_i _) hS hlocks dX11_of_112
    have hf := ie_e c21 hf
    by_cases c24 : p1 = 7
    · have hf := it_e c24 hf
      refine lv_tableIn (tgt := 113) hx hb dX11_of_12 (by rw [c24]; decide) (by rw [c24]; decide) (by rw [c24]; rfl) (by decide) ?_
      refine lv_aload_n hx hb dX11_of_113 rfl (lv_at hl 0 rfl) ?_
      refine r_get (own := RX11) (T := TX11) (n := 32) (ci := 11) (v := .ref (ad 96)) hx hb hts nX11 hown hK hP (by omega) h86 rfl 12 (by decide) k8 rfl dX11_of_114 ?_
      refine lv_iload_n hx hb dX11_of_117 rfl (lv_at hl 1 rfl) ?_
      obtain ⟨i26, x25, ex25, hf⟩ := ri_e hf
      refine r_iald hx hb hK hP (by omega) h96 i26 dX11_of_118 ex25 ?_
      obtain rfl := Option.some.inj hf
      rw [← hQ]
      exact e_iR hx hb hr rfl (tP_i _) hS hlocks dX11_of_119
    have hf := ie_e c24 hf
    by_cases c27 : p1 = 8
    · have hf := it_e c27 hf
      refine lv_tableIn (tgt := 120) hx hb dX11_of_12 (by rw [c27]; decide) (by rw [c27]; decide) (by rw [c27]; rfl) (by decide) ?_
      refine lv_aload_n hx hb dX11_of_120 rfl (lv_at hl 0 rfl) ?_
      refine r_get (own := RX11) (T := TX11) (n := 32) (ci := 11) (v := .ref (ad 97)) hx hb hts nX11 hown hK hP (by omega) h86 rfl 13 (by decide) k9 rfl dX11_of_121 ?_
      refine lv_iload_n hx hb dX11_of_124 rfl (lv_at hl 1 rfl) ?_
      obtain ⟨i29, x28, ex28, hf⟩ := ri_e hf
      refine r_iald hx hb hK hP (by omega) h97 i29 dX11_of_125 ex28 ?_
      obtain rfl := Option.some.inj hf
      rw [← hQ]
      exact e_iR hx hb hr rfl (tP_i _) hS hlocks dX11_of_126
    have hf := ie_e c27 hf
    have hsw : Int32.toInt p1 < 0 ∨ 8 < Int32.toInt p1 := by
      have qc3 := ne_toInt c3
      rw [show Int32.toInt 0 = 0 from rfl] at qc3
      have qc6 := ne_toInt c6
      rw [show Int32.toInt 1 = 1 from rfl] at qc6
      have qc9 := ne_toInt c9
      rw [show Int32.toInt 2 = 2 from rfl] at qc9
      have qc12 := ne_toInt c12
      rw [show Int32.toInt 3 = 3 from rfl] at qc12
      have qc15 := ne_toInt c15
      rw [show Int32.toInt 4 = 4 from rfl] at qc15
      have qc18 := ne_toInt c18
      rw [show Int32.toInt 5 = 5 from rfl] at qc18
      have qc21 := ne_toInt c21
      rw [show Int32.toInt 6 = 6 from rfl] at qc21
      have qc24 := ne_toInt c24
      rw [show Int32.toInt 7 = 7 from rfl] at qc24
      have qc27 := ne_toInt c27
      rw [show Int32.toInt 8 = 8 from rfl] at qc27
      omega
    refine lv_tableOut (tgt := 127) hx hb dX11_of_12 hsw (by decide) ?_
    refine lv_bipush (v := (-3)) hx hb dX11_of_127 (by decide) ?_
    obtain rfl := Option.some.inj hf
    rw [← hQ]
    exact e_iR hx hb hr rfl (tP_i _) hS hlocks dX11_of_129
  · have hf := it_e c2 hf
    refine lv_bipush (v := (-2)) hx hb dX11_of_8 (by decide) ?_
    obtain rfl := Option.some.inj hf
    rw [← hQ]
    exact e_iR hx hb hr rfl (tP_i _) hS hlocks dX11_of_10

def f_X11_isCup (p0 : Int32) : Option (Int32) :=
  (f_X11_in (Int32.toInt64 p0) (0 : Int64) (3 : Int64)).bind fun q1 =>
  some (q1)
abbrev rmX11_isCup : Room := { frames := 1, cells := 0, slots := 0, locals := 25 }
set_option maxHeartbeats 4000000 in
set_option maxRecDepth 100000 in
theorem c_X11_isCup {l : Launch} {sz : Nat}  {p0 : Int32} {rr : Int32} (hf : f_X11_isCup p0 = some rr) : Met l yX11_isCup wsX11_isCup rmX11_isCup (PcS sz [.int p0]) (QiR sz bz rr) 0 0 (An sz) := by
  refine Met.ofW (cc := cX11_isCup) (maxL := 1) (ret := (some .boolean)) (by decide) rfl ?_
  intro p e s m args below meth c s₁ B hml hv
  obtain ⟨hav, hsz⟩ := hv
  subst hsz
  have hx := B.exec
  have hb := B.bytes
  have hr := B.returns
  have hts := atoms_spec (ws := wsX11_isCup) B.pre
  have hown : s.vm.findClass RX11 = some m.cls := findClass_of_methodNamed B.named
  have hlocks := B.notSynchronized
  generalize hQ : MQ below (QiR s.heap.size bz rr) args s 0 0 (An s.heap.size) = QQ
  have hS : va_S (An s.heap.size) s.heap s.heap [] := va_S.rf
  have hA : ∀ q, s.heap.size ≤ q → (An s.heap.size) q := fun q h => h
  have k0 := hts (.constantLong RX11 160 (3)) (List.mem_of_getElem? (i := 1) rfl)
  have hE := lg_entry_eq m [.int p0] 1
  rw [← hav] at hE
  rw [hE]
  have hl := lv_entry [.int p0] (n := 1) (Nat.le_of_ble_eq_true rfl)
  generalize (lg_sl [.int p0] ++ List.replicate (1 - (lg_sl [.int p0]).length) Slot.unset).toArray = ls at hl ⊢
  have hl : lv_has ls 1 [(0, .int p0)] := hl
  clear hE
  unfold f_X11_isCup at hf
  suffices hgo : ∀ (H : Heap) (locs : List Loc), va_S (An s.heap.size) s.heap H locs → W p l e (headSpec wsX11_isCup rmX11_isCup).room s m args below meth c H locs 0 0 QQ (F0 m 0 ls []) from hgo s.heap [] hS
  clear hS
  intro H locs hS
  refine lv_iload_n hx hb dX11_isCup_0 rfl (lv_at hl 0 rfl) ?_
  refine lv_i2l hx hb dX11_isCup_1 rfl ?_
  refine lv_lconst (v := 0) hx hb dX11_isCup_2 (by decide) ?_
  refine lv_ldc2 (own := RX11) hx hb hown k0 dX11_isCup_3 ?_
  obtain ⟨q1, hq1, hf⟩ := bd_e hf
  refine k_i0 (va_runS (As := [.long (Int32.toInt64 p0), .long (0 : Int64), .long (3 : Int64)]) (rest := []) ⟨hx, hb, hml, hown, hts⟩ (c_X11_in (l := l) (sz := H.size) (p0 := (Int32.toInt64 p0)) (p1 := (0 : Int64)) (p2 := (3 : Int64)) hq1) (va_cwS 3 hts gX11_isCup_X11_in rfl rfl rfl (by decide +kernel) ⟨Nat.le_of_ble_eq_true rfl, Nat.le_of_ble_eq_true rfl⟩) preS0 rfl rfl hl.1 rfl (lv_room (Nat.le_of_ble_eq_true rfl)) dX11_isCup_6 ⟨Nat.le_of_ble_eq_true rfl, Nat.le_of_ble_eq_true rfl⟩) hA hS (fun H locs hS hbz_q1 => ?_)
  obtain rfl := Option.some.inj hf
  rw [← hQ]
  exact e_zR hx hb hr rfl hbz_q1 hS hlocks dX11_isCup_9

def f_X11_cup (p0 : Int32) (p1 : Int32) (m_tell : Nat → Int32) (m_fy : Nat → Int32) (m_fn : Nat → Int32) : Option (Int32) :=
  (f_X11_isCup p0).bind fun q1 =>
  if q1 = 0 then
    some ((-2))
  else
    if p1 = 0 then
      ri m_tell 4 (p0) fun x10 =>
      some (x10)
    else
      if p1 = 1 then
        ri m_fy 4 (p0) fun x8 =>
        some (x8)
      else
        if p1 = 2 then
          ri m_fn 4 (p0) fun x6 =>
          some (x6)
        else
          some ((-3))
abbrev rmX11_cup : Room := { frames := 2, cells := 0, slots := 0, locals := 45 }
set_option maxHeartbeats 4000000 in
set_option maxRecDepth 100000 in
theorem c_X11_cup {l : Launch} {D : va_G} {g : Nat → ClassId} {N : Nat} {ad : Nat → Nat} {C : Nat → va_E} {sz : Nat} {m_len : Int32} {m_rm : Int32} {m_there : Int32} {m_lift : Int32} {m_blank : Int32} {m_fm : Int32} {m_at : Int32} {m_pl : Int32} {m_end : Int32} {m_seed : Int32} {m_tell : Nat → Int32} {m_fy : Nat → Int32} {m_fn : Nat → Int32} {p0 : Int32} {p1 : Int32} {rr : Int32} (hN : 109 ≤ N) (h86 : C 86 = .inr (11, [.ref (ad 87), .int m_len, .ref (ad 88), .int m_rm, .int m_there, .ref (ad 89), .ref (ad 90), .ref (ad 91), .ref (ad 92), .ref (ad 93), .ref (ad 94), .ref (ad 95), .ref (ad 96), .ref (ad 97), .ref (ad 98), .ref (ad 99), .ref (ad 100), .ref (ad 101), .int m_lift, .int m_blank, .ref (ad 102), .int m_fm, .int m_at, .int m_pl, .int m_end, .ref (ad 103), .ref (ad 104), .ref (ad 105), .ref (ad 106), .ref (ad 107), .ref (ad 108), .int m_seed])) (h99 : C 99 = aI g 4 m_tell) (h100 : C 100 = aI g 4 m_fy) (h101 : C 101 = aI g 4 m_fn) (hf : f_X11_cup p0 p1 m_tell m_fy m_fn = some rr) : Met l yX11_cup wsX11_cup rmX11_cup (PcW D g N ad C sz [.ref (ad 86), .int p0, .int p1]) (QiR sz tP rr) 0 0 (An sz) := by
  refine Met.ofW (cc := cX11_cup) (maxL := 3) (ret := (some .int)) (by decide) rfl ?_
  intro p e s m args below meth c s₁ B hml hv
  obtain ⟨hav, hsz, hK, hP⟩ := hv
  subst hsz
  have hx := B.exec
  have hb := B.bytes
  have hr := B.returns
  have hts := atoms_spec (ws := wsX11_cup) B.pre
  have hown : s.vm.findClass RX11 = some m.cls := findClass_of_methodNamed B.named
  have hlocks := B.notSynchronized
  generalize hQ : MQ below (QiR s.heap.size tP rr) args s 0 0 (An s.heap.size) = QQ
  have hS : va_S (An s.heap.size) s.heap s.heap [] := va_S.rf
  have hA : ∀ q, s.heap.size ≤ q → (An s.heap.size) q := fun q h => h
  have k0 := hts (.fieldLink RX11 56 "UpDrainModel" "falseNo" "[I") (List.mem_of_getElem? (i := 3) rfl)
  have nX11 : ∀ w ∈ u_ws RX11 TX11 32, w ∈ wsX11_cup := fun _ h => List.mem_cons_of_mem _ (List.mem_append_right _ h)
  have k2 := hts (.fieldLink RX11 53 "UpDrainModel" "falseYes" "[I") (List.mem_of_getElem? (i := 2) rfl)
  have k3 := hts (.fieldLink RX11 50 "UpDrainModel" "tells" "[I") (List.mem_of_getElem? (i := 1) rfl)
  have hE := lg_entry_eq m [.ref (ad 86), .int p0, .int p1] 3
  rw [← hav] at hE
  rw [hE]
  have hl := lv_entry [.ref (ad 86), .int p0, .int p1] (n := 3) (Nat.le_of_ble_eq_true rfl)
  generalize (lg_sl [.ref (ad 86), .int p0, .int p1] ++ List.replicate (3 - (lg_sl [.ref (ad 86), .int p0, .int p1]).length) Slot.unset).toArray = ls at hl ⊢
  have hl : lv_has ls 3 [(0, .ref (ad 86)), (1, .int p0), (2, .int p1)] := hl
  clear hE
  unfold f_X11_cup at hf
  suffices hgo : ∀ (H : Heap) (locs : List Loc), va_P D vwCl (wd N ad C) H → va_S (An s.heap.size) s.heap H locs → W p l e (headSpec wsX11_cup rmX11_cup).room s m args below meth c H locs 0 0 QQ (F0 m 0 ls []) from hgo s.heap [] hP hS
  clear hS hP
  intro H locs hP hS
  refine lv_iload_n hx hb dX11_cup_0 rfl (lv_at hl 1 rfl) ?_
  obtain ⟨q1, hq1, hf⟩ := bd_e hf
  refine k_iR (va_runS (As := [.int p0]) (rest := []) ⟨hx, hb, hml, hown, hts⟩ (c_X11_isCup (l := l) (sz := H.size) (p0 := p0) hq1) (va_cwS 1 hts gX11_cup_X11_isCup rfl rfl rfl (by decide +kernel) ⟨Nat.le_of_ble_eq_true rfl, Nat.le_of_ble_eq_true rfl⟩) preS0 rfl rfl hl.1 rfl (lv_room (Nat.le_of_ble_eq_true rfl)) dX11_cup_1 ⟨Nat.le_of_ble_eq_true rfl, Nat.le_of_ble_eq_true rfl⟩) hA hP hS (fun H locs hP hS hbz_q1 => ?_)
  refine lv_if_ne (tgt := 10) hx hb dX11_cup_4 (by decide) (fun c2 => ?_) (fun c2 => ?_)
  · have hf := ie_e c2 hf
    refine lv_iload_n hx hb dX11_cup_10 rfl (lv_at hl 2 rfl) ?_
    refine lv_if_ne (tgt := 23) hx hb dX11_cup_11 (by decide) (fun c3 => ?_) (fun c3 => ?_)
    · have hf := ie_e c3 hf
      refine lv_iload_n hx hb dX11_cup_23 rfl (lv_at hl 2 rfl) ?_
      refine lv_iconst (v := 1) hx hb dX11_cup_24 (by decide) ?_
      refine lv_icmp_ne (tgt := 37) hx hb dX11_cup_25 (by decide) (fun c4 => ?_) (fun c4 => ?_)
      · have hf := ie_e c4 hf
        refine lv_iload_n hx hb dX11_cup_37 rfl (lv_at hl 2 rfl) ?_
        refine lv_iconst (v := 2) hx hb dX11_cup_38 (by decide) ?_
        refine lv_icmp_ne (tgt := 51) hx hb dX11_cup_39 (by decide) (fun c5 => ?_) (fun c5 => ?_)
        · have hf := ie_e c5 hf
          refine lv_bipush (v := (-3)) hx hb dX11_cup_51 (by decide) ?_
          obtain rfl := Option.some.inj hf
          rw [← hQ]
          exact e_iR hx hb hr rfl (tP_i _) hS hlocks dX11_cup_53
        · have hf := it_e c5 hf
          refine lv_aload_n hx hb dX11_cup_42 rfl (lv_at hl 0 rfl) ?_
          refine r_get (own := RX11) (T := TX11) (n := 32) (ci := 11) (v := .ref (ad 101)) hx hb hts nX11 hown hK hP (by omega) h86 rfl 17 (by decide) k0 rfl dX11_cup_43 ?_
          refine lv_iload_n hx hb dX11_cup_46 rfl (lv_at hl 1 rfl) ?_
          obtain ⟨i7, x6, ex6, hf⟩ := ri_e hf
          refine r_iald hx hb hK hP (by omega) h101 i7 dX11_cup_47 ex6 ?_
          refine lv_goto (tgt := 53) hx hb dX11_cup_48 (by decide) ?_
          obtain rfl := Option.some.inj hf
          rw [← hQ]
          exact e_iR hx hb hr rfl (tP_i _) hS hlocks dX11_cup_53
      · have hf := it_e c4 hf
        refine lv_aload_n hx hb dX11_cup_28 rfl (lv_at hl 0 rfl) ?_
        refine r_get (own := RX11) (T := TX11) (n := 32) (ci := 11) (v := .ref (ad 100)) hx hb hts nX11 hown hK hP (by omega) h86 rfl 16 (by decide) k2 rfl dX11_cup_29 ?_
        refine lv_iload_n hx hb dX11_cup_32 rfl (lv_at hl 1 rfl) ?_
        obtain ⟨i9, x8, ex8, hf⟩ := ri_e hf
        refine r_iald hx hb hK hP (by omega) h100 i9 dX11_cup_33 ex8 ?_
        refine lv_goto (tgt := 53) hx hb dX11_cup_34 (by decide) ?_
        obtain rfl := Option.some.inj hf
        rw [← hQ]
        exact e_iR hx hb hr rfl (tP_i _) hS hlocks dX11_cup_53
    · have hf := it_e c3 hf
      refine lv_aload_n hx hb dX11_cup_14 rfl (lv_at hl 0 rfl) ?_
      refine r_get (own := RX11) (T := TX11) (n := 32) (ci := 11) (v := .ref (ad 99)) hx hb hts nX11 hown hK hP (by omega) h86 rfl 15 (by decide) k3 rfl dX11_cup_15 ?_
      refine lv_iload_n hx hb dX11_cup_18 rfl (lv_at hl 1 rfl) ?_
      obtain ⟨i11, x10, ex10, hf⟩ := ri_e hf
      refine r_iald hx hb hK hP (by omega) h99 i11 dX11_cup_19 ex10 ?_
      refine lv_goto (tgt := 53) hx hb dX11_cup_20 (by decide) ?_
      obtain rfl := Option.some.inj hf
      rw [← hQ]
      exact e_iR hx hb hr rfl (tP_i _) hS hlocks dX11_cup_53
  · have hf := it_e c2 hf
    refine lv_bipush (v := (-2)) hx hb dX11_cup_7 (by decide) ?_
    obtain rfl := Option.some.inj hf
    rw [← hQ]
    exact e_iR hx hb hr rfl (tP_i _) hS hlocks dX11_cup_9

def LX11_wayOf_6 (m_down : Nat → Int32) (ko : Int32 → Int32 → Option (Int32)) : Nat → Int32 → Int32 → Option (Int32)
  | 0, _, _ => none
  | n + 1, x2, x3 =>
    if x3 ≤ 0 then
      ko x2 x3
    else
      ri m_down 12 (x3) fun x7 =>
      lt ((x2 ||| (1 <<< (x7 &&& 31))) : Int32) fun x9 =>
      LX11_wayOf_6 m_down ko n x9 x7
theorem LX11_wayOf_6_z (m_down : Nat → Int32) (ko : Int32 → Int32 → Option (Int32)) (x2 : Int32) (x3 : Int32) : LX11_wayOf_6 m_down ko 0 x2 x3 = none := rfl
theorem LX11_wayOf_6_s (m_down : Nat → Int32) (ko : Int32 → Int32 → Option (Int32)) (n : Nat) (x2 : Int32) (x3 : Int32) : LX11_wayOf_6 m_down ko (n + 1) x2 x3 =
    if x3 ≤ 0 then
      ko x2 x3
    else
      ri m_down 12 (x3) fun x7 =>
      lt ((x2 ||| (1 <<< (x7 &&& 31))) : Int32) fun x9 =>
      LX11_wayOf_6 m_down ko n x9 x7 := rfl
def f_X11_wayOf (p0 : Int32) (m_down : Nat → Int32) : Option (Int32) :=
  lt ((1 <<< (p0 &&& 31)) : Int32) fun x1 =>
  LX11_wayOf_6 m_down (fun x4 x5 =>
    some (x4)) FU x1 p0
abbrev rmX11_wayOf : Room := { frames := 0, cells := 0, slots := 0, locals := 0 }
set_option maxHeartbeats 4000000 in
set_option maxRecDepth 100000 in
theorem c_X11_wayOf {l : Launch} {D : va_G} {g : Nat → ClassId} {N : Nat} {ad : Nat → Nat} {C : Nat → va_E} {sz : Nat} {m_len : Int32} {m_rm : Int32} {m_there : Int32} {m_lift : Int32} {m_blank : Int32} {m_fm : Int32} {m_at : Int32} {m_pl : Int32} {m_end : Int32} {m_seed : Int32} {m_down : Nat → Int32} {p0 : Int32} {rr : Int32} (hN : 109 ≤ N) (h86 : C 86 = .inr (11, [.ref (ad 87), .int m_len, .ref (ad 88), .int m_rm, .int m_there, .ref (ad 89), .ref (ad 90), .ref (ad 91), .ref (ad 92), .ref (ad 93), .ref (ad 94), .ref (ad 95), .ref (ad 96), .ref (ad 97), .ref (ad 98), .ref (ad 99), .ref (ad 100), .ref (ad 101), .int m_lift, .int m_blank, .ref (ad 102), .int m_fm, .int m_at, .int m_pl, .int m_end, .ref (ad 103), .ref (ad 104), .ref (ad 105), .ref (ad 106), .ref (ad 107), .ref (ad 108), .int m_seed])) (h89 : C 89 = aI g 12 m_down) (hf : f_X11_wayOf p0 m_down = some rr) : Met l yX11_wayOf wsX11_wayOf rmX11_wayOf (PcW D g N ad C sz [.ref (ad 86), .int p0]) (QiR sz tP rr) 0 0 (An sz) := by
  refine Met.ofW (cc := cX11_wayOf) (maxL := 4) (ret := (some .int)) (by decide) rfl ?_
  intro p e s m args below meth c s₁ B hml hv
  obtain ⟨hav, hsz, hK, hP⟩ := hv
  subst hsz
  have hx := B.exec
  have hb := B.bytes
  have hr := B.returns
  have hts := atoms_spec (ws := wsX11_wayOf) B.pre
  have hown : s.vm.findClass RX11 = some m.cls := findClass_of_methodNamed B.named
  have hlocks := B.notSynchronized
  generalize hQ : MQ below (QiR s.heap.size tP rr) args s 0 0 (An s.heap.size) = QQ
  have hS : va_S (An s.heap.size) s.heap s.heap [] := va_S.rf
  have hA : ∀ q, s.heap.size ≤ q → (An s.heap.size) q := fun q h => h
  have k0 := hts (.fieldLink RX11 20 "UpDrainModel" "down" "[I") (List.mem_of_getElem? (i := 1) rfl)
  have nX11 : ∀ w ∈ u_ws RX11 TX11 32, w ∈ wsX11_wayOf := fun _ h => List.mem_cons_of_mem _ (List.mem_append_right _ h)
  have hE := lg_entry_eq m [.ref (ad 86), .int p0] 4
  rw [← hav] at hE
  rw [hE]
  have hl := lv_entry [.ref (ad 86), .int p0] (n := 4) (Nat.le_of_ble_eq_true rfl)
  generalize (lg_sl [.ref (ad 86), .int p0] ++ List.replicate (4 - (lg_sl [.ref (ad 86), .int p0]).length) Slot.unset).toArray = ls at hl ⊢
  have hl : lv_has ls 4 [(0, .ref (ad 86)), (1, .int p0)] := hl
  clear hE
  unfold f_X11_wayOf at hf
  suffices hgo : ∀ (H : Heap) (locs : List Loc), va_P D vwCl (wd N ad C) H → va_S (An s.heap.size) s.heap H locs → W p l e (headSpec wsX11_wayOf rmX11_wayOf).room s m args below meth c H locs 0 0 QQ (F0 m 0 ls []) from hgo s.heap [] hP hS
  clear hS hP
  intro H locs hP hS
  refine lv_iconst (v := 1) hx hb dX11_wayOf_0 (by decide) ?_
  refine lv_iload_n hx hb dX11_wayOf_1 rfl (lv_at hl 1 rfl) ?_
  refine lv_ishl hx hb dX11_wayOf_2 ?_
  obtain ⟨x1, ex1, hf⟩ := lt_e hf
  refine tp_i ex1 ?_
  refine lv_istore_n (lv' := [(2, .int x1), (0, .ref (ad 86)), (1, .int p0)]) hx hb dX11_wayOf_3 rfl hl (by decide) rfl (fun ls hl => ?_)
  refine lv_iload_n hx hb dX11_wayOf_4 rfl (lv_at hl 2 rfl) ?_
  refine lv_istore_n (lv' := [(3, .int p0), (2, .int x1), (0, .ref (ad 86)), (1, .int p0)]) hx hb dX11_wayOf_5 rfl hl (by decide) rfl (fun ls hl => ?_)
  have key6 : ∀ (ko : Int32 → Int32 → Option (Int32)), (∀ (x4 : Int32) (x5 : Int32) (C : Nat → va_E) (H : Heap) (locs : List Loc) (ls : Array Slot), va_P D vwCl (wd N ad C) H → va_S (An s.heap.size) s.heap H locs → C 86 = .inr (11, [.ref (ad 87), .int m_len, .ref (ad 88), .int m_rm, .int m_there, .ref (ad 89), .ref (ad 90), .ref (ad 91), .ref (ad 92), .ref (ad 93), .ref (ad 94), .ref (ad 95), .ref (ad 96), .ref (ad 97), .ref (ad 98), .ref (ad 99), .ref (ad 100), .ref (ad 101), .int m_lift, .int m_blank, .ref (ad 102), .int m_fm, .int m_at, .int m_pl, .int m_end, .ref (ad 103), .ref (ad 104), .ref (ad 105), .ref (ad 106), .ref (ad 107), .ref (ad 108), .int m_seed]) → C 89 = aI g 12 m_down → lv_has ls 4 [(0, .ref (ad 86)), (1, .int p0), (2, .int x4), (3, .int x5)] → ko x4 x5 = some rr → W p l e (headSpec wsX11_wayOf rmX11_wayOf).room s m args below meth c H locs 0 0 QQ (F0 m 26 ls [])) → ∀ (n : Nat) (x2 : Int32) (x3 : Int32) (C : Nat → va_E) (H : Heap) (locs : List Loc) (ls : Array Slot), va_P D vwCl (wd N ad C) H → va_S (An s.heap.size) s.heap H locs → C 86 = .inr (11, [.ref (ad 87), .int m_len, .ref (ad 88), .int m_rm, .int m_there, .ref (ad 89), .ref (ad 90), .ref (ad 91), .ref (ad 92), .ref (ad 93), .ref (ad 94), .ref (ad 95), .ref (ad 96), .ref (ad 97), .ref (ad 98), .ref (ad 99), .ref (ad 100), .ref (ad 101), .int m_lift, .int m_blank, .ref (ad 102), .int m_fm, .int m_at, .int m_pl, .int m_end, .ref (ad 103), .ref (ad 104), .ref (ad 105), .ref (ad 106), .ref (ad 107), .ref (ad 108), .int m_seed]) → C 89 = aI g 12 m_down → lv_has ls 4 [(0, .ref (ad 86)), (1, .int p0), (2, .int x2), (3, .int x3)] → LX11_wayOf_6 m_down ko n x2 x3 = some rr → W p l e (headSpec wsX11_wayOf rmX11_wayOf).room s m args below meth c H locs 0 0 QQ (F0 m 6 ls []) := by
    intro ko hko n
    induction n with
    | zero =>
      intro x2 x3 C H locs ls hP hS h86 h89 hl hf
      rw [LX11_wayOf_6_z] at hf
      cases hf
    | succ n ih =>
      intro x2 x3 C H locs ls hP hS h86 h89 hl hf
      rw [LX11_wayOf_6_s] at hf
      refine lv_iload_n hx hb dX11_wayOf_6 rfl (lv_at hl 3 rfl) ?_
      refine lv_if_le (tgt := 26) hx hb dX11_wayOf_7 (by decide) (fun c6 => ?_) (fun c6 => ?_)
      · have hf := it_e c6 hf
        exact hko x2 x3 C H locs ls hP hS h86 h89 (lv_sub hl [0, 1, 2, 3] rfl) hf
      · have hf := ie_e c6 hf
        refine lv_aload_n hx hb dX11_wayOf_10 rfl (lv_at hl 0 rfl) ?_
        refine r_get (own := RX11) (T := TX11) (n := 32) (ci := 11) (v := .ref (ad 89)) hx hb hts nX11 hown hK hP (by omega) h86 rfl 5 (by decide) k0 rfl dX11_wayOf_11 ?_
        refine lv_iload_n hx hb dX11_wayOf_14 rfl (lv_at hl 3 rfl) ?_
        obtain ⟨i8, x7, ex7, hf⟩ := ri_e hf
        refine r_iald hx hb hK hP (by omega) h89 i8 dX11_wayOf_15 ex7 ?_
        refine lv_istore_n (lv' := [(3, .int x7), (0, .ref (ad 86)), (1, .int p0), (2, .int x2)]) hx hb dX11_wayOf_16 rfl hl (by decide) rfl (fun ls hl => ?_)
        refine lv_iload_n hx hb dX11_wayOf_17 rfl (lv_at hl 3 rfl) ?_
        refine lv_iconst (v := 1) hx hb dX11_wayOf_18 (by decide) ?_
        refine lv_iload_n hx hb dX11_wayOf_19 rfl (lv_at hl 0 rfl) ?_
        refine lv_ishl hx hb dX11_wayOf_20 ?_
        refine lv_ior hx hb dX11_wayOf_21 ?_
        obtain ⟨x9, ex9, hf⟩ := lt_e hf
        refine tp_i ex9 ?_
        refine lv_istore_n (lv' := [(2, .int x9), (3, .int x7), (0, .ref (ad 86)), (1, .int p0)]) hx hb dX11_wayOf_22 rfl hl (by decide) rfl (fun ls hl => ?_)
        refine lv_goto (tgt := 6) hx hb dX11_wayOf_23 (by decide) ?_
        exact ih x9 x7 C H locs ls hP hS h86 h89 (lv_sub hl [2, 3, 0, 1] rfl) hf
  refine key6 _ (fun x4 x5 C H locs ls hP hS h86 h89 hl hf => ?_) FU x1 p0 C H locs ls hP hS h86 h89 (lv_sub hl [2, 3, 1, 0] rfl) hf
  refine lv_iload_n hx hb dX11_wayOf_26 rfl (lv_at hl 2 rfl) ?_
  obtain rfl := Option.some.inj hf
  rw [← hQ]
  exact e_iR hx hb hr rfl (tP_i _) hS hlocks dX11_wayOf_27

def LX11_aboveOf_4 (p0 : Int32) (m_down : Nat → Int32) (m_there : Int32) (ko : Int32 → Int32 → Option (Int32)) : Nat → Int32 → Int32 → Option (Int32)
  | 0, _, _ => none
  | n + 1, x1, x2 =>
    if 12 ≤ x2 then
      ko x1 x2
    else
      (f_X11_has m_there x2).bind fun q6 =>
      (if q6 = 0 then
        some (0)
      else
        (f_X11_wayOf x2 m_down).bind fun q11 =>
        (f_X11_has q11 p0).bind fun q12 =>
        if q12 = 0 then
          some (0)
        else
          some ((1 <<< (x2 &&& 31))) : Option (Int32)).bind fun q7 =>
      lt ((x1 ||| q7) : Int32) fun x8 =>
      lt (x2 + 1 : Int32) fun x9 =>
      LX11_aboveOf_4 p0 m_down m_there ko n x8 x9
theorem LX11_aboveOf_4_z (p0 : Int32) (m_down : Nat → Int32) (m_there : Int32) (ko : Int32 → Int32 → Option (Int32)) (x1 : Int32) (x2 : Int32) : LX11_aboveOf_4 p0 m_down m_there ko 0 x1 x2 = none := rfl
theorem LX11_aboveOf_4_s (p0 : Int32) (m_down : Nat → Int32) (m_there : Int32) (ko : Int32 → Int32 → Option (Int32)) (n : Nat) (x1 : Int32) (x2 : Int32) : LX11_aboveOf_4 p0 m_down m_there ko (n + 1) x1 x2 =
    if 12 ≤ x2 then
      ko x1 x2
    else
      (f_X11_has m_there x2).bind fun q6 =>
      (if q6 = 0 then
        some (0)
      else
        (f_X11_wayOf x2 m_down).bind fun q11 =>
        (f_X11_has q11 p0).bind fun q12 =>
        if q12 = 0 then
          some (0)
        else
          some ((1 <<< (x2 &&& 31))) : Option (Int32)).bind fun q7 =>
      lt ((x1 ||| q7) : Int32) fun x8 =>
      lt (x2 + 1 : Int32) fun x9 =>
      LX11_aboveOf_4 p0 m_down m_there ko n x8 x9 := rfl
def f_X11_aboveOf (p0 : Int32) (m_down : Nat → Int32) (m_there : Int32) : Option (Int32) :=
  LX11_aboveOf_4 p0 m_down m_there (fun x3 x4 =>
    some (x3)) FU 0 0
abbrev rmX11_aboveOf : Room := { frames := 1, cells := 0, slots := 0, locals := 23 }
set_option maxHeartbeats 4000000 in
set_option maxRecDepth 100000 in
theorem c_X11_aboveOf {l : Launch} {D : va_G} {g : Nat → ClassId} {N : Nat} {ad : Nat → Nat} {C : Nat → va_E} {sz : Nat} {m_len : Int32} {m_rm : Int32} {m_there : Int32} {m_lift : Int32} {m_blank : Int32} {m_fm : Int32} {m_at : Int32} {m_pl : Int32} {m_end : Int32} {m_seed : Int32} {m_down : Nat → Int32} {p0 : Int32} {rr : Int32} (hN : 109 ≤ N) (h86 : C 86 = .inr (11, [.ref (ad 87), .int m_len, .ref (ad 88), .int m_rm, .int m_there, .ref (ad 89), .ref (ad 90), .ref (ad 91), .ref (ad 92), .ref (ad 93), .ref (ad 94), .ref (ad 95), .ref (ad 96), .ref (ad 97), .ref (ad 98), .ref (ad 99), .ref (ad 100), .ref (ad 101), .int m_lift, .int m_blank, .ref (ad 102), .int m_fm, .int m_at, .int m_pl, .int m_end, .ref (ad 103), .ref (ad 104), .ref (ad 105), .ref (ad 106), .ref (ad 107), .ref (ad 108), .int m_seed])) (h89 : C 89 = aI g 12 m_down) (hf : f_X11_aboveOf p0 m_down m_there = some rr) : Met l yX11_aboveOf wsX11_aboveOf rmX11_aboveOf (PcW D g N ad C sz [.ref (ad 86), .int p0]) (QiR sz tP rr) 0 0 (An sz) := by
  refine Met.ofW (cc := cX11_aboveOf) (maxL := 4) (ret := (some .int)) (by decide) rfl ?_
  intro p e s m args below meth c s₁ B hml hv
  obtain ⟨hav, hsz, hK, hP⟩ := hv
  subst hsz
  have hx := B.exec
  have hb := B.bytes
  have hr := B.returns
  have hts := atoms_spec (ws := wsX11_aboveOf) B.pre
  have hown : s.vm.findClass RX11 = some m.cls := findClass_of_methodNamed B.named
  have hlocks := B.notSynchronized
  generalize hQ : MQ below (QiR s.heap.size tP rr) args s 0 0 (An s.heap.size) = QQ
  have hS : va_S (An s.heap.size) s.heap s.heap [] := va_S.rf
  have hA : ∀ q, s.heap.size ≤ q → (An s.heap.size) q := fun q h => h
  have k0 := hts (.fieldLink RX11 16 "UpDrainModel" "there" "I") (List.mem_of_getElem? (i := 1) rfl)
  have nX11 : ∀ w ∈ u_ws RX11 TX11 32, w ∈ wsX11_aboveOf := fun _ h => List.mem_cons_of_mem _ (List.mem_append_right _ h)
  have hE := lg_entry_eq m [.ref (ad 86), .int p0] 4
  rw [← hav] at hE
  rw [hE]
  have hl := lv_entry [.ref (ad 86), .int p0] (n := 4) (Nat.le_of_ble_eq_true rfl)
  generalize (lg_sl [.ref (ad 86), .int p0] ++ List.replicate (4 - (lg_sl [.ref (ad 86), .int p0]).length) Slot.unset).toArray = ls at hl ⊢
  have hl : lv_has ls 4 [(0, .ref (ad 86)), (1, .int p0)] := hl
  clear hE
  unfold f_X11_aboveOf at hf
  suffices hgo : ∀ (H : Heap) (locs : List Loc), va_P D vwCl (wd N ad C) H → va_S (An s.heap.size) s.heap H locs → W p l e (headSpec wsX11_aboveOf rmX11_aboveOf).room s m args below meth c H locs 0 0 QQ (F0 m 0 ls []) from hgo s.heap [] hP hS
  clear hS hP
  intro H locs hP hS
  refine lv_iconst (v := 0) hx hb dX11_aboveOf_0 (by decide) ?_
  refine lv_istore_n (lv' := [(2, .int 0), (0, .ref (ad 86)), (1, .int p0)]) hx hb dX11_aboveOf_1 rfl hl (by decide) rfl (fun ls hl => ?_)
  refine lv_iconst (v := 0) hx hb dX11_aboveOf_2 (by decide) ?_
  refine lv_istore_n (lv' := [(3, .int 0), (2, .int 0), (0, .ref (ad 86)), (1, .int p0)]) hx hb dX11_aboveOf_3 rfl hl (by decide) rfl (fun ls hl => ?_)
  have key4 : ∀ (ko : Int32 → Int32 → Option (Int32)), (∀ (x3 : Int32) (x4 : Int32) (C : Nat → va_E) (H : Heap) (locs : List Loc) (ls : Array Slot), va_P D vwCl (wd N ad C) H → va_S (An s.heap.size) s.heap H locs → C 86 = .inr (11, [.ref (ad 87), .int m_len, .ref (ad 88), .int m_rm, .int m_there, .ref (ad 89), .ref (ad 90), .ref (ad 91), .ref (ad 92), .ref (ad 93), .ref (ad 94), .ref (ad 95), .ref (ad 96), .ref (ad 97), .ref (ad 98), .ref (ad 99), .ref (ad 100), .ref (ad 101), .int m_lift, .int m_blank, .ref (ad 102), .int m_fm, .int m_at, .int m_pl, .int m_end, .ref (ad 103), .ref (ad 104), .ref (ad 105), .ref (ad 106), .ref (ad 107), .ref (ad 108), .int m_seed]) → C 89 = aI g 12 m_down → lv_has ls 4 [(0, .ref (ad 86)), (1, .int p0), (2, .int x3), (3, .int x4)] → ko x3 x4 = some rr → W p l e (headSpec wsX11_aboveOf rmX11_aboveOf).room s m args below meth c H locs 0 0 QQ (F0 m 49 ls [])) → ∀ (n : Nat) (x1 : Int32) (x2 : Int32) (C : Nat → va_E) (H : Heap) (locs : List Loc) (ls : Array Slot), va_P D vwCl (wd N ad C) H → va_S (An s.heap.size) s.heap H locs → C 86 = .inr (11, [.ref (ad 87), .int m_len, .ref (ad 88), .int m_rm, .int m_there, .ref (ad 89), .ref (ad 90), .ref (ad 91), .ref (ad 92), .ref (ad 93), .ref (ad 94), .ref (ad 95), .ref (ad 96), .ref (ad 97), .ref (ad 98), .ref (ad 99), .ref (ad 100), .ref (ad 101), .int m_lift, .int m_blank, .ref (ad 102), .int m_fm, .int m_at, .int m_pl, .int m_end, .ref (ad 103), .ref (ad 104), .ref (ad 105), .ref (ad 106), .ref (ad 107), .ref (ad 108), .int m_seed]) → C 89 = aI g 12 m_down → lv_has ls 4 [(0, .ref (ad 86)), (1, .int p0), (2, .int x1), (3, .int x2)] → LX11_aboveOf_4 p0 m_down m_there ko n x1 x2 = some rr → W p l e (headSpec wsX11_aboveOf rmX11_aboveOf).room s m args below meth c H locs 0 0 QQ (F0 m 4 ls []) := by
    intro ko hko n
    induction n with
    | zero =>
      intro x1 x2 C H locs ls hP hS h86 h89 hl hf
      rw [LX11_aboveOf_4_z] at hf
      cases hf
    | succ n ih =>
      intro x1 x2 C H locs ls hP hS h86 h89 hl hf
      rw [LX11_aboveOf_4_s] at hf
      refine lv_iload_n hx hb dX11_aboveOf_4 rfl (lv_at hl 3 rfl) ?_
      refine lv_bipush (v := 12) hx hb dX11_aboveOf_5 (by decide) ?_
      refine lv_icmp_ge (tgt := 49) hx hb dX11_aboveOf_7 (by decide) (fun c5 => ?_) (fun c5 => ?_)
      · have hf := it_e c5 hf
        exact hko x1 x2 C H locs ls hP hS h86 h89 (lv_sub hl [0, 1, 2, 3] rfl) hf
      · have hf := ie_e c5 hf
        refine lv_iload_n hx hb dX11_aboveOf_10 rfl (lv_at hl 2 rfl) ?_
        refine lv_aload_n hx hb dX11_aboveOf_11 rfl (lv_at hl 0 rfl) ?_
        refine r_get (own := RX11) (T := TX11) (n := 32) (ci := 11) (v := .int m_there) hx hb hts nX11 hown hK hP (by omega) h86 rfl 4 (by decide) k0 rfl dX11_aboveOf_12 ?_
        refine lv_iload_n hx hb dX11_aboveOf_15 rfl (lv_at hl 3 rfl) ?_
        obtain ⟨q6, hq6, hf⟩ := bd_e hf
        refine k_iR (va_runS (As := [.int m_there, .int x2]) (rest := [.int x1]) ⟨hx, hb, hml, hown, hts⟩ (c_X11_has (l := l) (sz := H.size) (p0 := m_there) (p1 := x2) hq6) (va_cwS 2 hts gX11_aboveOf_X11_has rfl rfl rfl (by decide +kernel) ⟨Nat.le_of_ble_eq_true rfl, Nat.le_of_ble_eq_true rfl⟩) preS0 rfl rfl hl.1 rfl (lv_room (Nat.le_of_ble_eq_true rfl)) dX11_aboveOf_16 ⟨Nat.le_of_ble_eq_true rfl, Nat.le_of_ble_eq_true rfl⟩) hA hP hS (fun H locs hP hS hbz_q6 => ?_)
        obtain ⟨q7, htq7, hf⟩ := bd_e hf
        have jnq7 : ∀ (C : Nat → va_E) (H : Heap) (locs : List Loc) (ls : Array Slot), va_P D vwCl (wd N ad C) H → va_S (An s.heap.size) s.heap H locs → C 86 = .inr (11, [.ref (ad 87), .int m_len, .ref (ad 88), .int m_rm, .int m_there, .ref (ad 89), .ref (ad 90), .ref (ad 91), .ref (ad 92), .ref (ad 93), .ref (ad 94), .ref (ad 95), .ref (ad 96), .ref (ad 97), .ref (ad 98), .ref (ad 99), .ref (ad 100), .ref (ad 101), .int m_lift, .int m_blank, .ref (ad 102), .int m_fm, .int m_at, .int m_pl, .int m_end, .ref (ad 103), .ref (ad 104), .ref (ad 105), .ref (ad 106), .ref (ad 107), .ref (ad 108), .int m_seed]) → C 89 = aI g 12 m_down → lv_has ls 4 [(0, .ref (ad 86)), (1, .int p0), (2, .int x1), (3, .int x2)] → W p l e (headSpec wsX11_aboveOf rmX11_aboveOf).room s m args below meth c H locs 0 0 QQ (F0 m 41 ls [.int q7, .int x1]) := by
          intro C H locs ls hP hS h86 h89 hl
          refine lv_ior hx hb dX11_aboveOf_41 ?_
          obtain ⟨x8, ex8, hf⟩ := lt_e hf
          refine tp_i ex8 ?_
          refine lv_istore_n (lv' := [(2, .int x8), (0, .ref (ad 86)), (1, .int p0), (3, .int x2)]) hx hb dX11_aboveOf_42 rfl hl (by decide) rfl (fun ls hl => ?_)
          obtain ⟨x9, ex9, hf⟩ := lt_e hf
          refine lv_iinc (v := x9) (lv' := [(3, .int x9), (2, .int x8), (0, .ref (ad 86)), (1, .int p0)]) hx hb dX11_aboveOf_43 hl (k := 3) rfl (by rw [ex9]; rfl) (by decide) rfl (fun ls hl => ?_)
          refine lv_goto (tgt := 4) hx hb dX11_aboveOf_46 (by decide) ?_
          exact ih x8 x9 C H locs ls hP hS h86 h89 (lv_sub hl [2, 3, 1, 0] rfl) hf
        clear hf
        have hf := htq7
        refine lv_if_eq (tgt := 40) hx hb dX11_aboveOf_19 (by decide) (fun c10 => ?_) (fun c10 => ?_)
        · have hf := it_e c10 hf
          refine lv_iconst (v := 0) hx hb dX11_aboveOf_40 (by decide) ?_
          obtain rfl := Option.some.inj hf
          exact jnq7 C H locs ls hP hS h86 h89 (lv_sub hl [0, 1, 2, 3] rfl)
        · have hf := ie_e c10 hf
          refine lv_aload_n hx hb dX11_aboveOf_22 rfl (lv_at hl 0 rfl) ?_
          refine lv_iload_n hx hb dX11_aboveOf_23 rfl (lv_at hl 3 rfl) ?_
          obtain ⟨q11, hq11, hf⟩ := bd_e hf
          refine k_iR (va_runV (C := RX11) (As := [.int x2]) (rest := [.int x1]) ⟨hx, hb, hml, hown, hts⟩ (c_X11_wayOf (l := l) (sz := H.size) (p0 := x2) hN h86 h89 hq11) (cwV 1 hts gX11_aboveOf_X11_wayOf rfl rfl rfl (by decide +kernel) ⟨Nat.le_of_ble_eq_true rfl, Nat.le_of_ble_eq_true rfl⟩) (preV_of hK hP (by omega) h86 rfl) rfl rfl hl.1 rfl (lv_room (Nat.le_of_ble_eq_true rfl)) dX11_aboveOf_24 ⟨Nat.le_of_ble_eq_true rfl, Nat.le_of_ble_eq_true rfl⟩) hA hP hS (fun H locs hP hS hbz_q11 => ?_)
          refine lv_iload_n hx hb dX11_aboveOf_27 rfl (lv_at hl 1 rfl) ?_
          obtain ⟨q12, hq12, hf⟩ := bd_e hf
          refine k_iR (va_runS (As := [.int q11, .int p0]) (rest := [.int x1]) ⟨hx, hb, hml, hown, hts⟩ (c_X11_has (l := l) (sz := H.size) (p0 := q11) (p1 := p0) hq12) (va_cwS 2 hts gX11_aboveOf_X11_has rfl rfl rfl (by decide +kernel) ⟨Nat.le_of_ble_eq_true rfl, Nat.le_of_ble_eq_true rfl⟩) preS0 rfl rfl hl.1 rfl (lv_room (Nat.le_of_ble_eq_true rfl)) dX11_aboveOf_28 ⟨Nat.le_of_ble_eq_true rfl, Nat.le_of_ble_eq_true rfl⟩) hA hP hS (fun H locs hP hS hbz_q12 => ?_)
          refine lv_if_eq (tgt := 40) hx hb dX11_aboveOf_31 (by decide) (fun c13 => ?_) (fun c13 => ?_)
          · have hf := it_e c13 hf
            refine lv_iconst (v := 0) hx hb dX11_aboveOf_40 (by decide) ?_
            obtain rfl := Option.some.inj hf
            exact jnq7 C H locs ls hP hS h86 h89 (lv_sub hl [0, 1, 2, 3] rfl)
          · have hf := ie_e c13 hf
            refine lv_iconst (v := 1) hx hb dX11_aboveOf_34 (by decide) ?_
            refine lv_iload_n hx hb dX11_aboveOf_35 rfl (lv_at hl 3 rfl) ?_
            refine lv_ishl hx hb dX11_aboveOf_36 ?_
            refine lv_goto (tgt := 41) hx hb dX11_aboveOf_37 (by decide) ?_
            obtain rfl := Option.some.inj hf
            exact jnq7 C H locs ls hP hS h86 h89 (lv_sub hl [0, 1, 2, 3] rfl)
  refine key4 _ (fun x3 x4 C H locs ls hP hS h86 h89 hl hf => ?_) FU 0 0 C H locs ls hP hS h86 h89 (lv_sub hl [2, 3, 1, 0] rfl) hf
  refine lv_iload_n hx hb dX11_aboveOf_49 rfl (lv_at hl 2 rfl) ?_
  obtain rfl := Option.some.inj hf
  rw [← hQ]
  exact e_iR hx hb hr rfl (tP_i _) hS hlocks dX11_aboveOf_50

def f_X11_above (p0 : Int32) (m_down : Nat → Int32) (m_there : Int32) : Option (Int32) :=
  (f_X11_isNode p0 m_there).bind fun q1 =>
  if q1 = 0 then
    some ((-2))
  else
    (f_X11_aboveOf p0 m_down m_there).bind fun q3 =>
    some (q3)
abbrev rmX11_above : Room := { frames := 2, cells := 0, slots := 0, locals := 46 }
set_option maxHeartbeats 4000000 in
set_option maxRecDepth 100000 in
theorem c_X11_above {l : Launch} {D : va_G} {g : Nat → ClassId} {N : Nat} {ad : Nat → Nat} {C : Nat → va_E} {sz : Nat} {m_len : Int32} {m_rm : Int32} {m_there : Int32} {m_lift : Int32} {m_blank : Int32} {m_fm : Int32} {m_at : Int32} {m_pl : Int32} {m_end : Int32} {m_seed : Int32} {m_down : Nat → Int32} {p0 : Int32} {rr : Int32} (hN : 109 ≤ N) (h86 : C 86 = .inr (11, [.ref (ad 87), .int m_len, .ref (ad 88), .int m_rm, .int m_there, .ref (ad 89), .ref (ad 90), .ref (ad 91), .ref (ad 92), .ref (ad 93), .ref (ad 94), .ref (ad 95), .ref (ad 96), .ref (ad 97), .ref (ad 98), .ref (ad 99), .ref (ad 100), .ref (ad 101), .int m_lift, .int m_blank, .ref (ad 102), .int m_fm, .int m_at, .int m_pl, .int m_end, .ref (ad 103), .ref (ad 104), .ref (ad 105), .ref (ad 106), .ref (ad 107), .ref (ad 108), .int m_seed])) (h89 : C 89 = aI g 12 m_down) (hf : f_X11_above p0 m_down m_there = some rr) : Met l yX11_above wsX11_above rmX11_above (PcW D g N ad C sz [.ref (ad 86), .int p0]) (QiR sz tP rr) 0 0 (An sz) := by
  refine Met.ofW (cc := cX11_above) (maxL := 2) (ret := (some .int)) (by decide) rfl ?_
  intro p e s m args below meth c s₁ B hml hv
  obtain ⟨hav, hsz, hK, hP⟩ := hv
  subst hsz
  have hx := B.exec
  have hb := B.bytes
  have hr := B.returns
  have hts := atoms_spec (ws := wsX11_above) B.pre
  have hown : s.vm.findClass RX11 = some m.cls := findClass_of_methodNamed B.named
  have hlocks := B.notSynchronized
  generalize hQ : MQ below (QiR s.heap.size tP rr) args s 0 0 (An s.heap.size) = QQ
  have hS : va_S (An s.heap.size) s.heap s.heap [] := va_S.rf
  have hA : ∀ q, s.heap.size ≤ q → (An s.heap.size) q := fun q h => h
  have hE := lg_entry_eq m [.ref (ad 86), .int p0] 2
  rw [← hav] at hE
  rw [hE]
  have hl := lv_entry [.ref (ad 86), .int p0] (n := 2) (Nat.le_of_ble_eq_true rfl)
  generalize (lg_sl [.ref (ad 86), .int p0] ++ List.replicate (2 - (lg_sl [.ref (ad 86), .int p0]).length) Slot.unset).toArray = ls at hl ⊢
  have hl : lv_has ls 2 [(0, .ref (ad 86)), (1, .int p0)] := hl
  clear hE
  unfold f_X11_above at hf
  suffices hgo : ∀ (H : Heap) (locs : List Loc), va_P D vwCl (wd N ad C) H → va_S (An s.heap.size) s.heap H locs → W p l e (headSpec wsX11_above rmX11_above).room s m args below meth c H locs 0 0 QQ (F0 m 0 ls []) from hgo s.heap [] hP hS
  clear hS hP
  intro H locs hP hS
  refine lv_aload_n hx hb dX11_above_0 rfl (lv_at hl 0 rfl) ?_
  refine lv_iload_n hx hb dX11_above_1 rfl (lv_at hl 1 rfl) ?_
  obtain ⟨q1, hq1, hf⟩ := bd_e hf
  refine k_iR (va_runV (C := RX11) (As := [.int p0]) (rest := []) ⟨hx, hb, hml, hown, hts⟩ (c_X11_isNode (l := l) (sz := H.size) (p0 := p0) hN h86 hq1) (cwV 1 hts gX11_above_X11_isNode rfl rfl rfl (by decide +kernel) ⟨Nat.le_of_ble_eq_true rfl, Nat.le_of_ble_eq_true rfl⟩) (preV_of hK hP (by omega) h86 rfl) rfl rfl hl.1 rfl (lv_room (Nat.le_of_ble_eq_true rfl)) dX11_above_2 ⟨Nat.le_of_ble_eq_true rfl, Nat.le_of_ble_eq_true rfl⟩) hA hP hS (fun H locs hP hS hbz_q1 => ?_)
  refine lv_if_eq (tgt := 16) hx hb dX11_above_5 (by decide) (fun c2 => ?_) (fun c2 => ?_)
  · have hf := it_e c2 hf
    refine lv_bipush (v := (-2)) hx hb dX11_above_16 (by decide) ?_
    obtain rfl := Option.some.inj hf
    rw [← hQ]
    exact e_iR hx hb hr rfl (tP_i _) hS hlocks dX11_above_18
  · have hf := ie_e c2 hf
    refine lv_aload_n hx hb dX11_above_8 rfl (lv_at hl 0 rfl) ?_
    refine lv_iload_n hx hb dX11_above_9 rfl (lv_at hl 1 rfl) ?_
    obtain ⟨q3, hq3, hf⟩ := bd_e hf
    refine k_iR (va_runV (C := RX11) (As := [.int p0]) (rest := []) ⟨hx, hb, hml, hown, hts⟩ (c_X11_aboveOf (l := l) (sz := H.size) (p0 := p0) hN h86 h89 hq3) (cwV 1 hts gX11_above_X11_aboveOf rfl rfl rfl (by decide +kernel) ⟨Nat.le_of_ble_eq_true rfl, Nat.le_of_ble_eq_true rfl⟩) (preV_of hK hP (by omega) h86 rfl) rfl rfl hl.1 rfl (lv_room (Nat.le_of_ble_eq_true rfl)) dX11_above_10 ⟨Nat.le_of_ble_eq_true rfl, Nat.le_of_ble_eq_true rfl⟩) hA hP hS (fun H locs hP hS hbz_q3 => ?_)
    refine lv_goto (tgt := 18) hx hb dX11_above_13 (by decide) ?_
    obtain rfl := Option.some.inj hf
    rw [← hQ]
    exact e_iR hx hb hr rfl (tP_i _) hS hlocks dX11_above_18

def LX11_walkOf_18 (m_walk : Nat → Int32) (x3 : Int32) (ko : Int32 → Int32 → Option (Int32)) : Nat → Int32 → Int32 → Option (Int32)
  | 0, _, _ => none
  | n + 1, x4, x5 =>
    if 12 ≤ x5 then
      ko x4 x5
    else
      (f_X11_has x3 x5).bind fun q9 =>
      (if q9 = 0 then
        some (0)
      else
        ri m_walk 12 (x5) fun x14 =>
        some (x14) : Option (Int32)).bind fun q10 =>
      lt ((x4 + q10) : Int32) fun x11 =>
      lt (x5 + 1 : Int32) fun x12 =>
      LX11_walkOf_18 m_walk x3 ko n x11 x12
theorem LX11_walkOf_18_z (m_walk : Nat → Int32) (x3 : Int32) (ko : Int32 → Int32 → Option (Int32)) (x4 : Int32) (x5 : Int32) : LX11_walkOf_18 m_walk x3 ko 0 x4 x5 = none := rfl
theorem LX11_walkOf_18_s (m_walk : Nat → Int32) (x3 : Int32) (ko : Int32 → Int32 → Option (Int32)) (n : Nat) (x4 : Int32) (x5 : Int32) : LX11_walkOf_18 m_walk x3 ko (n + 1) x4 x5 =
    if 12 ≤ x5 then
      ko x4 x5
    else
      (f_X11_has x3 x5).bind fun q9 =>
      (if q9 = 0 then
        some (0)
      else
        ri m_walk 12 (x5) fun x14 =>
        some (x14) : Option (Int32)).bind fun q10 =>
      lt ((x4 + q10) : Int32) fun x11 =>
      lt (x5 + 1 : Int32) fun x12 =>
      LX11_walkOf_18 m_walk x3 ko n x11 x12 := rfl
def f_X11_walkOf (p0 : Int32) (p1 : Int32) (m_down : Nat → Int32) (m_walk : Nat → Int32) : Option (Int32) :=
  (f_X11_wayOf p0 m_down).bind fun q1 =>
  (f_X11_wayOf p1 m_down).bind fun q2 =>
  lt ((q1 ^^^ q2) : Int32) fun x3 =>
  LX11_walkOf_18 m_walk x3 (fun x6 x7 =>
    some (x6)) FU 0 1
abbrev rmX11_walkOf : Room := { frames := 1, cells := 0, slots := 0, locals := 23 }
set_option maxHeartbeats 4000000 in
set_option maxRecDepth 100000 in
theorem c_X11_walkOf {l : Launch} {D : va_G} {g : Nat → ClassId} {N : Nat} {ad : Nat → Nat} {C : Nat → va_E} {sz : Nat} {m_len : Int32} {m_rm : Int32} {m_there : Int32} {m_lift : Int32} {m_blank : Int32} {m_fm : Int32} {m_at : Int32} {m_pl : Int32} {m_end : Int32} {m_seed : Int32} {m_down : Nat → Int32} {m_walk : Nat → Int32} {p0 : Int32} {p1 : Int32} {rr : Int32} (hN : 109 ≤ N) (h86 : C 86 = .inr (11, [.ref (ad 87), .int m_len, .ref (ad 88), .int m_rm, .int m_there, .ref (ad 89), .ref (ad 90), .ref (ad 91), .ref (ad 92), .ref (ad 93), .ref (ad 94), .ref (ad 95), .ref (ad 96), .ref (ad 97), .ref (ad 98), .ref (ad 99), .ref (ad 100), .ref (ad 101), .int m_lift, .int m_blank, .ref (ad 102), .int m_fm, .int m_at, .int m_pl, .int m_end, .ref (ad 103), .ref (ad 104), .ref (ad 105), .ref (ad 106), .ref (ad 107), .ref (ad 108), .int m_seed])) (h89 : C 89 = aI g 12 m_down) (h91 : C 91 = aI g 12 m_walk) (hf : f_X11_walkOf p0 p1 m_down m_walk = some rr) : Met l yX11_walkOf wsX11_walkOf rmX11_walkOf (PcW D g N ad C sz [.ref (ad 86), .int p0, .int p1]) (QiR sz tP rr) 0 0 (An sz) := by
  refine Met.ofW (cc := cX11_walkOf) (maxL := 6) (ret := (some .int)) (by decide) rfl ?_
  intro p e s m args below meth c s₁ B hml hv
  obtain ⟨hav, hsz, hK, hP⟩ := hv
  subst hsz
  have hx := B.exec
  have hb := B.bytes
  have hr := B.returns
  have hts := atoms_spec (ws := wsX11_walkOf) B.pre
  have hown : s.vm.findClass RX11 = some m.cls := findClass_of_methodNamed B.named
  have hlocks := B.notSynchronized
  generalize hQ : MQ below (QiR s.heap.size tP rr) args s 0 0 (An s.heap.size) = QQ
  have hS : va_S (An s.heap.size) s.heap s.heap [] := va_S.rf
  have hA : ∀ q, s.heap.size ≤ q → (An s.heap.size) q := fun q h => h
  have k0 := hts (.fieldLink RX11 26 "UpDrainModel" "walks" "[I") (List.mem_of_getElem? (i := 1) rfl)
  have nX11 : ∀ w ∈ u_ws RX11 TX11 32, w ∈ wsX11_walkOf := fun _ h => List.mem_cons_of_mem _ (List.mem_append_right _ h)
  have hE := lg_entry_eq m [.ref (ad 86), .int p0, .int p1] 6
  rw [← hav] at hE
  rw [hE]
  have hl := lv_entry [.ref (ad 86), .int p0, .int p1] (n := 6) (Nat.le_of_ble_eq_true rfl)
  generalize (lg_sl [.ref (ad 86), .int p0, .int p1] ++ List.replicate (6 - (lg_sl [.ref (ad 86), .int p0, .int p1]).length) Slot.unset).toArray = ls at hl ⊢
  have hl : lv_has ls 6 [(0, .ref (ad 86)), (1, .int p0), (2, .int p1)] := hl
  clear hE
  unfold f_X11_walkOf at hf
  suffices hgo : ∀ (H : Heap) (locs : List Loc), va_P D vwCl (wd N ad C) H → va_S (An s.heap.size) s.heap H locs → W p l e (headSpec wsX11_walkOf rmX11_walkOf).room s m args below meth c H locs 0 0 QQ (F0 m 0 ls []) from hgo s.heap [] hP hS
  clear hS hP
  intro H locs hP hS
  refine lv_aload_n hx hb dX11_walkOf_0 rfl (lv_at hl 0 rfl) ?_
  refine lv_iload_n hx hb dX11_walkOf_1 rfl (lv_at hl 1 rfl) ?_
  obtain ⟨q1, hq1, hf⟩ := bd_e hf
  refine k_iR (va_runV (C := RX11) (As := [.int p0]) (rest := []) ⟨hx, hb, hml, hown, hts⟩ (c_X11_wayOf (l := l) (sz := H.size) (p0 := p0) hN h86 h89 hq1) (cwV 1 hts gX11_walkOf_X11_wayOf rfl rfl rfl (by decide +kernel) ⟨Nat.le_of_ble_eq_true rfl, Nat.le_of_ble_eq_true rfl⟩) (preV_of hK hP (by omega) h86 rfl) rfl rfl hl.1 rfl (lv_room (Nat.le_of_ble_eq_true rfl)) dX11_walkOf_2 ⟨Nat.le_of_ble_eq_true rfl, Nat.le_of_ble_eq_true rfl⟩) hA hP hS (fun H locs hP hS hbz_q1 => ?_)
  refine lv_aload_n hx hb dX11_walkOf_5 rfl (lv_at hl 0 rfl) ?_
  refine lv_iload_n hx hb dX11_walkOf_6 rfl (lv_at hl 2 rfl) ?_
  obtain ⟨q2, hq2, hf⟩ := bd_e hf
  refine k_iR (va_runV (C := RX11) (As := [.int p1]) (rest := [.int q1]) ⟨hx, hb, hml, hown, hts⟩ (c_X11_wayOf (l := l) (sz := H.size) (p0 := p1) hN h86 h89 hq2) (cwV 1 hts gX11_walkOf_X11_wayOf rfl rfl rfl (by decide +kernel) ⟨Nat.le_of_ble_eq_true rfl, Nat.le_of_ble_eq_true rfl⟩) (preV_of hK hP (by omega) h86 rfl) rfl rfl hl.1 rfl (lv_room (Nat.le_of_ble_eq_true rfl)) dX11_walkOf_7 ⟨Nat.le_of_ble_eq_true rfl, Nat.le_of_ble_eq_true rfl⟩) hA hP hS (fun H locs hP hS hbz_q2 => ?_)
  refine lv_ixor hx hb dX11_walkOf_10 ?_
  obtain ⟨x3, ex3, hf⟩ := lt_e hf
  refine tp_i ex3 ?_
  refine lv_istore_n (lv' := [(3, .int x3), (0, .ref (ad 86)), (1, .int p0), (2, .int p1)]) hx hb dX11_walkOf_11 rfl hl (by decide) rfl (fun ls hl => ?_)
  refine lv_iconst (v := 0) hx hb dX11_walkOf_12 (by decide) ?_
  refine lv_istore (lv' := [(4, .int 0), (3, .int x3), (0, .ref (ad 86)), (1, .int p0), (2, .int p1)]) hx hb dX11_walkOf_13 hl (by decide) rfl (fun ls hl => ?_)
  refine lv_iconst (v := 1) hx hb dX11_walkOf_15 (by decide) ?_
  refine lv_istore (lv' := [(5, .int 1), (4, .int 0), (3, .int x3), (0, .ref (ad 86)), (1, .int p0), (2, .int p1)]) hx hb dX11_walkOf_16 hl (by decide) rfl (fun ls hl => ?_)
  have key18 : ∀ (ko : Int32 → Int32 → Option (Int32)), (∀ (x6 : Int32) (x7 : Int32) (C : Nat → va_E) (H : Heap) (locs : List Loc) (ls : Array Slot), va_P D vwCl (wd N ad C) H → va_S (An s.heap.size) s.heap H locs → C 86 = .inr (11, [.ref (ad 87), .int m_len, .ref (ad 88), .int m_rm, .int m_there, .ref (ad 89), .ref (ad 90), .ref (ad 91), .ref (ad 92), .ref (ad 93), .ref (ad 94), .ref (ad 95), .ref (ad 96), .ref (ad 97), .ref (ad 98), .ref (ad 99), .ref (ad 100), .ref (ad 101), .int m_lift, .int m_blank, .ref (ad 102), .int m_fm, .int m_at, .int m_pl, .int m_end, .ref (ad 103), .ref (ad 104), .ref (ad 105), .ref (ad 106), .ref (ad 107), .ref (ad 108), .int m_seed]) → C 89 = aI g 12 m_down → C 91 = aI g 12 m_walk → lv_has ls 6 [(0, .ref (ad 86)), (1, .int p0), (2, .int p1), (3, .int x3), (4, .int x6), (5, .int x7)] → ko x6 x7 = some rr → W p l e (headSpec wsX11_walkOf rmX11_walkOf).room s m args below meth c H locs 0 0 QQ (F0 m 56 ls [])) → ∀ (n : Nat) (x4 : Int32) (x5 : Int32) (C : Nat → va_E) (H : Heap) (locs : List Loc) (ls : Array Slot), va_P D vwCl (wd N ad C) H → va_S (An s.heap.size) s.heap H locs → C 86 = .inr (11, [.ref (ad 87), .int m_len, .ref (ad 88), .int m_rm, .int m_there, .ref (ad 89), .ref (ad 90), .ref (ad 91), .ref (ad 92), .ref (ad 93), .ref (ad 94), .ref (ad 95), .ref (ad 96), .ref (ad 97), .ref (ad 98), .ref (ad 99), .ref (ad 100), .ref (ad 101), .int m_lift, .int m_blank, .ref (ad 102), .int m_fm, .int m_at, .int m_pl, .int m_end, .ref (ad 103), .ref (ad 104), .ref (ad 105), .ref (ad 106), .ref (ad 107), .ref (ad 108), .int m_seed]) → C 89 = aI g 12 m_down → C 91 = aI g 12 m_walk → lv_has ls 6 [(0, .ref (ad 86)), (1, .int p0), (2, .int p1), (3, .int x3), (4, .int x4), (5, .int x5)] → LX11_walkOf_18 m_walk x3 ko n x4 x5 = some rr → W p l e (headSpec wsX11_walkOf rmX11_walkOf).room s m args below meth c H locs 0 0 QQ (F0 m 18 ls []) := by
    intro ko hko n
    induction n with
    | zero =>
      intro x4 x5 C H locs ls hP hS h86 h89 h91 hl hf
      rw [LX11_walkOf_18_z] at hf
      cases hf
    | succ n ih =>
      intro x4 x5 C H locs ls hP hS h86 h89 h91 hl hf
      rw [LX11_walkOf_18_s] at hf
      refine lv_iload hx hb dX11_walkOf_18 (lv_at hl 5 rfl) ?_
      refine lv_bipush (v := 12) hx hb dX11_walkOf_20 (by decide) ?_
      refine lv_icmp_ge (tgt := 56) hx hb dX11_walkOf_22 (by decide) (fun c8 => ?_) (fun c8 => ?_)
      · have hf := it_e c8 hf
        exact hko x4 x5 C H locs ls hP hS h86 h89 h91 (lv_sub hl [0, 1, 2, 3, 4, 5] rfl) hf
      · have hf := ie_e c8 hf
        refine lv_iload hx hb dX11_walkOf_25 (lv_at hl 4 rfl) ?_
        refine lv_iload_n hx hb dX11_walkOf_27 rfl (lv_at hl 3 rfl) ?_
        refine lv_iload hx hb dX11_walkOf_28 (lv_at hl 5 rfl) ?_
        obtain ⟨q9, hq9, hf⟩ := bd_e hf
        refine k_iR (va_runS (As := [.int x3, .int x5]) (rest := [.int x4]) ⟨hx, hb, hml, hown, hts⟩ (c_X11_has (l := l) (sz := H.size) (p0 := x3) (p1 := x5) hq9) (va_cwS 2 hts gX11_walkOf_X11_has rfl rfl rfl (by decide +kernel) ⟨Nat.le_of_ble_eq_true rfl, Nat.le_of_ble_eq_true rfl⟩) preS0 rfl rfl hl.1 rfl (lv_room (Nat.le_of_ble_eq_true rfl)) dX11_walkOf_30 ⟨Nat.le_of_ble_eq_true rfl, Nat.le_of_ble_eq_true rfl⟩) hA hP hS (fun H locs hP hS hbz_q9 => ?_)
        obtain ⟨q10, htq10, hf⟩ := bd_e hf
        have jnq10 : ∀ (C : Nat → va_E) (H : Heap) (locs : List Loc) (ls : Array Slot), va_P D vwCl (wd N ad C) H → va_S (An s.heap.size) s.heap H locs → C 86 = .inr (11, [.ref (ad 87), .int m_len, .ref (ad 88), .int m_rm, .int m_there, .ref (ad 89), .ref (ad 90), .ref (ad 91), .ref (ad 92), .ref (ad 93), .ref (ad 94), .ref (ad 95), .ref (ad 96), .ref (ad 97), .ref (ad 98), .ref (ad 99), .ref (ad 100), .ref (ad 101), .int m_lift, .int m_blank, .ref (ad 102), .int m_fm, .int m_at, .int m_pl, .int m_end, .ref (ad 103), .ref (ad 104), .ref (ad 105), .ref (ad 106), .ref (ad 107), .ref (ad 108), .int m_seed]) → C 89 = aI g 12 m_down → C 91 = aI g 12 m_walk → lv_has ls 6 [(0, .ref (ad 86)), (1, .int p0), (2, .int p1), (3, .int x3), (4, .int x4), (5, .int x5)] → W p l e (headSpec wsX11_walkOf rmX11_walkOf).room s m args below meth c H locs 0 0 QQ (F0 m 47 ls [.int q10, .int x4]) := by
          intro C H locs ls hP hS h86 h89 h91 hl
          refine lv_iadd hx hb dX11_walkOf_47 ?_
          obtain ⟨x11, ex11, hf⟩ := lt_e hf
          refine tp_i ex11 ?_
          refine lv_istore (lv' := [(4, .int x11), (0, .ref (ad 86)), (1, .int p0), (2, .int p1), (3, .int x3), (5, .int x5)]) hx hb dX11_walkOf_48 hl (by decide) rfl (fun ls hl => ?_)
          obtain ⟨x12, ex12, hf⟩ := lt_e hf
          refine lv_iinc (v := x12) (lv' := [(5, .int x12), (4, .int x11), (0, .ref (ad 86)), (1, .int p0), (2, .int p1), (3, .int x3)]) hx hb dX11_walkOf_50 hl (k := 5) rfl (by rw [ex12]; rfl) (by decide) rfl (fun ls hl => ?_)
          refine lv_goto (tgt := 18) hx hb dX11_walkOf_53 (by decide) ?_
          exact ih x11 x12 C H locs ls hP hS h86 h89 h91 (lv_sub hl [2, 3, 4, 5, 1, 0] rfl) hf
        clear hf
        have hf := htq10
        refine lv_if_eq (tgt := 46) hx hb dX11_walkOf_33 (by decide) (fun c13 => ?_) (fun c13 => ?_)
        · have hf := it_e c13 hf
          refine lv_iconst (v := 0) hx hb dX11_walkOf_46 (by decide) ?_
          obtain rfl := Option.some.inj hf
          exact jnq10 C H locs ls hP hS h86 h89 h91 (lv_sub hl [0, 1, 2, 3, 4, 5] rfl)
        · have hf := ie_e c13 hf
          refine lv_aload_n hx hb dX11_walkOf_36 rfl (lv_at hl 0 rfl) ?_
          refine r_get (own := RX11) (T := TX11) (n := 32) (ci := 11) (v := .ref (ad 91)) hx hb hts nX11 hown hK hP (by omega) h86 rfl 7 (by decide) k0 rfl dX11_walkOf_37 ?_
          refine lv_iload hx hb dX11_walkOf_40 (lv_at hl 5 rfl) ?_
          obtain ⟨i15, x14, ex14, hf⟩ := ri_e hf
          refine r_iald hx hb hK hP (by omega) h91 i15 dX11_walkOf_42 ex14 ?_
          refine lv_goto (tgt := 47) hx hb dX11_walkOf_43 (by decide) ?_
          obtain rfl := Option.some.inj hf
          exact jnq10 C H locs ls hP hS h86 h89 h91 (lv_sub hl [0, 1, 2, 3, 4, 5] rfl)
  refine key18 _ (fun x6 x7 C H locs ls hP hS h86 h89 h91 hl hf => ?_) FU 0 1 C H locs ls hP hS h86 h89 h91 (lv_sub hl [3, 4, 5, 2, 1, 0] rfl) hf
  refine lv_iload hx hb dX11_walkOf_56 (lv_at hl 4 rfl) ?_
  obtain rfl := Option.some.inj hf
  rw [← hQ]
  exact e_iR hx hb hr rfl (tP_i _) hS hlocks dX11_walkOf_58

def f_X11_walk (p0 : Int32) (p1 : Int32) (m_down : Nat → Int32) (m_walk : Nat → Int32) (m_there : Int32) : Option (Int32) :=
  (f_X11_isNode p0 m_there).bind fun q1 =>
  if q1 = 0 then
    some ((-2))
  else
    (f_X11_isNode p1 m_there).bind fun q3 =>
    if q3 = 0 then
      some ((-2))
    else
      (f_X11_walkOf p0 p1 m_down m_walk).bind fun q5 =>
      some (q5)
abbrev rmX11_walk : Room := { frames := 2, cells := 0, slots := 0, locals := 48 }
set_option maxHeartbeats 4000000 in
set_option maxRecDepth 100000 in
theorem c_X11_walk {l : Launch} {D : va_G} {g : Nat → ClassId} {N : Nat} {ad : Nat → Nat} {C : Nat → va_E} {sz : Nat} {m_len : Int32} {m_rm : Int32} {m_there : Int32} {m_lift : Int32} {m_blank : Int32} {m_fm : Int32} {m_at : Int32} {m_pl : Int32} {m_end : Int32} {m_seed : Int32} {m_down : Nat → Int32} {m_walk : Nat → Int32} {p0 : Int32} {p1 : Int32} {rr : Int32} (hN : 109 ≤ N) (h86 : C 86 = .inr (11, [.ref (ad 87), .int m_len, .ref (ad 88), .int m_rm, .int m_there, .ref (ad 89), .ref (ad 90), .ref (ad 91), .ref (ad 92), .ref (ad 93), .ref (ad 94), .ref (ad 95), .ref (ad 96), .ref (ad 97), .ref (ad 98), .ref (ad 99), .ref (ad 100), .ref (ad 101), .int m_lift, .int m_blank, .ref (ad 102), .int m_fm, .int m_at, .int m_pl, .int m_end, .ref (ad 103), .ref (ad 104), .ref (ad 105), .ref (ad 106), .ref (ad 107), .ref (ad 108), .int m_seed])) (h89 : C 89 = aI g 12 m_down) (h91 : C 91 = aI g 12 m_walk) (hf : f_X11_walk p0 p1 m_down m_walk m_there = some rr) : Met l yX11_walk wsX11_walk rmX11_walk (PcW D g N ad C sz [.ref (ad 86), .int p0, .int p1]) (QiR sz tP rr) 0 0 (An sz) := by
  refine Met.ofW (cc := cX11_walk) (maxL := 3) (ret := (some .int)) (by decide) rfl ?_
  intro p e s m args below meth c s₁ B hml hv
  obtain ⟨hav, hsz, hK, hP⟩ := hv
  subst hsz
  have hx := B.exec
  have hb := B.bytes
  have hr := B.returns
  have hts := atoms_spec (ws := wsX11_walk) B.pre
  have hown : s.vm.findClass RX11 = some m.cls := findClass_of_methodNamed B.named
  have hlocks := B.notSynchronized
  generalize hQ : MQ below (QiR s.heap.size tP rr) args s 0 0 (An s.heap.size) = QQ
  have hS : va_S (An s.heap.size) s.heap s.heap [] := va_S.rf
  have hA : ∀ q, s.heap.size ≤ q → (An s.heap.size) q := fun q h => h
  have hE := lg_entry_eq m [.ref (ad 86), .int p0, .int p1] 3
  rw [← hav] at hE
  rw [hE]
  have hl := lv_entry [.ref (ad 86), .int p0, .int p1] (n := 3) (Nat.le_of_ble_eq_true rfl)
  generalize (lg_sl [.ref (ad 86), .int p0, .int p1] ++ List.replicate (3 - (lg_sl [.ref (ad 86), .int p0, .int p1]).length) Slot.unset).toArray = ls at hl ⊢
  have hl : lv_has ls 3 [(0, .ref (ad 86)), (1, .int p0), (2, .int p1)] := hl
  clear hE
  unfold f_X11_walk at hf
  suffices hgo : ∀ (H : Heap) (locs : List Loc), va_P D vwCl (wd N ad C) H → va_S (An s.heap.size) s.heap H locs → W p l e (headSpec wsX11_walk rmX11_walk).room s m args below meth c H locs 0 0 QQ (F0 m 0 ls []) from hgo s.heap [] hP hS
  clear hS hP
  intro H locs hP hS
  refine lv_aload_n hx hb dX11_walk_0 rfl (lv_at hl 0 rfl) ?_
  refine lv_iload_n hx hb dX11_walk_1 rfl (lv_at hl 1 rfl) ?_
  obtain ⟨q1, hq1, hf⟩ := bd_e hf
  refine k_iR (va_runV (C := RX11) (As := [.int p0]) (rest := []) ⟨hx, hb, hml, hown, hts⟩ (c_X11_isNode (l := l) (sz := H.size) (p0 := p0) hN h86 hq1) (cwV 1 hts gX11_walk_X11_isNode rfl rfl rfl (by decide +kernel) ⟨Nat.le_of_ble_eq_true rfl, Nat.le_of_ble_eq_true rfl⟩) (preV_of hK hP (by omega) h86 rfl) rfl rfl hl.1 rfl (lv_room (Nat.le_of_ble_eq_true rfl)) dX11_walk_2 ⟨Nat.le_of_ble_eq_true rfl, Nat.le_of_ble_eq_true rfl⟩) hA hP hS (fun H locs hP hS hbz_q1 => ?_)
  refine lv_if_eq (tgt := 25) hx hb dX11_walk_5 (by decide) (fun c2 => ?_) (fun c2 => ?_)
  · have hf := it_e c2 hf
    refine lv_bipush (v := (-2)) hx hb dX11_walk_25 (by decide) ?_
    obtain rfl := Option.some.inj hf
    rw [← hQ]
    exact e_iR hx hb hr rfl (tP_i _) hS hlocks dX11_walk_27
  · have hf := ie_e c2 hf
    refine lv_aload_n hx hb dX11_walk_8 rfl (lv_at hl 0 rfl) ?_
    refine lv_iload_n hx hb dX11_walk_9 rfl (lv_at hl 2 rfl) ?_
    obtain ⟨q3, hq3, hf⟩ := bd_e hf
    refine k_iR (va_runV (C := RX11) (As := [.int p1]) (rest := []) ⟨hx, hb, hml, hown, hts⟩ (c_X11_isNode (l := l) (sz := H.size) (p0 := p1) hN h86 hq3) (cwV 1 hts gX11_walk_X11_isNode rfl rfl rfl (by decide +kernel) ⟨Nat.le_of_ble_eq_true rfl, Nat.le_of_ble_eq_true rfl⟩) (preV_of hK hP (by omega) h86 rfl) rfl rfl hl.1 rfl (lv_room (Nat.le_of_ble_eq_true rfl)) dX11_walk_10 ⟨Nat.le_of_ble_eq_true rfl, Nat.le_of_ble_eq_true rfl⟩) hA hP hS (fun H locs hP hS hbz_q3 => ?_)
    refine lv_if_eq (tgt := 25) hx hb dX11_walk_13 (by decide) (fun c4 => ?_) (fun c4 => ?_)
    · have hf := it_e c4 hf
      refine lv_bipush (v := (-2)) hx hb dX11_walk_25 (by decide) ?_
      obtain rfl := Option.some.inj hf
      rw [← hQ]
      exact e_iR hx hb hr rfl (tP_i _) hS hlocks dX11_walk_27
    · have hf := ie_e c4 hf
      refine lv_aload_n hx hb dX11_walk_16 rfl (lv_at hl 0 rfl) ?_
      refine lv_iload_n hx hb dX11_walk_17 rfl (lv_at hl 1 rfl) ?_
      refine lv_iload_n hx hb dX11_walk_18 rfl (lv_at hl 2 rfl) ?_
      obtain ⟨q5, hq5, hf⟩ := bd_e hf
      refine k_iR (va_runV (C := RX11) (As := [.int p0, .int p1]) (rest := []) ⟨hx, hb, hml, hown, hts⟩ (c_X11_walkOf (l := l) (sz := H.size) (p0 := p0) (p1 := p1) hN h86 h89 h91 hq5) (cwV 2 hts gX11_walk_X11_walkOf rfl rfl rfl (by decide +kernel) ⟨Nat.le_of_ble_eq_true rfl, Nat.le_of_ble_eq_true rfl⟩) (preV_of hK hP (by omega) h86 rfl) rfl rfl hl.1 rfl (lv_room (Nat.le_of_ble_eq_true rfl)) dX11_walk_19 ⟨Nat.le_of_ble_eq_true rfl, Nat.le_of_ble_eq_true rfl⟩) hA hP hS (fun H locs hP hS hbz_q5 => ?_)
      refine lv_goto (tgt := 27) hx hb dX11_walk_22 (by decide) ?_
      obtain rfl := Option.some.inj hf
      rw [← hQ]
      exact e_iR hx hb hr rfl (tP_i _) hS hlocks dX11_walk_27

def LX11_flowOf_12 (m_flow : Nat → Int32) (q1 : Int32) (ko : Int32 → Int32 → Option (Int32)) : Nat → Int32 → Int32 → Option (Int32)
  | 0, _, _ => none
  | n + 1, x2, x3 =>
    if 12 ≤ x3 then
      ko x2 x3
    else
      (f_X11_has q1 x3).bind fun q7 =>
      (if q7 = 0 then
        some (0)
      else
        ri m_flow 12 (x3) fun x12 =>
        some (x12) : Option (Int32)).bind fun q8 =>
      lt ((x2 + q8) : Int32) fun x9 =>
      lt (x3 + 1 : Int32) fun x10 =>
      LX11_flowOf_12 m_flow q1 ko n x9 x10
theorem LX11_flowOf_12_z (m_flow : Nat → Int32) (q1 : Int32) (ko : Int32 → Int32 → Option (Int32)) (x2 : Int32) (x3 : Int32) : LX11_flowOf_12 m_flow q1 ko 0 x2 x3 = none := rfl
theorem LX11_flowOf_12_s (m_flow : Nat → Int32) (q1 : Int32) (ko : Int32 → Int32 → Option (Int32)) (n : Nat) (x2 : Int32) (x3 : Int32) : LX11_flowOf_12 m_flow q1 ko (n + 1) x2 x3 =
    if 12 ≤ x3 then
      ko x2 x3
    else
      (f_X11_has q1 x3).bind fun q7 =>
      (if q7 = 0 then
        some (0)
      else
        ri m_flow 12 (x3) fun x12 =>
        some (x12) : Option (Int32)).bind fun q8 =>
      lt ((x2 + q8) : Int32) fun x9 =>
      lt (x3 + 1 : Int32) fun x10 =>
      LX11_flowOf_12 m_flow q1 ko n x9 x10 := rfl
def f_X11_flowOf (p0 : Int32) (p1 : Int32) (m_down : Nat → Int32) (m_flow : Nat → Int32) (m_rain : Nat → Int32) (m_there : Int32) : Option (Int32) :=
  (f_X11_aboveOf p0 m_down m_there).bind fun q1 =>
  LX11_flowOf_12 m_flow q1 (fun x4 x5 =>
    ri m_rain 24 (p1) fun x14 =>
    nz (10) <|
    lt (((x4 * (10 + x14)) / 10) : Int32) fun x17 =>
    if 1 ≤ x17 then
      some (x17)
    else
      some (1)) FU 0 0
abbrev rmX11_flowOf : Room := { frames := 2, cells := 0, slots := 0, locals := 46 }
set_option maxHeartbeats 4000000 in
set_option maxRecDepth 100000 in
theorem c_X11_flowOf {l : Launch} {D : va_G} {g : Nat → ClassId} {N : Nat} {ad : Nat → Nat} {C : Nat → va_E} {sz : Nat} {m_len : Int32} {m_rm : Int32} {m_there : Int32} {m_lift : Int32} {m_blank : Int32} {m_fm : Int32} {m_at : Int32} {m_pl : Int32} {m_end : Int32} {m_seed : Int32} {m_down : Nat → Int32} {m_flow : Nat → Int32} {m_rain : Nat → Int32} {p0 : Int32} {p1 : Int32} {rr : Int32} (hN : 109 ≤ N) (h86 : C 86 = .inr (11, [.ref (ad 87), .int m_len, .ref (ad 88), .int m_rm, .int m_there, .ref (ad 89), .ref (ad 90), .ref (ad 91), .ref (ad 92), .ref (ad 93), .ref (ad 94), .ref (ad 95), .ref (ad 96), .ref (ad 97), .ref (ad 98), .ref (ad 99), .ref (ad 100), .ref (ad 101), .int m_lift, .int m_blank, .ref (ad 102), .int m_fm, .int m_at, .int m_pl, .int m_end, .ref (ad 103), .ref (ad 104), .ref (ad 105), .ref (ad 106), .ref (ad 107), .ref (ad 108), .int m_seed])) (h89 : C 89 = aI g 12 m_down) (h93 : C 93 = aI g 12 m_flow) (h98 : C 98 = aI g 24 m_rain) (hf : f_X11_flowOf p0 p1 m_down m_flow m_rain m_there = some rr) : Met l yX11_flowOf wsX11_flowOf rmX11_flowOf (PcW D g N ad C sz [.ref (ad 86), .int p0, .int p1]) (QiR sz tP rr) 0 0 (An sz) := by
  refine Met.ofW (cc := cX11_flowOf) (maxL := 6) (ret := (some .int)) (by decide) rfl ?_
  intro p e s m args below meth c s₁ B hml hv
  obtain ⟨hav, hsz, hK, hP⟩ := hv
  subst hsz
  have hx := B.exec
  have hb := B.bytes
  have hr := B.returns
  have hts := atoms_spec (ws := wsX11_flowOf) B.pre
  have hown : s.vm.findClass RX11 = some m.cls := findClass_of_methodNamed B.named
  have hlocks := B.notSynchronized
  generalize hQ : MQ below (QiR s.heap.size tP rr) args s 0 0 (An s.heap.size) = QQ
  have hS : va_S (An s.heap.size) s.heap s.heap [] := va_S.rf
  have hA : ∀ q, s.heap.size ≤ q → (An s.heap.size) q := fun q h => h
  have k0 := hts (.fieldLink RX11 32 "UpDrainModel" "flows" "[I") (List.mem_of_getElem? (i := 1) rfl)
  have nX11 : ∀ w ∈ u_ws RX11 TX11 32, w ∈ wsX11_flowOf := fun _ h => List.mem_cons_of_mem _ (List.mem_append_right _ h)
  have k2 := hts (.fieldLink RX11 47 "UpDrainModel" "rain" "[I") (List.mem_of_getElem? (i := 2) rfl)
  have hE := lg_entry_eq m [.ref (ad 86), .int p0, .int p1] 6
  rw [← hav] at hE
  rw [hE]
  have hl := lv_entry [.ref (ad 86), .int p0, .int p1] (n := 6) (Nat.le_of_ble_eq_true rfl)
  generalize (lg_sl [.ref (ad 86), .int p0, .int p1] ++ List.replicate (6 - (lg_sl [.ref (ad 86), .int p0, .int p1]).length) Slot.unset).toArray = ls at hl ⊢
  have hl : lv_has ls 6 [(0, .ref (ad 86)), (1, .int p0), (2, .int p1)] := hl
  clear hE
  unfold f_X11_flowOf at hf
  suffices hgo : ∀ (H : Heap) (locs : List Loc), va_P D vwCl (wd N ad C) H → va_S (An s.heap.size) s.heap H locs → W p l e (headSpec wsX11_flowOf rmX11_flowOf).room s m args below meth c H locs 0 0 QQ (F0 m 0 ls []) from hgo s.heap [] hP hS
  clear hS hP
  intro H locs hP hS
  refine lv_aload_n hx hb dX11_flowOf_0 rfl (lv_at hl 0 rfl) ?_
  refine lv_iload_n hx hb dX11_flowOf_1 rfl (lv_at hl 1 rfl) ?_
  obtain ⟨q1, hq1, hf⟩ := bd_e hf
  refine k_iR (va_runV (C := RX11) (As := [.int p0]) (rest := []) ⟨hx, hb, hml, hown, hts⟩ (c_X11_aboveOf (l := l) (sz := H.size) (p0 := p0) hN h86 h89 hq1) (cwV 1 hts gX11_flowOf_X11_aboveOf rfl rfl rfl (by decide +kernel) ⟨Nat.le_of_ble_eq_true rfl, Nat.le_of_ble_eq_true rfl⟩) (preV_of hK hP (by omega) h86 rfl) rfl rfl hl.1 rfl (lv_room (Nat.le_of_ble_eq_true rfl)) dX11_flowOf_2 ⟨Nat.le_of_ble_eq_true rfl, Nat.le_of_ble_eq_true rfl⟩) hA hP hS (fun H locs hP hS hbz_q1 => ?_)
  refine lv_istore_n (lv' := [(3, .int q1), (0, .ref (ad 86)), (1, .int p0), (2, .int p1)]) hx hb dX11_flowOf_5 rfl hl (by decide) rfl (fun ls hl => ?_)
  refine lv_iconst (v := 0) hx hb dX11_flowOf_6 (by decide) ?_
  refine lv_istore (lv' := [(4, .int 0), (3, .int q1), (0, .ref (ad 86)), (1, .int p0), (2, .int p1)]) hx hb dX11_flowOf_7 hl (by decide) rfl (fun ls hl => ?_)
  refine lv_iconst (v := 0) hx hb dX11_flowOf_9 (by decide) ?_
  refine lv_istore (lv' := [(5, .int 0), (4, .int 0), (3, .int q1), (0, .ref (ad 86)), (1, .int p0), (2, .int p1)]) hx hb dX11_flowOf_10 hl (by decide) rfl (fun ls hl => ?_)
  have key12 : ∀ (ko : Int32 → Int32 → Option (Int32)), (∀ (x4 : Int32) (x5 : Int32) (C : Nat → va_E) (H : Heap) (locs : List Loc) (ls : Array Slot), va_P D vwCl (wd N ad C) H → va_S (An s.heap.size) s.heap H locs → C 86 = .inr (11, [.ref (ad 87), .int m_len, .ref (ad 88), .int m_rm, .int m_there, .ref (ad 89), .ref (ad 90), .ref (ad 91), .ref (ad 92), .ref (ad 93), .ref (ad 94), .ref (ad 95), .ref (ad 96), .ref (ad 97), .ref (ad 98), .ref (ad 99), .ref (ad 100), .ref (ad 101), .int m_lift, .int m_blank, .ref (ad 102), .int m_fm, .int m_at, .int m_pl, .int m_end, .ref (ad 103), .ref (ad 104), .ref (ad 105), .ref (ad 106), .ref (ad 107), .ref (ad 108), .int m_seed]) → C 89 = aI g 12 m_down → C 93 = aI g 12 m_flow → C 98 = aI g 24 m_rain → lv_has ls 6 [(0, .ref (ad 86)), (1, .int p0), (2, .int p1), (3, .int q1), (4, .int x4), (5, .int x5)] → ko x4 x5 = some rr → W p l e (headSpec wsX11_flowOf rmX11_flowOf).room s m args below meth c H locs 0 0 QQ (F0 m 50 ls [])) → ∀ (n : Nat) (x2 : Int32) (x3 : Int32) (C : Nat → va_E) (H : Heap) (locs : List Loc) (ls : Array Slot), va_P D vwCl (wd N ad C) H → va_S (An s.heap.size) s.heap H locs → C 86 = .inr (11, [.ref (ad 87), .int m_len, .ref (ad 88), .int m_rm, .int m_there, .ref (ad 89), .ref (ad 90), .ref (ad 91), .ref (ad 92), .ref (ad 93), .ref (ad 94), .ref (ad 95), .ref (ad 96), .ref (ad 97), .ref (ad 98), .ref (ad 99), .ref (ad 100), .ref (ad 101), .int m_lift, .int m_blank, .ref (ad 102), .int m_fm, .int m_at, .int m_pl, .int m_end, .ref (ad 103), .ref (ad 104), .ref (ad 105), .ref (ad 106), .ref (ad 107), .ref (ad 108), .int m_seed]) → C 89 = aI g 12 m_down → C 93 = aI g 12 m_flow → C 98 = aI g 24 m_rain → lv_has ls 6 [(0, .ref (ad 86)), (1, .int p0), (2, .int p1), (3, .int q1), (4, .int x2), (5, .int x3)] → LX11_flowOf_12 m_flow q1 ko n x2 x3 = some rr → W p l e (headSpec wsX11_flowOf rmX11_flowOf).room s m args below meth c H locs 0 0 QQ (F0 m 12 ls []) := by
    intro ko hko n
    induction n with
    | zero =>
      intro x2 x3 C H locs ls hP hS h86 h89 h93 h98 hl hf
      rw [LX11_flowOf_12_z] at hf
      cases hf
    | succ n ih =>
      intro x2 x3 C H locs ls hP hS h86 h89 h93 h98 hl hf
      rw [LX11_flowOf_12_s] at hf
      refine lv_iload hx hb dX11_flowOf_12 (lv_at hl 5 rfl) ?_
      refine lv_bipush (v := 12) hx hb dX11_flowOf_14 (by decide) ?_
      refine lv_icmp_ge (tgt := 50) hx hb dX11_flowOf_16 (by decide) (fun c6 => ?_) (fun c6 => ?_)
      · have hf := it_e c6 hf
        exact hko x2 x3 C H locs ls hP hS h86 h89 h93 h98 (lv_sub hl [0, 1, 2, 3, 4, 5] rfl) hf
      · have hf := ie_e c6 hf
        refine lv_iload hx hb dX11_flowOf_19 (lv_at hl 4 rfl) ?_
        refine lv_iload_n hx hb dX11_flowOf_21 rfl (lv_at hl 3 rfl) ?_
        refine lv_iload hx hb dX11_flowOf_22 (lv_at hl 5 rfl) ?_
        obtain ⟨q7, hq7, hf⟩ := bd_e hf
        refine k_iR (va_runS (As := [.int q1, .int x3]) (rest := [.int x2]) ⟨hx, hb, hml, hown, hts⟩ (c_X11_has (l := l) (sz := H.size) (p0 := q1) (p1 := x3) hq7) (va_cwS 2 hts gX11_flowOf_X11_has rfl rfl rfl (by decide +kernel) ⟨Nat.le_of_ble_eq_true rfl, Nat.le_of_ble_eq_true rfl⟩) preS0 rfl rfl hl.1 rfl (lv_room (Nat.le_of_ble_eq_true rfl)) dX11_flowOf_24 ⟨Nat.le_of_ble_eq_true rfl, Nat.le_of_ble_eq_true rfl⟩) hA hP hS (fun H locs hP hS hbz_q7 => ?_)
        obtain ⟨q8, htq8, hf⟩ := bd_e hf
        have jnq8 : ∀ (C : Nat → va_E) (H : Heap) (locs : List Loc) (ls : Array Slot), va_P D vwCl (wd N ad C) H → va_S (An s.heap.size) s.heap H locs → C 86 = .inr (11, [.ref (ad 87), .int m_len, .ref (ad 88), .int m_rm, .int m_there, .ref (ad 89), .ref (ad 90), .ref (ad 91), .ref (ad 92), .ref (ad 93), .ref (ad 94), .ref (ad 95), .ref (ad 96), .ref (ad 97), .ref (ad 98), .ref (ad 99), .ref (ad 100), .ref (ad 101), .int m_lift, .int m_blank, .ref (ad 102), .int m_fm, .int m_at, .int m_pl, .int m_end, .ref (ad 103), .ref (ad 104), .ref (ad 105), .ref (ad 106), .ref (ad 107), .ref (ad 108), .int m_seed]) → C 89 = aI g 12 m_down → C 93 = aI g 12 m_flow → C 98 = aI g 24 m_rain → lv_has ls 6 [(0, .ref (ad 86)), (1, .int p0), (2, .int p1), (3, .int q1), (4, .int x2), (5, .int x3)] → W p l e (headSpec wsX11_flowOf rmX11_flowOf).room s m args below meth c H locs 0 0 QQ (F0 m 41 ls [.int q8, .int x2]) := by
          intro C H locs ls hP hS h86 h89 h93 h98 hl
          refine lv_iadd hx hb dX11_flowOf_41 ?_
          obtain ⟨x9, ex9, hf⟩ := lt_e hf
          refine tp_i ex9 ?_
          refine lv_istore (lv' := [(4, .int x9), (0, .ref (ad 86)), (1, .int p0), (2, .int p1), (3, .int q1), (5, .int x3)]) hx hb dX11_flowOf_42 hl (by decide) rfl (fun ls hl => ?_)
          obtain ⟨x10, ex10, hf⟩ := lt_e hf
          refine lv_iinc (v := x10) (lv' := [(5, .int x10), (4, .int x9), (0, .ref (ad 86)), (1, .int p0), (2, .int p1), (3, .int q1)]) hx hb dX11_flowOf_44 hl (k := 5) rfl (by rw [ex10]; rfl) (by decide) rfl (fun ls hl => ?_)
          refine lv_goto (tgt := 12) hx hb dX11_flowOf_47 (by decide) ?_
          exact ih x9 x10 C H locs ls hP hS h86 h89 h93 h98 (lv_sub hl [2, 3, 4, 5, 1, 0] rfl) hf
        clear hf
        have hf := htq8
        refine lv_if_eq (tgt := 40) hx hb dX11_flowOf_27 (by decide) (fun c11 => ?_) (fun c11 => ?_)
        · have hf := it_e c11 hf
          refine lv_iconst (v := 0) hx hb dX11_flowOf_40 (by decide) ?_
          obtain rfl := Option.some.inj hf
          exact jnq8 C H locs ls hP hS h86 h89 h93 h98 (lv_sub hl [0, 1, 2, 3, 4, 5] rfl)
        · have hf := ie_e c11 hf
          refine lv_aload_n hx hb dX11_flowOf_30 rfl (lv_at hl 0 rfl) ?_
          refine r_get (own := RX11) (T := TX11) (n := 32) (ci := 11) (v := .ref (ad 93)) hx hb hts nX11 hown hK hP (by omega) h86 rfl 9 (by decide) k0 rfl dX11_flowOf_31 ?_
          refine lv_iload hx hb dX11_flowOf_34 (lv_at hl 5 rfl) ?_
          obtain ⟨i13, x12, ex12, hf⟩ := ri_e hf
          refine r_iald hx hb hK hP (by omega) h93 i13 dX11_flowOf_36 ex12 ?_
          refine lv_goto (tgt := 41) hx hb dX11_flowOf_37 (by decide) ?_
          obtain rfl := Option.some.inj hf
          exact jnq8 C H locs ls hP hS h86 h89 h93 h98 (lv_sub hl [0, 1, 2, 3, 4, 5] rfl)
  refine key12 _ (fun x4 x5 C H locs ls hP hS h86 h89 h93 h98 hl hf => ?_) FU 0 0 C H locs ls hP hS h86 h89 h93 h98 (lv_sub hl [3, 4, 5, 2, 1, 0] rfl) hf
  refine lv_iload hx hb dX11_flowOf_50 (lv_at hl 4 rfl) ?_
  refine lv_bipush (v := 10) hx hb dX11_flowOf_52 (by decide) ?_
  refine lv_aload_n hx hb dX11_flowOf_54 rfl (lv_at hl 0 rfl) ?_
  refine r_get (own := RX11) (T := TX11) (n := 32) (ci := 11) (v := .ref (ad 98)) hx hb hts nX11 hown hK hP (by omega) h86 rfl 14 (by decide) k2 rfl dX11_flowOf_55 ?_
  refine lv_iload_n hx hb dX11_flowOf_58 rfl (lv_at hl 2 rfl) ?_
  obtain ⟨i15, x14, ex14, hf⟩ := ri_e hf
  refine r_iald hx hb hK hP (by omega) h98 i15 dX11_flowOf_59 ex14 ?_
  refine lv_iadd hx hb dX11_flowOf_60 ?_
  refine lv_imul hx hb dX11_flowOf_61 ?_
  refine lv_bipush (v := 10) hx hb dX11_flowOf_62 (by decide) ?_
  obtain ⟨z16, hf⟩ := nz_e hf
  refine lv_idiv hx hb dX11_flowOf_64 z16 ?_
  obtain ⟨x17, ex17, hf⟩ := lt_e hf
  refine tp_i ex17 ?_
  refine lv_istore (lv' := [(5, .int x17), (0, .ref (ad 86)), (1, .int p0), (2, .int p1), (3, .int q1), (4, .int x4)]) hx hb dX11_flowOf_65 hl (by decide) rfl (fun ls hl => ?_)
  refine lv_iload hx hb dX11_flowOf_67 (lv_at hl 0 rfl) ?_
  refine lv_iconst (v := 1) hx hb dX11_flowOf_69 (by decide) ?_
  refine lv_icmp_ge (tgt := 77) hx hb dX11_flowOf_70 (by decide) (fun c18 => ?_) (fun c18 => ?_)
  · have hf := it_e c18 hf
    refine lv_iload hx hb dX11_flowOf_77 (lv_at hl 0 rfl) ?_
    obtain rfl := Option.some.inj hf
    rw [← hQ]
    exact e_iR hx hb hr rfl (tP_i _) hS hlocks dX11_flowOf_79
  · have hf := ie_e c18 hf
    refine lv_iconst (v := 1) hx hb dX11_flowOf_73 (by decide) ?_
    refine lv_goto (tgt := 79) hx hb dX11_flowOf_74 (by decide) ?_
    obtain rfl := Option.some.inj hf
    rw [← hQ]
    exact e_iR hx hb hr rfl (tP_i _) hS hlocks dX11_flowOf_79

def f_X11_flow (p0 : Int32) (p1 : Int32) (m_down : Nat → Int32) (m_flow : Nat → Int32) (m_rain : Nat → Int32) (m_there : Int32) : Option (Int32) :=
  (f_X11_isNode p0 m_there).bind fun q1 =>
  if q1 = 0 then
    some ((-2))
  else
    (f_X11_in (Int32.toInt64 p1) (0 : Int64) (23 : Int64)).bind fun q3 =>
    if q3 = 0 then
      some ((-3))
    else
      (f_X11_flowOf p0 p1 m_down m_flow m_rain m_there).bind fun q5 =>
      some (q5)
abbrev rmX11_flow : Room := { frames := 3, cells := 0, slots := 0, locals := 71 }
set_option maxHeartbeats 4000000 in
set_option maxRecDepth 100000 in
theorem c_X11_flow {l : Launch} {D : va_G} {g : Nat → ClassId} {N : Nat} {ad : Nat → Nat} {C : Nat → va_E} {sz : Nat} {m_len : Int32} {m_rm : Int32} {m_there : Int32} {m_lift : Int32} {m_blank : Int32} {m_fm : Int32} {m_at : Int32} {m_pl : Int32} {m_end : Int32} {m_seed : Int32} {m_down : Nat → Int32} {m_flow : Nat → Int32} {m_rain : Nat → Int32} {p0 : Int32} {p1 : Int32} {rr : Int32} (hN : 109 ≤ N) (h86 : C 86 = .inr (11, [.ref (ad 87), .int m_len, .ref (ad 88), .int m_rm, .int m_there, .ref (ad 89), .ref (ad 90), .ref (ad 91), .ref (ad 92), .ref (ad 93), .ref (ad 94), .ref (ad 95), .ref (ad 96), .ref (ad 97), .ref (ad 98), .ref (ad 99), .ref (ad 100), .ref (ad 101), .int m_lift, .int m_blank, .ref (ad 102), .int m_fm, .int m_at, .int m_pl, .int m_end, .ref (ad 103), .ref (ad 104), .ref (ad 105), .ref (ad 106), .ref (ad 107), .ref (ad 108), .int m_seed])) (h89 : C 89 = aI g 12 m_down) (h93 : C 93 = aI g 12 m_flow) (h98 : C 98 = aI g 24 m_rain) (hf : f_X11_flow p0 p1 m_down m_flow m_rain m_there = some rr) : Met l yX11_flow wsX11_flow rmX11_flow (PcW D g N ad C sz [.ref (ad 86), .int p0, .int p1]) (QiR sz tP rr) 0 0 (An sz) := by
  refine Met.ofW (cc := cX11_flow) (maxL := 3) (ret := (some .int)) (by decide) rfl ?_
  intro p e s m args below meth c s₁ B hml hv
  obtain ⟨hav, hsz, hK, hP⟩ := hv
  subst hsz
  have hx := B.exec
  have hb := B.bytes
  have hr := B.returns
  have hts := atoms_spec (ws := wsX11_flow) B.pre
  have hown : s.vm.findClass RX11 = some m.cls := findClass_of_methodNamed B.named
  have hlocks := B.notSynchronized
  generalize hQ : MQ below (QiR s.heap.size tP rr) args s 0 0 (An s.heap.size) = QQ
  have hS : va_S (An s.heap.size) s.heap s.heap [] := va_S.rf
  have hA : ∀ q, s.heap.size ≤ q → (An s.heap.size) q := fun q h => h
  have k0 := hts (.constantLong RX11 175 (23)) (List.mem_of_getElem? (i := 1) rfl)
  have hE := lg_entry_eq m [.ref (ad 86), .int p0, .int p1] 3
  rw [← hav] at hE
  rw [hE]
  have hl := lv_entry [.ref (ad 86), .int p0, .int p1] (n := 3) (Nat.le_of_ble_eq_true rfl)
  generalize (lg_sl [.ref (ad 86), .int p0, .int p1] ++ List.replicate (3 - (lg_sl [.ref (ad 86), .int p0, .int p1]).length) Slot.unset).toArray = ls at hl ⊢
  have hl : lv_has ls 3 [(0, .ref (ad 86)), (1, .int p0), (2, .int p1)] := hl
  clear hE
  unfold f_X11_flow at hf
  suffices hgo : ∀ (H : Heap) (locs : List Loc), va_P D vwCl (wd N ad C) H → va_S (An s.heap.size) s.heap H locs → W p l e (headSpec wsX11_flow rmX11_flow).room s m args below meth c H locs 0 0 QQ (F0 m 0 ls []) from hgo s.heap [] hP hS
  clear hS hP
  intro H locs hP hS
  refine lv_aload_n hx hb dX11_flow_0 rfl (lv_at hl 0 rfl) ?_
  refine lv_iload_n hx hb dX11_flow_1 rfl (lv_at hl 1 rfl) ?_
  obtain ⟨q1, hq1, hf⟩ := bd_e hf
  refine k_iR (va_runV (C := RX11) (As := [.int p0]) (rest := []) ⟨hx, hb, hml, hown, hts⟩ (c_X11_isNode (l := l) (sz := H.size) (p0 := p0) hN h86 hq1) (cwV 1 hts gX11_flow_X11_isNode rfl rfl rfl (by decide +kernel) ⟨Nat.le_of_ble_eq_true rfl, Nat.le_of_ble_eq_true rfl⟩) (preV_of hK hP (by omega) h86 rfl) rfl rfl hl.1 rfl (lv_room (Nat.le_of_ble_eq_true rfl)) dX11_flow_2 ⟨Nat.le_of_ble_eq_true rfl, Nat.le_of_ble_eq_true rfl⟩) hA hP hS (fun H locs hP hS hbz_q1 => ?_)
  refine lv_if_ne (tgt := 11) hx hb dX11_flow_5 (by decide) (fun c2 => ?_) (fun c2 => ?_)
  · have hf := ie_e c2 hf
    refine lv_iload_n hx hb dX11_flow_11 rfl (lv_at hl 2 rfl) ?_
    refine lv_i2l hx hb dX11_flow_12 rfl ?_
    refine lv_lconst (v := 0) hx hb dX11_flow_13 (by decide) ?_
    refine lv_ldc2 (own := RX11) hx hb hown k0 dX11_flow_14 ?_
    obtain ⟨q3, hq3, hf⟩ := bd_e hf
    refine k_iR (va_runS (As := [.long (Int32.toInt64 p1), .long (0 : Int64), .long (23 : Int64)]) (rest := []) ⟨hx, hb, hml, hown, hts⟩ (c_X11_in (l := l) (sz := H.size) (p0 := (Int32.toInt64 p1)) (p1 := (0 : Int64)) (p2 := (23 : Int64)) hq3) (va_cwS 3 hts gX11_flow_X11_in rfl rfl rfl (by decide +kernel) ⟨Nat.le_of_ble_eq_true rfl, Nat.le_of_ble_eq_true rfl⟩) preS0 rfl rfl hl.1 rfl (lv_room (Nat.le_of_ble_eq_true rfl)) dX11_flow_17 ⟨Nat.le_of_ble_eq_true rfl, Nat.le_of_ble_eq_true rfl⟩) hA hP hS (fun H locs hP hS hbz_q3 => ?_)
    refine lv_if_eq (tgt := 32) hx hb dX11_flow_20 (by decide) (fun c4 => ?_) (fun c4 => ?_)
    · have hf := it_e c4 hf
      refine lv_bipush (v := (-3)) hx hb dX11_flow_32 (by decide) ?_
      obtain rfl := Option.some.inj hf
      rw [← hQ]
      exact e_iR hx hb hr rfl (tP_i _) hS hlocks dX11_flow_34
    · have hf := ie_e c4 hf
      refine lv_aload_n hx hb dX11_flow_23 rfl (lv_at hl 0 rfl) ?_
      refine lv_iload_n hx hb dX11_flow_24 rfl (lv_at hl 1 rfl) ?_
      refine lv_iload_n hx hb dX11_flow_25 rfl (lv_at hl 2 rfl) ?_
      obtain ⟨q5, hq5, hf⟩ := bd_e hf
      refine k_iR (va_runV (C := RX11) (As := [.int p0, .int p1]) (rest := []) ⟨hx, hb, hml, hown, hts⟩ (c_X11_flowOf (l := l) (sz := H.size) (p0 := p0) (p1 := p1) hN h86 h89 h93 h98 hq5) (cwV 2 hts gX11_flow_X11_flowOf rfl rfl rfl (by decide +kernel) ⟨Nat.le_of_ble_eq_true rfl, Nat.le_of_ble_eq_true rfl⟩) (preV_of hK hP (by omega) h86 rfl) rfl rfl hl.1 rfl (lv_room (Nat.le_of_ble_eq_true rfl)) dX11_flow_26 ⟨Nat.le_of_ble_eq_true rfl, Nat.le_of_ble_eq_true rfl⟩) hA hP hS (fun H locs hP hS hbz_q5 => ?_)
      refine lv_goto (tgt := 34) hx hb dX11_flow_29 (by decide) ?_
      obtain rfl := Option.some.inj hf
      rw [← hQ]
      exact e_iR hx hb hr rfl (tP_i _) hS hlocks dX11_flow_34
  · have hf := it_e c2 hf
    refine lv_bipush (v := (-2)) hx hb dX11_flow_8 (by decide) ?_
    obtain rfl := Option.some.inj hf
    rw [← hQ]
    exact e_iR hx hb hr rfl (tP_i _) hS hlocks dX11_flow_10

def LX11_comesOf_25 (p4 : Int32) (m_down : Nat → Int32) (m_min : Nat → Int32) (m_gone : Nat → Int32) (ko : Int32 → Int32 → Int32 → Option (Int32)) : Nat → Int32 → Int32 → Int32 → Option (Int32)
  | 0, _, _, _ => none
  | n + 1, x4, x5, x6 =>
    if x6 = p4 then
      ko x4 x5 x6
    else
      ri m_min 12 (x6) fun x11 =>
      lt ((x4 - x11) : Int32) fun x13 =>
      ri m_gone 12 (x6) fun x14 =>
      nz (100) <|
      lt (((x5 * (100 - x14)) / 100) : Int32) fun x17 =>
      ri m_down 12 (x6) fun x18 =>
      LX11_comesOf_25 p4 m_down m_min m_gone ko n x13 x17 x18
theorem LX11_comesOf_25_z (p4 : Int32) (m_down : Nat → Int32) (m_min : Nat → Int32) (m_gone : Nat → Int32) (ko : Int32 → Int32 → Int32 → Option (Int32)) (x4 : Int32) (x5 : Int32) (x6 : Int32) : LX11_comesOf_25 p4 m_down m_min m_gone ko 0 x4 x5 x6 = none := rfl
theorem LX11_comesOf_25_s (p4 : Int32) (m_down : Nat → Int32) (m_min : Nat → Int32) (m_gone : Nat → Int32) (ko : Int32 → Int32 → Int32 → Option (Int32)) (n : Nat) (x4 : Int32) (x5 : Int32) (x6 : Int32) : LX11_comesOf_25 p4 m_down m_min m_gone ko (n + 1) x4 x5 x6 =
    if x6 = p4 then
      ko x4 x5 x6
    else
      ri m_min 12 (x6) fun x11 =>
      lt ((x4 - x11) : Int32) fun x13 =>
      ri m_gone 12 (x6) fun x14 =>
      nz (100) <|
      lt (((x5 * (100 - x14)) / 100) : Int32) fun x17 =>
      ri m_down 12 (x6) fun x18 =>
      LX11_comesOf_25 p4 m_down m_min m_gone ko n x13 x17 x18 := rfl
def f_X11_comesOf (p0 : Int32) (p1 : Int32) (p2 : Int32) (p3 : Int32) (p4 : Int32) (p5 : Int32) (m_down : Nat → Int32) (m_min : Nat → Int32) (m_gone : Nat → Int32) : Option (Int32) :=
  (f_X11_wayOf p0 m_down).bind fun q1 =>
  (f_X11_has q1 p4).bind fun q2 =>
  if q2 = 0 then
    some (0)
  else
    LX11_comesOf_25 p4 m_down m_min m_gone (fun x7 x8 x9 =>
      if x7 < 0 then
        some (0)
      else
        nz (60) <|
        if (x7 / 60) < p2 then
          some (0)
        else
          nz (60) <|
          if (x7 / 60) ≤ p3 then
            some (x8)
          else
            some (0)) FU p5 p1 p0
abbrev rmX11_comesOf : Room := { frames := 1, cells := 0, slots := 0, locals := 23 }
set_option maxHeartbeats 4000000 in
set_option maxRecDepth 100000 in
theorem c_X11_comesOf {l : Launch} {D : va_G} {g : Nat → ClassId} {N : Nat} {ad : Nat → Nat} {C : Nat → va_E} {sz : Nat} {m_len : Int32} {m_rm : Int32} {m_there : Int32} {m_lift : Int32} {m_blank : Int32} {m_fm : Int32} {m_at : Int32} {m_pl : Int32} {m_end : Int32} {m_seed : Int32} {m_down : Nat → Int32} {m_min : Nat → Int32} {m_gone : Nat → Int32} {p0 : Int32} {p1 : Int32} {p2 : Int32} {p3 : Int32} {p4 : Int32} {p5 : Int32} {rr : Int32} (hN : 109 ≤ N) (h86 : C 86 = .inr (11, [.ref (ad 87), .int m_len, .ref (ad 88), .int m_rm, .int m_there, .ref (ad 89), .ref (ad 90), .ref (ad 91), .ref (ad 92), .ref (ad 93), .ref (ad 94), .ref (ad 95), .ref (ad 96), .ref (ad 97), .ref (ad 98), .ref (ad 99), .ref (ad 100), .ref (ad 101), .int m_lift, .int m_blank, .ref (ad 102), .int m_fm, .int m_at, .int m_pl, .int m_end, .ref (ad 103), .ref (ad 104), .ref (ad 105), .ref (ad 106), .ref (ad 107), .ref (ad 108), .int m_seed])) (h89 : C 89 = aI g 12 m_down) (h90 : C 90 = aI g 12 m_min) (h92 : C 92 = aI g 12 m_gone) (hf : f_X11_comesOf p0 p1 p2 p3 p4 p5 m_down m_min m_gone = some rr) : Met l yX11_comesOf wsX11_comesOf rmX11_comesOf (PcW D g N ad C sz [.ref (ad 86), .int p0, .int p1, .int p2, .int p3, .int p4, .int p5]) (QiR sz tP rr) 0 0 (An sz) := by
  refine Met.ofW (cc := cX11_comesOf) (maxL := 10) (ret := (some .int)) (by decide) rfl ?_
  intro p e s m args below meth c s₁ B hml hv
  obtain ⟨hav, hsz, hK, hP⟩ := hv
  subst hsz
  have hx := B.exec
  have hb := B.bytes
  have hr := B.returns
  have hts := atoms_spec (ws := wsX11_comesOf) B.pre
  have hown : s.vm.findClass RX11 = some m.cls := findClass_of_methodNamed B.named
  have hlocks := B.notSynchronized
  generalize hQ : MQ below (QiR s.heap.size tP rr) args s 0 0 (An s.heap.size) = QQ
  have hS : va_S (An s.heap.size) s.heap s.heap [] := va_S.rf
  have hA : ∀ q, s.heap.size ≤ q → (An s.heap.size) q := fun q h => h
  have k0 := hts (.fieldLink RX11 23 "UpDrainModel" "minutes" "[I") (List.mem_of_getElem? (i := 1) rfl)
  have nX11 : ∀ w ∈ u_ws RX11 TX11 32, w ∈ wsX11_comesOf := fun _ h => List.mem_cons_of_mem _ (List.mem_append_right _ h)
  have k2 := hts (.fieldLink RX11 29 "UpDrainModel" "gone" "[I") (List.mem_of_getElem? (i := 2) rfl)
  have k3 := hts (.fieldLink RX11 20 "UpDrainModel" "down" "[I") (List.mem_of_getElem? (i := 3) rfl)
  have hE := lg_entry_eq m [.ref (ad 86), .int p0, .int p1, .int p2, .int p3, .int p4, .int p5] 10
  rw [← hav] at hE
  rw [hE]
  have hl := lv_entry [.ref (ad 86), .int p0, .int p1, .int p2, .int p3, .int p4, .int p5] (n := 10) (Nat.le_of_ble_eq_true rfl)
  generalize (lg_sl [.ref (ad 86), .int p0, .int p1, .int p2, .int p3, .int p4, .int p5] ++ List.replicate (10 - (lg_sl [.ref (ad 86), .int p0, .int p1, .int p2, .int p3, .int p4, .int p5]).length) Slot.unset).toArray = ls at hl ⊢
  have hl : lv_has ls 10 [(0, .ref (ad 86)), (1, .int p0), (2, .int p1), (3, .int p2), (4, .int p3), (5, .int p4), (6, .int p5)] := hl
  clear hE
  unfold f_X11_comesOf at hf
  suffices hgo : ∀ (H : Heap) (locs : List Loc), va_P D vwCl (wd N ad C) H → va_S (An s.heap.size) s.heap H locs → W p l e (headSpec wsX11_comesOf rmX11_comesOf).room s m args below meth c H locs 0 0 QQ (F0 m 0 ls []) from hgo s.heap [] hP hS
  clear hS hP
  intro H locs hP hS
  refine lv_aload_n hx hb dX11_comesOf_0 rfl (lv_at hl 0 rfl) ?_
  refine lv_iload_n hx hb dX11_comesOf_1 rfl (lv_at hl 1 rfl) ?_
  obtain ⟨q1, hq1, hf⟩ := bd_e hf
  refine k_iR (va_runV (C := RX11) (As := [.int p0]) (rest := []) ⟨hx, hb, hml, hown, hts⟩ (c_X11_wayOf (l := l) (sz := H.size) (p0 := p0) hN h86 h89 hq1) (cwV 1 hts gX11_comesOf_X11_wayOf rfl rfl rfl (by decide +kernel) ⟨Nat.le_of_ble_eq_true rfl, Nat.le_of_ble_eq_true rfl⟩) (preV_of hK hP (by omega) h86 rfl) rfl rfl hl.1 rfl (lv_room (Nat.le_of_ble_eq_true rfl)) dX11_comesOf_2 ⟨Nat.le_of_ble_eq_true rfl, Nat.le_of_ble_eq_true rfl⟩) hA hP hS (fun H locs hP hS hbz_q1 => ?_)
  refine lv_iload hx hb dX11_comesOf_5 (lv_at hl 5 rfl) ?_
  obtain ⟨q2, hq2, hf⟩ := bd_e hf
  refine k_iR (va_runS (As := [.int q1, .int p4]) (rest := []) ⟨hx, hb, hml, hown, hts⟩ (c_X11_has (l := l) (sz := H.size) (p0 := q1) (p1 := p4) hq2) (va_cwS 2 hts gX11_comesOf_X11_has rfl rfl rfl (by decide +kernel) ⟨Nat.le_of_ble_eq_true rfl, Nat.le_of_ble_eq_true rfl⟩) preS0 rfl rfl hl.1 rfl (lv_room (Nat.le_of_ble_eq_true rfl)) dX11_comesOf_7 ⟨Nat.le_of_ble_eq_true rfl, Nat.le_of_ble_eq_true rfl⟩) hA hP hS (fun H locs hP hS hbz_q2 => ?_)
  refine lv_if_ne (tgt := 15) hx hb dX11_comesOf_10 (by decide) (fun c3 => ?_) (fun c3 => ?_)
  · have hf := ie_e c3 hf
    refine lv_iload hx hb dX11_comesOf_15 (lv_at hl 6 rfl) ?_
    refine lv_istore (lv' := [(7, .int p5), (0, .ref (ad 86)), (1, .int p0), (2, .int p1), (3, .int p2), (4, .int p3), (5, .int p4), (6, .int p5)]) hx hb dX11_comesOf_17 hl (by decide) rfl (fun ls hl => ?_)
    refine lv_iload_n hx hb dX11_comesOf_19 rfl (lv_at hl 3 rfl) ?_
    refine lv_istore (lv' := [(8, .int p1), (7, .int p5), (0, .ref (ad 86)), (1, .int p0), (2, .int p1), (3, .int p2), (4, .int p3), (5, .int p4), (6, .int p5)]) hx hb dX11_comesOf_20 hl (by decide) rfl (fun ls hl => ?_)
    refine lv_iload_n hx hb dX11_comesOf_22 rfl (lv_at hl 3 rfl) ?_
    refine lv_istore (lv' := [(9, .int p0), (8, .int p1), (7, .int p5), (0, .ref (ad 86)), (1, .int p0), (2, .int p1), (3, .int p2), (4, .int p3), (5, .int p4), (6, .int p5)]) hx hb dX11_comesOf_23 hl (by decide) rfl (fun ls hl => ?_)
    have key25 : ∀ (ko : Int32 → Int32 → Int32 → Option (Int32)), (∀ (x7 : Int32) (x8 : Int32) (x9 : Int32) (C : Nat → va_E) (H : Heap) (locs : List Loc) (ls : Array Slot), va_P D vwCl (wd N ad C) H → va_S (An s.heap.size) s.heap H locs → C 86 = .inr (11, [.ref (ad 87), .int m_len, .ref (ad 88), .int m_rm, .int m_there, .ref (ad 89), .ref (ad 90), .ref (ad 91), .ref (ad 92), .ref (ad 93), .ref (ad 94), .ref (ad 95), .ref (ad 96), .ref (ad 97), .ref (ad 98), .ref (ad 99), .ref (ad 100), .ref (ad 101), .int m_lift, .int m_blank, .ref (ad 102), .int m_fm, .int m_at, .int m_pl, .int m_end, .ref (ad 103), .ref (ad 104), .ref (ad 105), .ref (ad 106), .ref (ad 107), .ref (ad 108), .int m_seed]) → C 89 = aI g 12 m_down → C 90 = aI g 12 m_min → C 92 = aI g 12 m_gone → lv_has ls 10 [(0, .ref (ad 86)), (1, .int p0), (2, .int p1), (3, .int p2), (4, .int p3), (5, .int p4), (6, .int p5), (7, .int x7), (8, .int x8), (9, .int x9)] → ko x7 x8 x9 = some rr → W p l e (headSpec wsX11_comesOf rmX11_comesOf).room s m args below meth c H locs 0 0 QQ (F0 m 74 ls [])) → ∀ (n : Nat) (x4 : Int32) (x5 : Int32) (x6 : Int32) (C : Nat → va_E) (H : Heap) (locs : List Loc) (ls : Array Slot), va_P D vwCl (wd N ad C) H → va_S (An s.heap.size) s.heap H locs → C 86 = .inr (11, [.ref (ad 87), .int m_len, .ref (ad 88), .int m_rm, .int m_there, .ref (ad 89), .ref (ad 90), .ref (ad 91), .ref (ad 92), .ref (ad 93), .ref (ad 94), .ref (ad 95), .ref (ad 96), .ref (ad 97), .ref (ad 98), .ref (ad 99), .ref (ad 100), .ref (ad 101), .int m_lift, .int m_blank, .ref (ad 102), .int m_fm, .int m_at, .int m_pl, .int m_end, .ref (ad 103), .ref (ad 104), .ref (ad 105), .ref (ad 106), .ref (ad 107), .ref (ad 108), .int m_seed]) → C 89 = aI g 12 m_down → C 90 = aI g 12 m_min → C 92 = aI g 12 m_gone → lv_has ls 10 [(0, .ref (ad 86)), (1, .int p0), (2, .int p1), (3, .int p2), (4, .int p3), (5, .int p4), (6, .int p5), (7, .int x4), (8, .int x5), (9, .int x6)] → LX11_comesOf_25 p4 m_down m_min m_gone ko n x4 x5 x6 = some rr → W p l e (headSpec wsX11_comesOf rmX11_comesOf).room s m args below meth c H locs 0 0 QQ (F0 m 25 ls []) := by
      intro ko hko n
      induction n with
      | zero =>
        intro x4 x5 x6 C H locs ls hP hS h86 h89 h90 h92 hl hf
        rw [LX11_comesOf_25_z] at hf
        cases hf
      | succ n ih =>
        intro x4 x5 x6 C H locs ls hP hS h86 h89 h90 h92 hl hf
        rw [LX11_comesOf_25_s] at hf
        refine lv_iload hx hb dX11_comesOf_25 (lv_at hl 9 rfl) ?_
        refine lv_iload hx hb dX11_comesOf_27 (lv_at hl 5 rfl) ?_
        refine lv_icmp_eq (tgt := 74) hx hb dX11_comesOf_29 (by decide) (fun c10 => ?_) (fun c10 => ?_)
        · have hf := it_e c10 hf
          exact hko x4 x5 x6 C H locs ls hP hS h86 h89 h90 h92 (lv_sub hl [0, 1, 2, 3, 4, 5, 6, 7, 8, 9] rfl) hf
        · have hf := ie_e c10 hf
          refine lv_iload hx hb dX11_comesOf_32 (lv_at hl 7 rfl) ?_
          refine lv_aload_n hx hb dX11_comesOf_34 rfl (lv_at hl 0 rfl) ?_
          refine r_get (own := RX11) (T := TX11) (n := 32) (ci := 11) (v := .ref (ad 90)) hx hb hts nX11 hown hK hP (by omega) h86 rfl 6 (by decide) k0 rfl dX11_comesOf_35 ?_
          refine lv_iload hx hb dX11_comesOf_38 (lv_at hl 9 rfl) ?_
          obtain ⟨i12, x11, ex11, hf⟩ := ri_e hf
          refine r_iald hx hb hK hP (by omega) h90 i12 dX11_comesOf_40 ex11 ?_
          refine lv_isub hx hb dX11_comesOf_41 ?_
          obtain ⟨x13, ex13, hf⟩ := lt_e hf
          refine tp_i ex13 ?_
          refine lv_istore (lv' := [(7, .int x13), (0, .ref (ad 86)), (1, .int p0), (2, .int p1), (3, .int p2), (4, .int p3), (5, .int p4), (6, .int p5), (8, .int x5), (9, .int x6)]) hx hb dX11_comesOf_42 hl (by decide) rfl (fun ls hl => ?_)
          refine lv_iload hx hb dX11_comesOf_44 (lv_at hl 8 rfl) ?_
          refine lv_bipush (v := 100) hx hb dX11_comesOf_46 (by decide) ?_
          refine lv_aload_n hx hb dX11_comesOf_48 rfl (lv_at hl 1 rfl) ?_
          refine r_get (own := RX11) (T := TX11) (n := 32) (ci := 11) (v := .ref (ad 92)) hx hb hts nX11 hown hK hP (by omega) h86 rfl 8 (by decide) k2 rfl dX11_comesOf_49 ?_
          refine lv_iload hx hb dX11_comesOf_52 (lv_at hl 9 rfl) ?_
          obtain ⟨i15, x14, ex14, hf⟩ := ri_e hf
          refine r_iald hx hb hK hP (by omega) h92 i15 dX11_comesOf_54 ex14 ?_
          refine lv_isub hx hb dX11_comesOf_55 ?_
          refine lv_imul hx hb dX11_comesOf_56 ?_
          refine lv_bipush (v := 100) hx hb dX11_comesOf_57 (by decide) ?_
          obtain ⟨z16, hf⟩ := nz_e hf
          refine lv_idiv hx hb dX11_comesOf_59 z16 ?_
          obtain ⟨x17, ex17, hf⟩ := lt_e hf
          refine tp_i ex17 ?_
          refine lv_istore (lv' := [(8, .int x17), (7, .int x13), (0, .ref (ad 86)), (1, .int p0), (2, .int p1), (3, .int p2), (4, .int p3), (5, .int p4), (6, .int p5), (9, .int x6)]) hx hb dX11_comesOf_60 hl (by decide) rfl (fun ls hl => ?_)
          refine lv_aload_n hx hb dX11_comesOf_62 rfl (lv_at hl 2 rfl) ?_
          refine r_get (own := RX11) (T := TX11) (n := 32) (ci := 11) (v := .ref (ad 89)) hx hb hts nX11 hown hK hP (by omega) h86 rfl 5 (by decide) k3 rfl dX11_comesOf_63 ?_
          refine lv_iload hx hb dX11_comesOf_66 (lv_at hl 9 rfl) ?_
          obtain ⟨i19, x18, ex18, hf⟩ := ri_e hf
          refine r_iald hx hb hK hP (by omega) h89 i19 dX11_comesOf_68 ex18 ?_
          refine lv_istore (lv' := [(9, .int x18), (8, .int x17), (7, .int x13), (0, .ref (ad 86)), (1, .int p0), (2, .int p1), (3, .int p2), (4, .int p3), (5, .int p4), (6, .int p5)]) hx hb dX11_comesOf_69 hl (by decide) rfl (fun ls hl => ?_)
          refine lv_goto (tgt := 25) hx hb dX11_comesOf_71 (by decide) ?_
          exact ih x13 x17 x18 C H locs ls hP hS h86 h89 h90 h92 (lv_sub hl [3, 4, 5, 6, 7, 8, 9, 2, 1, 0] rfl) hf
    refine key25 _ (fun x7 x8 x9 C H locs ls hP hS h86 h89 h90 h92 hl hf => ?_) FU p5 p1 p0 C H locs ls hP hS h86 h89 h90 h92 (lv_sub hl [3, 4, 5, 6, 7, 8, 9, 2, 1, 0] rfl) hf
    refine lv_iload hx hb dX11_comesOf_74 (lv_at hl 7 rfl) ?_
    refine lv_if_lt (tgt := 98) hx hb dX11_comesOf_76 (by decide) (fun c20 => ?_) (fun c20 => ?_)
    · have hf := it_e c20 hf
      refine lv_iconst (v := 0) hx hb dX11_comesOf_98 (by decide) ?_
      refine lv_goto (tgt := 104) hx hb dX11_comesOf_99 (by decide) ?_
      obtain rfl := Option.some.inj hf
      rw [← hQ]
      exact e_iR hx hb hr rfl (tP_i _) hS hlocks dX11_comesOf_104
    · have hf := ie_e c20 hf
      refine lv_iload hx hb dX11_comesOf_79 (lv_at hl 7 rfl) ?_
      refine lv_bipush (v := 60) hx hb dX11_comesOf_81 (by decide) ?_
      obtain ⟨z21, hf⟩ := nz_e hf
      refine lv_idiv hx hb dX11_comesOf_83 z21 ?_
      refine lv_iload_n hx hb dX11_comesOf_84 rfl (lv_at hl 3 rfl) ?_
      refine lv_icmp_lt (tgt := 98) hx hb dX11_comesOf_85 (by decide) (fun c22 => ?_) (fun c22 => ?_)
      · have hf := it_e c22 hf
        refine lv_iconst (v := 0) hx hb dX11_comesOf_98 (by decide) ?_
        refine lv_goto (tgt := 104) hx hb dX11_comesOf_99 (by decide) ?_
        obtain rfl := Option.some.inj hf
        rw [← hQ]
        exact e_iR hx hb hr rfl (tP_i _) hS hlocks dX11_comesOf_104
      · have hf := ie_e c22 hf
        refine lv_iload hx hb dX11_comesOf_88 (lv_at hl 7 rfl) ?_
        refine lv_bipush (v := 60) hx hb dX11_comesOf_90 (by decide) ?_
        obtain ⟨z23, hf⟩ := nz_e hf
        refine lv_idiv hx hb dX11_comesOf_92 z23 ?_
        refine lv_iload hx hb dX11_comesOf_93 (lv_at hl 4 rfl) ?_
        refine lv_icmp_le (tgt := 102) hx hb dX11_comesOf_95 (by decide) (fun c24 => ?_) (fun c24 => ?_)
        · have hf := it_e c24 hf
          refine lv_iload hx hb dX11_comesOf_102 (lv_at hl 8 rfl) ?_
          obtain rfl := Option.some.inj hf
          rw [← hQ]
          exact e_iR hx hb hr rfl (tP_i _) hS hlocks dX11_comesOf_104
        · have hf := ie_e c24 hf
          refine lv_iconst (v := 0) hx hb dX11_comesOf_98 (by decide) ?_
          refine lv_goto (tgt := 104) hx hb dX11_comesOf_99 (by decide) ?_
          obtain rfl := Option.some.inj hf
          rw [← hQ]
          exact e_iR hx hb hr rfl (tP_i _) hS hlocks dX11_comesOf_104
  · have hf := it_e c3 hf
    refine lv_iconst (v := 0) hx hb dX11_comesOf_13 (by decide) ?_
    obtain rfl := Option.some.inj hf
    rw [← hQ]
    exact e_iR hx hb hr rfl (tP_i _) hS hlocks dX11_comesOf_14

def f_X11_told (p0 : Int32) (p1 : Int32) (p2 : Int32) (m_down : Nat → Int32) (m_min : Nat → Int32) (m_gone : Nat → Int32) (m_str : Nat → Int32) (m_from : Nat → Int32) (m_to : Nat → Int32) : Option (Int32) :=
  ri m_str 12 (p0) fun x1 =>
  ri m_from 12 (p0) fun x3 =>
  ri m_to 12 (p0) fun x5 =>
  (f_X11_comesOf p0 x1 x3 x5 p1 p2 m_down m_min m_gone).bind fun q7 =>
  some (q7)
abbrev rmX11_told : Room := { frames := 2, cells := 0, slots := 0, locals := 52 }
set_option maxHeartbeats 4000000 in
set_option maxRecDepth 100000 in
theorem c_X11_told {l : Launch} {D : va_G} {g : Nat → ClassId} {N : Nat} {ad : Nat → Nat} {C : Nat → va_E} {sz : Nat} {m_len : Int32} {m_rm : Int32} {m_there : Int32} {m_lift : Int32} {m_blank : Int32} {m_fm : Int32} {m_at : Int32} {m_pl : Int32} {m_end : Int32} {m_seed : Int32} {m_down : Nat → Int32} {m_min : Nat → Int32} {m_gone : Nat → Int32} {m_str : Nat → Int32} {m_from : Nat → Int32} {m_to : Nat → Int32} {p0 : Int32} {p1 : Int32} {p2 : Int32} {rr : Int32} (hN : 109 ≤ N) (h86 : C 86 = .inr (11, [.ref (ad 87), .int m_len, .ref (ad 88), .int m_rm, .int m_there, .ref (ad 89), .ref (ad 90), .ref (ad 91), .ref (ad 92), .ref (ad 93), .ref (ad 94), .ref (ad 95), .ref (ad 96), .ref (ad 97), .ref (ad 98), .ref (ad 99), .ref (ad 100), .ref (ad 101), .int m_lift, .int m_blank, .ref (ad 102), .int m_fm, .int m_at, .int m_pl, .int m_end, .ref (ad 103), .ref (ad 104), .ref (ad 105), .ref (ad 106), .ref (ad 107), .ref (ad 108), .int m_seed])) (h89 : C 89 = aI g 12 m_down) (h90 : C 90 = aI g 12 m_min) (h92 : C 92 = aI g 12 m_gone) (h95 : C 95 = aI g 12 m_str) (h96 : C 96 = aI g 12 m_from) (h97 : C 97 = aI g 12 m_to) (hf : f_X11_told p0 p1 p2 m_down m_min m_gone m_str m_from m_to = some rr) : Met l yX11_told wsX11_told rmX11_told (PcW D g N ad C sz [.ref (ad 86), .int p0, .int p1, .int p2]) (QiR sz tP rr) 0 0 (An sz) := by
  refine Met.ofW (cc := cX11_told) (maxL := 4) (ret := (some .int)) (by decide) rfl ?_
  intro p e s m args below meth c s₁ B hml hv
  obtain ⟨hav, hsz, hK, hP⟩ := hv
  subst hsz
  have hx := B.exec
  have hb := B.bytes
  have hr := B.returns
  have hts := atoms_spec (ws := wsX11_told) B.pre
  have hown : s.vm.findClass RX11 = some m.cls := findClass_of_methodNamed B.named
  have hlocks := B.notSynchronized
  generalize hQ : MQ below (QiR s.heap.size tP rr) args s 0 0 (An s.heap.size) = QQ
  have hS : va_S (An s.heap.size) s.heap s.heap [] := va_S.rf
  have hA : ∀ q, s.heap.size ≤ q → (An s.heap.size) q := fun q h => h
  have k0 := hts (.fieldLink RX11 38 "UpDrainModel" "strength" "[I") (List.mem_of_getElem? (i := 1) rfl)
  have nX11 : ∀ w ∈ u_ws RX11 TX11 32, w ∈ wsX11_told := fun _ h => List.mem_cons_of_mem _ (List.mem_append_right _ h)
  have k2 := hts (.fieldLink RX11 41 "UpDrainModel" "from" "[I") (List.mem_of_getElem? (i := 2) rfl)
  have k3 := hts (.fieldLink RX11 44 "UpDrainModel" "to" "[I") (List.mem_of_getElem? (i := 3) rfl)
  have hE := lg_entry_eq m [.ref (ad 86), .int p0, .int p1, .int p2] 4
  rw [← hav] at hE
  rw [hE]
  have hl := lv_entry [.ref (ad 86), .int p0, .int p1, .int p2] (n := 4) (Nat.le_of_ble_eq_true rfl)
  generalize (lg_sl [.ref (ad 86), .int p0, .int p1, .int p2] ++ List.replicate (4 - (lg_sl [.ref (ad 86), .int p0, .int p1, .int p2]).length) Slot.unset).toArray = ls at hl ⊢
  have hl : lv_has ls 4 [(0, .ref (ad 86)), (1, .int p0), (2, .int p1), (3, .int p2)] := hl
  clear hE
  unfold f_X11_told at hf
  suffices hgo : ∀ (H : Heap) (locs : List Loc), va_P D vwCl (wd N ad C) H → va_S (An s.heap.size) s.heap H locs → W p l e (headSpec wsX11_told rmX11_told).room s m args below meth c H locs 0 0 QQ (F0 m 0 ls []) from hgo s.heap [] hP hS
  clear hS hP
  intro H locs hP hS
  refine lv_aload_n hx hb dX11_told_0 rfl (lv_at hl 0 rfl) ?_
  refine lv_iload_n hx hb dX11_told_1 rfl (lv_at hl 1 rfl) ?_
  refine lv_aload_n hx hb dX11_told_2 rfl (lv_at hl 0 rfl) ?_
  refine r_get (own := RX11) (T := TX11) (n := 32) (ci := 11) (v := .ref (ad 95)) hx hb hts nX11 hown hK hP (by omega) h86 rfl 11 (by decide) k0 rfl dX11_told_3 ?_
  refine lv_iload_n hx hb dX11_told_6 rfl (lv_at hl 1 rfl) ?_
  obtain ⟨i2, x1, ex1, hf⟩ := ri_e hf
  refine r_iald hx hb hK hP (by omega) h95 i2 dX11_told_7 ex1 ?_
  refine lv_aload_n hx hb dX11_told_8 rfl (lv_at hl 0 rfl) ?_
  refine r_get (own := RX11) (T := TX11) (n := 32) (ci := 11) (v := .ref (ad 96)) hx hb hts nX11 hown hK hP (by omega) h86 rfl 12 (by decide) k2 rfl dX11_told_9 ?_
  refine lv_iload_n hx hb dX11_told_12 rfl (lv_at hl 1 rfl) ?_
  obtain ⟨i4, x3, ex3, hf⟩ := ri_e hf
  refine r_iald hx hb hK hP (by omega) h96 i4 dX11_told_13 ex3 ?_
  refine lv_aload_n hx hb dX11_told_14 rfl (lv_at hl 0 rfl) ?_
  refine r_get (own := RX11) (T := TX11) (n := 32) (ci := 11) (v := .ref (ad 97)) hx hb hts nX11 hown hK hP (by omega) h86 rfl 13 (by decide) k3 rfl dX11_told_15 ?_
  refine lv_iload_n hx hb dX11_told_18 rfl (lv_at hl 1 rfl) ?_
  obtain ⟨i6, x5, ex5, hf⟩ := ri_e hf
  refine r_iald hx hb hK hP (by omega) h97 i6 dX11_told_19 ex5 ?_
  refine lv_iload_n hx hb dX11_told_20 rfl (lv_at hl 2 rfl) ?_
  refine lv_iload_n hx hb dX11_told_21 rfl (lv_at hl 3 rfl) ?_
  obtain ⟨q7, hq7, hf⟩ := bd_e hf
  refine k_iR (va_runV (C := RX11) (As := [.int p0, .int x1, .int x3, .int x5, .int p1, .int p2]) (rest := []) ⟨hx, hb, hml, hown, hts⟩ (c_X11_comesOf (l := l) (sz := H.size) (p0 := p0) (p1 := x1) (p2 := x3) (p3 := x5) (p4 := p1) (p5 := p2) hN h86 h89 h90 h92 hq7) (cwV 6 hts gX11_told_X11_comesOf rfl rfl rfl (by decide +kernel) ⟨Nat.le_of_ble_eq_true rfl, Nat.le_of_ble_eq_true rfl⟩) (preV_of hK hP (by omega) h86 rfl) rfl rfl hl.1 rfl (lv_room (Nat.le_of_ble_eq_true rfl)) dX11_told_22 ⟨Nat.le_of_ble_eq_true rfl, Nat.le_of_ble_eq_true rfl⟩) hA hP hS (fun H locs hP hS hbz_q7 => ?_)
  obtain rfl := Option.some.inj hf
  rw [← hQ]
  exact e_iR hx hb hr rfl (tP_i _) hS hlocks dX11_told_25

def f_X11_thin (p0 : Int32) (p1 : Int32) (p2 : Int32) (m_down : Nat → Int32) (m_flow : Nat → Int32) (m_rain : Nat → Int32) (m_there : Int32) : Option (Int32) :=
  nz (60) <|
  (f_X11_flowOf p1 (p2 / 60) m_down m_flow m_rain m_there).bind fun q2 =>
  nz (q2) <|
  some (((1000 * p0) / q2))
abbrev rmX11_thin : Room := { frames := 3, cells := 0, slots := 0, locals := 71 }
set_option maxHeartbeats 4000000 in
set_option maxRecDepth 100000 in
theorem c_X11_thin {l : Launch} {D : va_G} {g : Nat → ClassId} {N : Nat} {ad : Nat → Nat} {C : Nat → va_E} {sz : Nat} {m_len : Int32} {m_rm : Int32} {m_there : Int32} {m_lift : Int32} {m_blank : Int32} {m_fm : Int32} {m_at : Int32} {m_pl : Int32} {m_end : Int32} {m_seed : Int32} {m_down : Nat → Int32} {m_flow : Nat → Int32} {m_rain : Nat → Int32} {p0 : Int32} {p1 : Int32} {p2 : Int32} {rr : Int32} (hN : 109 ≤ N) (h86 : C 86 = .inr (11, [.ref (ad 87), .int m_len, .ref (ad 88), .int m_rm, .int m_there, .ref (ad 89), .ref (ad 90), .ref (ad 91), .ref (ad 92), .ref (ad 93), .ref (ad 94), .ref (ad 95), .ref (ad 96), .ref (ad 97), .ref (ad 98), .ref (ad 99), .ref (ad 100), .ref (ad 101), .int m_lift, .int m_blank, .ref (ad 102), .int m_fm, .int m_at, .int m_pl, .int m_end, .ref (ad 103), .ref (ad 104), .ref (ad 105), .ref (ad 106), .ref (ad 107), .ref (ad 108), .int m_seed])) (h89 : C 89 = aI g 12 m_down) (h93 : C 93 = aI g 12 m_flow) (h98 : C 98 = aI g 24 m_rain) (hf : f_X11_thin p0 p1 p2 m_down m_flow m_rain m_there = some rr) : Met l yX11_thin wsX11_thin rmX11_thin (PcW D g N ad C sz [.ref (ad 86), .int p0, .int p1, .int p2]) (QiR sz tP rr) 0 0 (An sz) := by
  refine Met.ofW (cc := cX11_thin) (maxL := 4) (ret := (some .int)) (by decide) rfl ?_
  intro p e s m args below meth c s₁ B hml hv
  obtain ⟨hav, hsz, hK, hP⟩ := hv
  subst hsz
  have hx := B.exec
  have hb := B.bytes
  have hr := B.returns
  have hts := atoms_spec (ws := wsX11_thin) B.pre
  have hown : s.vm.findClass RX11 = some m.cls := findClass_of_methodNamed B.named
  have hlocks := B.notSynchronized
  generalize hQ : MQ below (QiR s.heap.size tP rr) args s 0 0 (An s.heap.size) = QQ
  have hS : va_S (An s.heap.size) s.heap s.heap [] := va_S.rf
  have hA : ∀ q, s.heap.size ≤ q → (An s.heap.size) q := fun q h => h
  have hE := lg_entry_eq m [.ref (ad 86), .int p0, .int p1, .int p2] 4
  rw [← hav] at hE
  rw [hE]
  have hl := lv_entry [.ref (ad 86), .int p0, .int p1, .int p2] (n := 4) (Nat.le_of_ble_eq_true rfl)
  generalize (lg_sl [.ref (ad 86), .int p0, .int p1, .int p2] ++ List.replicate (4 - (lg_sl [.ref (ad 86), .int p0, .int p1, .int p2]).length) Slot.unset).toArray = ls at hl ⊢
  have hl : lv_has ls 4 [(0, .ref (ad 86)), (1, .int p0), (2, .int p1), (3, .int p2)] := hl
  clear hE
  unfold f_X11_thin at hf
  suffices hgo : ∀ (H : Heap) (locs : List Loc), va_P D vwCl (wd N ad C) H → va_S (An s.heap.size) s.heap H locs → W p l e (headSpec wsX11_thin rmX11_thin).room s m args below meth c H locs 0 0 QQ (F0 m 0 ls []) from hgo s.heap [] hP hS
  clear hS hP
  intro H locs hP hS
  refine lv_sipush (v := 1000) hx hb dX11_thin_0 (by decide) ?_
  refine lv_iload_n hx hb dX11_thin_3 rfl (lv_at hl 1 rfl) ?_
  refine lv_imul hx hb dX11_thin_4 ?_
  refine lv_aload_n hx hb dX11_thin_5 rfl (lv_at hl 0 rfl) ?_
  refine lv_iload_n hx hb dX11_thin_6 rfl (lv_at hl 2 rfl) ?_
  refine lv_iload_n hx hb dX11_thin_7 rfl (lv_at hl 3 rfl) ?_
  refine lv_bipush (v := 60) hx hb dX11_thin_8 (by decide) ?_
  obtain ⟨z1, hf⟩ := nz_e hf
  refine lv_idiv hx hb dX11_thin_10 z1 ?_
  obtain ⟨q2, hq2, hf⟩ := bd_e hf
  refine k_iR (va_runV (C := RX11) (As := [.int p1, .int (p2 / 60)]) (rest := [.int (1000 * p0)]) ⟨hx, hb, hml, hown, hts⟩ (c_X11_flowOf (l := l) (sz := H.size) (p0 := p1) (p1 := (p2 / 60)) hN h86 h89 h93 h98 hq2) (cwV 2 hts gX11_thin_X11_flowOf rfl rfl rfl (by decide +kernel) ⟨Nat.le_of_ble_eq_true rfl, Nat.le_of_ble_eq_true rfl⟩) (preV_of hK hP (by omega) h86 rfl) rfl rfl hl.1 rfl (lv_room (Nat.le_of_ble_eq_true rfl)) dX11_thin_11 ⟨Nat.le_of_ble_eq_true rfl, Nat.le_of_ble_eq_true rfl⟩) hA hP hS (fun H locs hP hS hbz_q2 => ?_)
  obtain ⟨z3, hf⟩ := nz_e hf
  refine lv_idiv hx hb dX11_thin_14 z3 ?_
  obtain rfl := Option.some.inj hf
  rw [← hQ]
  exact e_iR hx hb hr rfl (tP_i _) hS hlocks dX11_thin_15

def f_X11_comes (p0 : Int32) (p1 : Int32) (p2 : Int32) (p3 : Int32) (m_down : Nat → Int32) (m_min : Nat → Int32) (m_gone : Nat → Int32) (m_flow : Nat → Int32) (m_str : Nat → Int32) (m_from : Nat → Int32) (m_to : Nat → Int32) (m_rain : Nat → Int32) (m_there : Int32) : Option (Int32) :=
  (f_X11_isNode p0 m_there).bind fun q1 =>
  if q1 = 0 then
    some ((-2))
  else
    (f_X11_isNode p1 m_there).bind fun q3 =>
    if q3 = 0 then
      some ((-2))
    else
      (f_X11_in (Int32.toInt64 p2) (0 : Int64) (1439 : Int64)).bind fun q5 =>
      if q5 = 0 then
        some ((-3))
      else
        (f_X11_in (Int32.toInt64 p3) (0 : Int64) (1 : Int64)).bind fun q7 =>
        if q7 = 0 then
          some ((-3))
        else
          (f_X11_told p0 p1 p2 m_down m_min m_gone m_str m_from m_to).bind fun q9 =>
          if p3 = 0 then
            some (q9)
          else
            (f_X11_thin q9 p1 p2 m_down m_flow m_rain m_there).bind fun q11 =>
            some (q11)
abbrev rmX11_comes : Room := { frames := 4, cells := 0, slots := 0, locals := 94 }
set_option maxHeartbeats 4000000 in
set_option maxRecDepth 100000 in
theorem c_X11_comes {l : Launch} {D : va_G} {g : Nat → ClassId} {N : Nat} {ad : Nat → Nat} {C : Nat → va_E} {sz : Nat} {m_len : Int32} {m_rm : Int32} {m_there : Int32} {m_lift : Int32} {m_blank : Int32} {m_fm : Int32} {m_at : Int32} {m_pl : Int32} {m_end : Int32} {m_seed : Int32} {m_down : Nat → Int32} {m_min : Nat → Int32} {m_gone : Nat → Int32} {m_flow : Nat → Int32} {m_str : Nat → Int32} {m_from : Nat → Int32} {m_to : Nat → Int32} {m_rain : Nat → Int32} {p0 : Int32} {p1 : Int32} {p2 : Int32} {p3 : Int32} {rr : Int32} (hN : 109 ≤ N) (h86 : C 86 = .inr (11, [.ref (ad 87), .int m_len, .ref (ad 88), .int m_rm, .int m_there, .ref (ad 89), .ref (ad 90), .ref (ad 91), .ref (ad 92), .ref (ad 93), .ref (ad 94), .ref (ad 95), .ref (ad 96), .ref (ad 97), .ref (ad 98), .ref (ad 99), .ref (ad 100), .ref (ad 101), .int m_lift, .int m_blank, .ref (ad 102), .int m_fm, .int m_at, .int m_pl, .int m_end, .ref (ad 103), .ref (ad 104), .ref (ad 105), .ref (ad 106), .ref (ad 107), .ref (ad 108), .int m_seed])) (h89 : C 89 = aI g 12 m_down) (h90 : C 90 = aI g 12 m_min) (h92 : C 92 = aI g 12 m_gone) (h93 : C 93 = aI g 12 m_flow) (h95 : C 95 = aI g 12 m_str) (h96 : C 96 = aI g 12 m_from) (h97 : C 97 = aI g 12 m_to) (h98 : C 98 = aI g 24 m_rain) (hf : f_X11_comes p0 p1 p2 p3 m_down m_min m_gone m_flow m_str m_from m_to m_rain m_there = some rr) : Met l yX11_comes wsX11_comes rmX11_comes (PcW D g N ad C sz [.ref (ad 86), .int p0, .int p1, .int p2, .int p3]) (QiR sz tP rr) 0 0 (An sz) := by
  refine Met.ofW (cc := cX11_comes) (maxL := 6) (ret := (some .int)) (by decide) rfl ?_
  intro p e s m args below meth c s₁ B hml hv
  obtain ⟨hav, hsz, hK, hP⟩ := hv
  subst hsz
  have hx := B.exec
  have hb := B.bytes
  have hr := B.returns
  have hts := atoms_spec (ws := wsX11_comes) B.pre
  have hown : s.vm.findClass RX11 = some m.cls := findClass_of_methodNamed B.named
  have hlocks := B.notSynchronized
  generalize hQ : MQ below (QiR s.heap.size tP rr) args s 0 0 (An s.heap.size) = QQ
  have hS : va_S (An s.heap.size) s.heap s.heap [] := va_S.rf
  have hA : ∀ q, s.heap.size ≤ q → (An s.heap.size) q := fun q h => h
  have k0 := hts (.constantLong RX11 184 (1439)) (List.mem_of_getElem? (i := 1) rfl)
  have hE := lg_entry_eq m [.ref (ad 86), .int p0, .int p1, .int p2, .int p3] 6
  rw [← hav] at hE
  rw [hE]
  have hl := lv_entry [.ref (ad 86), .int p0, .int p1, .int p2, .int p3] (n := 6) (Nat.le_of_ble_eq_true rfl)
  generalize (lg_sl [.ref (ad 86), .int p0, .int p1, .int p2, .int p3] ++ List.replicate (6 - (lg_sl [.ref (ad 86), .int p0, .int p1, .int p2, .int p3]).length) Slot.unset).toArray = ls at hl ⊢
  have hl : lv_has ls 6 [(0, .ref (ad 86)), (1, .int p0), (2, .int p1), (3, .int p2), (4, .int p3)] := hl
  clear hE
  unfold f_X11_comes at hf
  suffices hgo : ∀ (H : Heap) (locs : List Loc), va_P D vwCl (wd N ad C) H → va_S (An s.heap.size) s.heap H locs → W p l e (headSpec wsX11_comes rmX11_comes).room s m args below meth c H locs 0 0 QQ (F0 m 0 ls []) from hgo s.heap [] hP hS
  clear hS hP
  intro H locs hP hS
  refine lv_aload_n hx hb dX11_comes_0 rfl (lv_at hl 0 rfl) ?_
  refine lv_iload_n hx hb dX11_comes_1 rfl (lv_at hl 1 rfl) ?_
  obtain ⟨q1, hq1, hf⟩ := bd_e hf
  refine k_iR (va_runV (C := RX11) (As := [.int p0]) (rest := []) ⟨hx, hb, hml, hown, hts⟩ (c_X11_isNode (l := l) (sz := H.size) (p0 := p0) hN h86 hq1) (cwV 1 hts gX11_comes_X11_isNode rfl rfl rfl (by decide +kernel) ⟨Nat.le_of_ble_eq_true rfl, Nat.le_of_ble_eq_true rfl⟩) (preV_of hK hP (by omega) h86 rfl) rfl rfl hl.1 rfl (lv_room (Nat.le_of_ble_eq_true rfl)) dX11_comes_2 ⟨Nat.le_of_ble_eq_true rfl, Nat.le_of_ble_eq_true rfl⟩) hA hP hS (fun H locs hP hS hbz_q1 => ?_)
  refine lv_if_eq (tgt := 16) hx hb dX11_comes_5 (by decide) (fun c2 => ?_) (fun c2 => ?_)
  · have hf := it_e c2 hf
    refine lv_bipush (v := (-2)) hx hb dX11_comes_16 (by decide) ?_
    obtain rfl := Option.some.inj hf
    rw [← hQ]
    exact e_iR hx hb hr rfl (tP_i _) hS hlocks dX11_comes_18
  · have hf := ie_e c2 hf
    refine lv_aload_n hx hb dX11_comes_8 rfl (lv_at hl 0 rfl) ?_
    refine lv_iload_n hx hb dX11_comes_9 rfl (lv_at hl 2 rfl) ?_
    obtain ⟨q3, hq3, hf⟩ := bd_e hf
    refine k_iR (va_runV (C := RX11) (As := [.int p1]) (rest := []) ⟨hx, hb, hml, hown, hts⟩ (c_X11_isNode (l := l) (sz := H.size) (p0 := p1) hN h86 hq3) (cwV 1 hts gX11_comes_X11_isNode rfl rfl rfl (by decide +kernel) ⟨Nat.le_of_ble_eq_true rfl, Nat.le_of_ble_eq_true rfl⟩) (preV_of hK hP (by omega) h86 rfl) rfl rfl hl.1 rfl (lv_room (Nat.le_of_ble_eq_true rfl)) dX11_comes_10 ⟨Nat.le_of_ble_eq_true rfl, Nat.le_of_ble_eq_true rfl⟩) hA hP hS (fun H locs hP hS hbz_q3 => ?_)
    refine lv_if_ne (tgt := 19) hx hb dX11_comes_13 (by decide) (fun c4 => ?_) (fun c4 => ?_)
    · have hf := ie_e c4 hf
      refine lv_iload_n hx hb dX11_comes_19 rfl (lv_at hl 3 rfl) ?_
      refine lv_i2l hx hb dX11_comes_20 rfl ?_
      refine lv_lconst (v := 0) hx hb dX11_comes_21 (by decide) ?_
      refine lv_ldc2 (own := RX11) hx hb hown k0 dX11_comes_22 ?_
      obtain ⟨q5, hq5, hf⟩ := bd_e hf
      refine k_iR (va_runS (As := [.long (Int32.toInt64 p2), .long (0 : Int64), .long (1439 : Int64)]) (rest := []) ⟨hx, hb, hml, hown, hts⟩ (c_X11_in (l := l) (sz := H.size) (p0 := (Int32.toInt64 p2)) (p1 := (0 : Int64)) (p2 := (1439 : Int64)) hq5) (va_cwS 3 hts gX11_comes_X11_in rfl rfl rfl (by decide +kernel) ⟨Nat.le_of_ble_eq_true rfl, Nat.le_of_ble_eq_true rfl⟩) preS0 rfl rfl hl.1 rfl (lv_room (Nat.le_of_ble_eq_true rfl)) dX11_comes_25 ⟨Nat.le_of_ble_eq_true rfl, Nat.le_of_ble_eq_true rfl⟩) hA hP hS (fun H locs hP hS hbz_q5 => ?_)
      refine lv_if_eq (tgt := 42) hx hb dX11_comes_28 (by decide) (fun c6 => ?_) (fun c6 => ?_)
      · have hf := it_e c6 hf
        refine lv_bipush (v := (-3)) hx hb dX11_comes_42 (by decide) ?_
        obtain rfl := Option.some.inj hf
        rw [← hQ]
        exact e_iR hx hb hr rfl (tP_i _) hS hlocks dX11_comes_44
      · have hf := ie_e c6 hf
        refine lv_iload hx hb dX11_comes_31 (lv_at hl 4 rfl) ?_
        refine lv_i2l hx hb dX11_comes_33 rfl ?_
        refine lv_lconst (v := 0) hx hb dX11_comes_34 (by decide) ?_
        refine lv_lconst (v := 1) hx hb dX11_comes_35 (by decide) ?_
        obtain ⟨q7, hq7, hf⟩ := bd_e hf
        refine k_iR (va_runS (As := [.long (Int32.toInt64 p3), .long (0 : Int64), .long (1 : Int64)]) (rest := []) ⟨hx, hb, hml, hown, hts⟩ (c_X11_in (l := l) (sz := H.size) (p0 := (Int32.toInt64 p3)) (p1 := (0 : Int64)) (p2 := (1 : Int64)) hq7) (va_cwS 3 hts gX11_comes_X11_in rfl rfl rfl (by decide +kernel) ⟨Nat.le_of_ble_eq_true rfl, Nat.le_of_ble_eq_true rfl⟩) preS0 rfl rfl hl.1 rfl (lv_room (Nat.le_of_ble_eq_true rfl)) dX11_comes_36 ⟨Nat.le_of_ble_eq_true rfl, Nat.le_of_ble_eq_true rfl⟩) hA hP hS (fun H locs hP hS hbz_q7 => ?_)
        refine lv_if_ne (tgt := 45) hx hb dX11_comes_39 (by decide) (fun c8 => ?_) (fun c8 => ?_)
        · have hf := ie_e c8 hf
          refine lv_aload_n hx hb dX11_comes_45 rfl (lv_at hl 0 rfl) ?_
          refine lv_iload_n hx hb dX11_comes_46 rfl (lv_at hl 1 rfl) ?_
          refine lv_iload_n hx hb dX11_comes_47 rfl (lv_at hl 2 rfl) ?_
          refine lv_iload_n hx hb dX11_comes_48 rfl (lv_at hl 3 rfl) ?_
          obtain ⟨q9, hq9, hf⟩ := bd_e hf
          refine k_iR (va_runV (C := RX11) (As := [.int p0, .int p1, .int p2]) (rest := []) ⟨hx, hb, hml, hown, hts⟩ (c_X11_told (l := l) (sz := H.size) (p0 := p0) (p1 := p1) (p2 := p2) hN h86 h89 h90 h92 h95 h96 h97 hq9) (cwV 3 hts gX11_comes_X11_told rfl rfl rfl (by decide +kernel) ⟨Nat.le_of_ble_eq_true rfl, Nat.le_of_ble_eq_true rfl⟩) (preV_of hK hP (by omega) h86 rfl) rfl rfl hl.1 rfl (lv_room (Nat.le_of_ble_eq_true rfl)) dX11_comes_49 ⟨Nat.le_of_ble_eq_true rfl, Nat.le_of_ble_eq_true rfl⟩) hA hP hS (fun H locs hP hS hbz_q9 => ?_)
          refine lv_istore (lv' := [(5, .int q9), (0, .ref (ad 86)), (1, .int p0), (2, .int p1), (3, .int p2), (4, .int p3)]) hx hb dX11_comes_52 hl (by decide) rfl (fun ls hl => ?_)
          refine lv_iload hx hb dX11_comes_54 (lv_at hl 5 rfl) ?_
          refine lv_if_ne (tgt := 64) hx hb dX11_comes_56 (by decide) (fun c10 => ?_) (fun c10 => ?_)
          · have hf := ie_e c10 hf
            refine lv_aload_n hx hb dX11_comes_64 rfl (lv_at hl 1 rfl) ?_
            refine lv_iload hx hb dX11_comes_65 (lv_at hl 0 rfl) ?_
            refine lv_iload_n hx hb dX11_comes_67 rfl (lv_at hl 3 rfl) ?_
            refine lv_iload_n hx hb dX11_comes_68 rfl (lv_at hl 4 rfl) ?_
            obtain ⟨q11, hq11, hf⟩ := bd_e hf
            refine k_iR (va_runV (C := RX11) (As := [.int q9, .int p1, .int p2]) (rest := []) ⟨hx, hb, hml, hown, hts⟩ (c_X11_thin (l := l) (sz := H.size) (p0 := q9) (p1 := p1) (p2 := p2) hN h86 h89 h93 h98 hq11) (cwV 3 hts gX11_comes_X11_thin rfl rfl rfl (by decide +kernel) ⟨Nat.le_of_ble_eq_true rfl, Nat.le_of_ble_eq_true rfl⟩) (preV_of hK hP (by omega) h86 rfl) rfl rfl hl.1 rfl (lv_room (Nat.le_of_ble_eq_true rfl)) dX11_comes_69 ⟨Nat.le_of_ble_eq_true rfl, Nat.le_of_ble_eq_true rfl⟩) hA hP hS (fun H locs hP hS hbz_q11 => ?_)
            obtain rfl := Option.some.inj hf
            rw [← hQ]
            exact e_iR hx hb hr rfl (tP_i _) hS hlocks dX11_comes_72
          · have hf := it_e c10 hf
            refine lv_iload hx hb dX11_comes_59 (lv_at hl 0 rfl) ?_
            refine lv_goto (tgt := 72) hx hb dX11_comes_61 (by decide) ?_
            obtain rfl := Option.some.inj hf
            rw [← hQ]
            exact e_iR hx hb hr rfl (tP_i _) hS hlocks dX11_comes_72
        · have hf := it_e c8 hf
          refine lv_bipush (v := (-3)) hx hb dX11_comes_42 (by decide) ?_
          obtain rfl := Option.some.inj hf
          rw [← hQ]
          exact e_iR hx hb hr rfl (tP_i _) hS hlocks dX11_comes_44
    · have hf := it_e c4 hf
      refine lv_bipush (v := (-2)) hx hb dX11_comes_16 (by decide) ?_
      obtain rfl := Option.some.inj hf
      rw [← hQ]
      exact e_iR hx hb hr rfl (tP_i _) hS hlocks dX11_comes_18

def LX11_shouldBy_26 (p0 : Int32) (p1 : Int32) (p2 : Int32) (p4 : Int32) (m_down : Nat → Int32) (m_min : Nat → Int32) (m_gone : Nat → Int32) (m_flow : Nat → Int32) (m_str : Nat → Int32) (m_from : Nat → Int32) (m_to : Nat → Int32) (m_rain : Nat → Int32) (m_there : Int32) (x4 : Int32) (ko : Int32 → Int32 → Option (Int32)) : Nat → Int32 → Int32 → Option (Int32)
  | 0, _, _ => none
  | n + 1, x5, x6 =>
    if 12 ≤ x6 then
      ko x5 x6
    else
      (f_X11_has p4 x6).bind fun q10 =>
      (if q10 = 0 then
        some (x5)
      else
        (if 0 ≤ p0 then
          if 0 ≤ p2 then
            (f_X11_comesOf p0 p2 0 23 x6 x4 m_down m_min m_gone).bind fun q23 =>
            some (q23)
          else
            (f_X11_told p0 x6 x4 m_down m_min m_gone m_str m_from m_to).bind fun q24 =>
            some (q24)
        else
          some (0) : Option (Int32)).bind fun q14 =>
        (if 0 ≤ p1 then
          (f_X11_told p1 x6 x4 m_down m_min m_gone m_str m_from m_to).bind fun q20 =>
          some (q20)
        else
          some (0) : Option (Int32)).bind fun q15 =>
        lt ((q14 + q15) : Int32) fun x16 =>
        (f_X11_thin x16 x6 x4 m_down m_flow m_rain m_there).bind fun q17 =>
        lt ((x5 + q17) : Int32) fun x18 =>
        some (x18) : Option (Int32)).bind fun q11 =>
      lt (x6 + 1 : Int32) fun x12 =>
      LX11_shouldBy_26 p0 p1 p2 p4 m_down m_min m_gone m_flow m_str m_from m_to m_rain m_there x4 ko n q11 x12
theorem LX11_shouldBy_26_z (p0 : Int32) (p1 : Int32) (p2 : Int32) (p4 : Int32) (m_down : Nat → Int32) (m_min : Nat → Int32) (m_gone : Nat → Int32) (m_flow : Nat → Int32) (m_str : Nat → Int32) (m_from : Nat → Int32) (m_to : Nat → Int32) (m_rain : Nat → Int32) (m_there : Int32) (x4 : Int32) (ko : Int32 → Int32 → Option (Int32)) (x5 : Int32) (x6 : Int32) : LX11_shouldBy_26 p0 p1 p2 p4 m_down m_min m_gone m_flow m_str m_from m_to m_rain m_there x4 ko 0 x5 x6 = none := rfl
theorem LX11_shouldBy_26_s (p0 : Int32) (p1 : Int32) (p2 : Int32) (p4 : Int32) (m_down : Nat → Int32) (m_min : Nat → Int32) (m_gone : Nat → Int32) (m_flow : Nat → Int32) (m_str : Nat → Int32) (m_from : Nat → Int32) (m_to : Nat → Int32) (m_rain : Nat → Int32) (m_there : Int32) (x4 : Int32) (ko : Int32 → Int32 → Option (Int32)) (n : Nat) (x5 : Int32) (x6 : Int32) : LX11_shouldBy_26 p0 p1 p2 p4 m_down m_min m_gone m_flow m_str m_from m_to m_rain m_there x4 ko (n + 1) x5 x6 =
    if 12 ≤ x6 then
      ko x5 x6
    else
      (f_X11_has p4 x6).bind fun q10 =>
      (if q10 = 0 then
        some (x5)
      else
        (if 0 ≤ p0 then
          if 0 ≤ p2 then
            (f_X11_comesOf p0 p2 0 23 x6 x4 m_down m_min m_gone).bind fun q23 =>
            some (q23)
          else
            (f_X11_told p0 x6 x4 m_down m_min m_gone m_str m_from m_to).bind fun q24 =>
            some (q24)
        else
          some (0) : Option (Int32)).bind fun q14 =>
        (if 0 ≤ p1 then
          (f_X11_told p1 x6 x4 m_down m_min m_gone m_str m_from m_to).bind fun q20 =>
          some (q20)
        else
          some (0) : Option (Int32)).bind fun q15 =>
        lt ((q14 + q15) : Int32) fun x16 =>
        (f_X11_thin x16 x6 x4 m_down m_flow m_rain m_there).bind fun q17 =>
        lt ((x5 + q17) : Int32) fun x18 =>
        some (x18) : Option (Int32)).bind fun q11 =>
      lt (x6 + 1 : Int32) fun x12 =>
      LX11_shouldBy_26 p0 p1 p2 p4 m_down m_min m_gone m_flow m_str m_from m_to m_rain m_there x4 ko n q11 x12 := rfl
def LX11_shouldBy_3 (p0 : Int32) (p1 : Int32) (p2 : Int32) (p3 : Int32) (p4 : Int32) (p5 : Int32) (p6 : Int32) (m_down : Nat → Int32) (m_min : Nat → Int32) (m_gone : Nat → Int32) (m_flow : Nat → Int32) (m_str : Nat → Int32) (m_from : Nat → Int32) (m_to : Nat → Int32) (m_rain : Nat → Int32) (m_tell : Nat → Int32) (m_there : Int32) (ko : Int32 → Option (Int32)) : Nat → Int32 → Option (Int32)
  | 0, _ => none
  | n + 1, x1 =>
    if p6 ≤ x1 then
      ko x1
    else
      lt ((p5 + (60 * x1)) : Int32) fun x4 =>
      LX11_shouldBy_26 p0 p1 p2 p4 m_down m_min m_gone m_flow m_str m_from m_to m_rain m_there x4 (fun x7 x8 =>
        (f_X11_many p4).bind fun q25 =>
        nz (q25) <|
        ri m_tell 4 (p3) fun x27 =>
        if (x7 / q25) < x27 then
          lt (x1 + 1 : Int32) fun x30 =>
          LX11_shouldBy_3 p0 p1 p2 p3 p4 p5 p6 m_down m_min m_gone m_flow m_str m_from m_to m_rain m_tell m_there ko n x30
        else
          some (1)) FU 0 0
theorem LX11_shouldBy_3_z (p0 : Int32) (p1 : Int32) (p2 : Int32) (p3 : Int32) (p4 : Int32) (p5 : Int32) (p6 : Int32) (m_down : Nat → Int32) (m_min : Nat → Int32) (m_gone : Nat → Int32) (m_flow : Nat → Int32) (m_str : Nat → Int32) (m_from : Nat → Int32) (m_to : Nat → Int32) (m_rain : Nat → Int32) (m_tell : Nat → Int32) (m_there : Int32) (ko : Int32 → Option (Int32)) (x1 : Int32) : LX11_shouldBy_3 p0 p1 p2 p3 p4 p5 p6 m_down m_min m_gone m_flow m_str m_from m_to m_rain m_tell m_there ko 0 x1 = none := rfl
theorem LX11_shouldBy_3_s (p0 : Int32) (p1 : Int32) (p2 : Int32) (p3 : Int32) (p4 : Int32) (p5 : Int32) (p6 : Int32) (m_down : Nat → Int32) (m_min : Nat → Int32) (m_gone : Nat → Int32) (m_flow : Nat → Int32) (m_str : Nat → Int32) (m_from : Nat → Int32) (m_to : Nat → Int32) (m_rain : Nat → Int32) (m_tell : Nat → Int32) (m_there : Int32) (ko : Int32 → Option (Int32)) (n : Nat) (x1 : Int32) : LX11_shouldBy_3 p0 p1 p2 p3 p4 p5 p6 m_down m_min m_gone m_flow m_str m_from m_to m_rain m_tell m_there ko (n + 1) x1 =
    if p6 ≤ x1 then
      ko x1
    else
      lt ((p5 + (60 * x1)) : Int32) fun x4 =>
      LX11_shouldBy_26 p0 p1 p2 p4 m_down m_min m_gone m_flow m_str m_from m_to m_rain m_there x4 (fun x7 x8 =>
        (f_X11_many p4).bind fun q25 =>
        nz (q25) <|
        ri m_tell 4 (p3) fun x27 =>
        if (x7 / q25) < x27 then
          lt (x1 + 1 : Int32) fun x30 =>
          LX11_shouldBy_3 p0 p1 p2 p3 p4 p5 p6 m_down m_min m_gone m_flow m_str m_from m_to m_rain m_tell m_there ko n x30
        else
          some (1)) FU 0 0 := rfl
def f_X11_shouldBy (p0 : Int32) (p1 : Int32) (p2 : Int32) (p3 : Int32) (p4 : Int32) (p5 : Int32) (p6 : Int32) (m_down : Nat → Int32) (m_min : Nat → Int32) (m_gone : Nat → Int32) (m_flow : Nat → Int32) (m_str : Nat → Int32) (m_from : Nat → Int32) (m_to : Nat → Int32) (m_rain : Nat → Int32) (m_tell : Nat → Int32) (m_there : Int32) : Option (Int32) :=
  LX11_shouldBy_3 p0 p1 p2 p3 p4 p5 p6 m_down m_min m_gone m_flow m_str m_from m_to m_rain m_tell m_there (fun x2 =>
    some (0)) FU 0
abbrev rmX11_shouldBy : Room := { frames := 4, cells := 0, slots := 0, locals := 94 }
set_option maxHeartbeats 4000000 in
set_option maxRecDepth 100000 in
theorem c_X11_shouldBy {l : Launch} {D : va_G} {g : Nat → ClassId} {N : Nat} {ad : Nat → Nat} {C : Nat → va_E} {sz : Nat} {m_len : Int32} {m_rm : Int32} {m_there : Int32} {m_lift : Int32} {m_blank : Int32} {m_fm : Int32} {m_at : Int32} {m_pl : Int32} {m_end : Int32} {m_seed : Int32} {m_down : Nat → Int32} {m_min : Nat → Int32} {m_gone : Nat → Int32} {m_flow : Nat → Int32} {m_str : Nat → Int32} {m_from : Nat → Int32} {m_to : Nat → Int32} {m_rain : Nat → Int32} {m_tell : Nat → Int32} {p0 : Int32} {p1 : Int32} {p2 : Int32} {p3 : Int32} {p4 : Int32} {p5 : Int32} {p6 : Int32} {rr : Int32} (hN : 109 ≤ N) (h86 : C 86 = .inr (11, [.ref (ad 87), .int m_len, .ref (ad 88), .int m_rm, .int m_there, .ref (ad 89), .ref (ad 90), .ref (ad 91), .ref (ad 92), .ref (ad 93), .ref (ad 94), .ref (ad 95), .ref (ad 96), .ref (ad 97), .ref (ad 98), .ref (ad 99), .ref (ad 100), .ref (ad 101), .int m_lift, .int m_blank, .ref (ad 102), .int m_fm, .int m_at, .int m_pl, .int m_end, .ref (ad 103), .ref (ad 104), .ref (ad 105), .ref (ad 106), .ref (ad 107), .ref (ad 108), .int m_seed])) (h89 : C 89 = aI g 12 m_down) (h90 : C 90 = aI g 12 m_min) (h92 : C 92 = aI g 12 m_gone) (h93 : C 93 = aI g 12 m_flow) (h95 : C 95 = aI g 12 m_str) (h96 : C 96 = aI g 12 m_from) (h97 : C 97 = aI g 12 m_to) (h98 : C 98 = aI g 24 m_rain) (h99 : C 99 = aI g 4 m_tell) (hf : f_X11_shouldBy p0 p1 p2 p3 p4 p5 p6 m_down m_min m_gone m_flow m_str m_from m_to m_rain m_tell m_there = some rr) : Met l yX11_shouldBy wsX11_shouldBy rmX11_shouldBy (PcW D g N ad C sz [.ref (ad 86), .int p0, .int p1, .int p2, .int p3, .int p4, .int p5, .int p6]) (QiR sz bz rr) 0 0 (An sz) := by
  refine Met.ofW (cc := cX11_shouldBy) (maxL := 13) (ret := (some .boolean)) (by decide) rfl ?_
  intro p e s m args below meth c s₁ B hml hv
  obtain ⟨hav, hsz, hK, hP⟩ := hv
  subst hsz
  have hx := B.exec
  have hb := B.bytes
  have hr := B.returns
  have hts := atoms_spec (ws := wsX11_shouldBy) B.pre
  have hown : s.vm.findClass RX11 = some m.cls := findClass_of_methodNamed B.named
  have hlocks := B.notSynchronized
  generalize hQ : MQ below (QiR s.heap.size bz rr) args s 0 0 (An s.heap.size) = QQ
  have hS : va_S (An s.heap.size) s.heap s.heap [] := va_S.rf
  have hA : ∀ q, s.heap.size ≤ q → (An s.heap.size) q := fun q h => h
  have k0 := hts (.fieldLink RX11 50 "UpDrainModel" "tells" "[I") (List.mem_of_getElem? (i := 1) rfl)
  have nX11 : ∀ w ∈ u_ws RX11 TX11 32, w ∈ wsX11_shouldBy := fun _ h => List.mem_cons_of_mem _ (List.mem_append_right _ h)
  have hE := lg_entry_eq m [.ref (ad 86), .int p0, .int p1, .int p2, .int p3, .int p4, .int p5, .int p6] 13
  rw [← hav] at hE
  rw [hE]
  have hl := lv_entry [.ref (ad 86), .int p0, .int p1, .int p2, .int p3, .int p4, .int p5, .int p6] (n := 13) (Nat.le_of_ble_eq_true rfl)
  generalize (lg_sl [.ref (ad 86), .int p0, .int p1, .int p2, .int p3, .int p4, .int p5, .int p6] ++ List.replicate (13 - (lg_sl [.ref (ad 86), .int p0, .int p1, .int p2, .int p3, .int p4, .int p5, .int p6]).length) Slot.unset).toArray = ls at hl ⊢
  have hl : lv_has ls 13 [(0, .ref (ad 86)), (1, .int p0), (2, .int p1), (3, .int p2), (4, .int p3), (5, .int p4), (6, .int p5), (7, .int p6)] := hl
  clear hE
  unfold f_X11_shouldBy at hf
  suffices hgo : ∀ (H : Heap) (locs : List Loc), va_P D vwCl (wd N ad C) H → va_S (An s.heap.size) s.heap H locs → W p l e (headSpec wsX11_shouldBy rmX11_shouldBy).room s m args below meth c H locs 0 0 QQ (F0 m 0 ls []) from hgo s.heap [] hP hS
  clear hS hP
  intro H locs hP hS
  refine lv_iconst (v := 0) hx hb dX11_shouldBy_0 (by decide) ?_
  refine lv_istore (lv' := [(8, .int 0), (0, .ref (ad 86)), (1, .int p0), (2, .int p1), (3, .int p2), (4, .int p3), (5, .int p4), (6, .int p5), (7, .int p6)]) hx hb dX11_shouldBy_1 hl (by decide) rfl (fun ls hl => ?_)
  have key3 : ∀ (ko : Int32 → Option (Int32)), (∀ (x2 : Int32) (C : Nat → va_E) (H : Heap) (locs : List Loc) (ls : Array Slot), va_P D vwCl (wd N ad C) H → va_S (An s.heap.size) s.heap H locs → C 86 = .inr (11, [.ref (ad 87), .int m_len, .ref (ad 88), .int m_rm, .int m_there, .ref (ad 89), .ref (ad 90), .ref (ad 91), .ref (ad 92), .ref (ad 93), .ref (ad 94), .ref (ad 95), .ref (ad 96), .ref (ad 97), .ref (ad 98), .ref (ad 99), .ref (ad 100), .ref (ad 101), .int m_lift, .int m_blank, .ref (ad 102), .int m_fm, .int m_at, .int m_pl, .int m_end, .ref (ad 103), .ref (ad 104), .ref (ad 105), .ref (ad 106), .ref (ad 107), .ref (ad 108), .int m_seed]) → C 89 = aI g 12 m_down → C 90 = aI g 12 m_min → C 92 = aI g 12 m_gone → C 93 = aI g 12 m_flow → C 95 = aI g 12 m_str → C 96 = aI g 12 m_from → C 97 = aI g 12 m_to → C 98 = aI g 24 m_rain → C 99 = aI g 4 m_tell → lv_has ls 13 [(0, .ref (ad 86)), (1, .int p0), (2, .int p1), (3, .int p2), (4, .int p3), (5, .int p4), (6, .int p5), (7, .int p6), (8, .int x2)] → ko x2 = some rr → W p l e (headSpec wsX11_shouldBy rmX11_shouldBy).room s m args below meth c H locs 0 0 QQ (F0 m 151 ls [])) → ∀ (n : Nat) (x1 : Int32) (C : Nat → va_E) (H : Heap) (locs : List Loc) (ls : Array Slot), va_P D vwCl (wd N ad C) H → va_S (An s.heap.size) s.heap H locs → C 86 = .inr (11, [.ref (ad 87), .int m_len, .ref (ad 88), .int m_rm, .int m_there, .ref (ad 89), .ref (ad 90), .ref (ad 91), .ref (ad 92), .ref (ad 93), .ref (ad 94), .ref (ad 95), .ref (ad 96), .ref (ad 97), .ref (ad 98), .ref (ad 99), .ref (ad 100), .ref (ad 101), .int m_lift, .int m_blank, .ref (ad 102), .int m_fm, .int m_at, .int m_pl, .int m_end, .ref (ad 103), .ref (ad 104), .ref (ad 105), .ref (ad 106), .ref (ad 107), .ref (ad 108), .int m_seed]) → C 89 = aI g 12 m_down → C 90 = aI g 12 m_min → C 92 = aI g 12 m_gone → C 93 = aI g 12 m_flow → C 95 = aI g 12 m_str → C 96 = aI g 12 m_from → C 97 = aI g 12 m_to → C 98 = aI g 24 m_rain → C 99 = aI g 4 m_tell → lv_has ls 13 [(0, .ref (ad 86)), (1, .int p0), (2, .int p1), (3, .int p2), (4, .int p3), (5, .int p4), (6, .int p5), (7, .int p6), (8, .int x1)] → LX11_shouldBy_3 p0 p1 p2 p3 p4 p5 p6 m_down m_min m_gone m_flow m_str m_from m_to m_rain m_tell m_there ko n x1 = some rr → W p l e (headSpec wsX11_shouldBy rmX11_shouldBy).room s m args below meth c H locs 0 0 QQ (F0 m 3 ls []) := by
    intro ko hko n
    induction n with
    | zero =>
      intro x1 C H locs ls hP hS h86 h89 h90 h92 h93 h95 h96 h97 h98 h99 hl hf
      rw [LX11_shouldBy_3_z] at hf
      cases hf
    | succ n ih =>
      intro x1 C H locs ls hP hS h86 h89 h90 h92 h93 h95 h96 h97 h98 h99 hl hf
      rw [LX11_shouldBy_3_s] at hf
      refine lv_iload hx hb dX11_shouldBy_3 (lv_at hl 8 rfl) ?_
      refine lv_iload hx hb dX11_shouldBy_5 (lv_at hl 7 rfl) ?_
      refine lv_icmp_ge (tgt := 151) hx hb dX11_shouldBy_7 (by decide) (fun c3 => ?_) (fun c3 => ?_)
      · have hf := it_e c3 hf
        exact hko x1 C H locs ls hP hS h86 h89 h90 h92 h93 h95 h96 h97 h98 h99 (lv_sub hl [0, 1, 2, 3, 4, 5, 6, 7, 8] rfl) hf
      · have hf := ie_e c3 hf
        refine lv_iload hx hb dX11_shouldBy_10 (lv_at hl 6 rfl) ?_
        refine lv_bipush (v := 60) hx hb dX11_shouldBy_12 (by decide) ?_
        refine lv_iload hx hb dX11_shouldBy_14 (lv_at hl 8 rfl) ?_
        refine lv_imul hx hb dX11_shouldBy_16 ?_
        refine lv_iadd hx hb dX11_shouldBy_17 ?_
        obtain ⟨x4, ex4, hf⟩ := lt_e hf
        refine tp_i ex4 ?_
        refine lv_istore (lv' := [(9, .int x4), (0, .ref (ad 86)), (1, .int p0), (2, .int p1), (3, .int p2), (4, .int p3), (5, .int p4), (6, .int p5), (7, .int p6), (8, .int x1)]) hx hb dX11_shouldBy_18 hl (by decide) rfl (fun ls hl => ?_)
        refine lv_iconst (v := 0) hx hb dX11_shouldBy_20 (by decide) ?_
        refine lv_istore (lv' := [(10, .int 0), (9, .int x4), (0, .ref (ad 86)), (1, .int p0), (2, .int p1), (3, .int p2), (4, .int p3), (5, .int p4), (6, .int p5), (7, .int p6), (8, .int x1)]) hx hb dX11_shouldBy_21 hl (by decide) rfl (fun ls hl => ?_)
        refine lv_iconst (v := 0) hx hb dX11_shouldBy_23 (by decide) ?_
        refine lv_istore (lv' := [(11, .int 0), (10, .int 0), (9, .int x4), (0, .ref (ad 86)), (1, .int p0), (2, .int p1), (3, .int p2), (4, .int p3), (5, .int p4), (6, .int p5), (7, .int p6), (8, .int x1)]) hx hb dX11_shouldBy_24 hl (by decide) rfl (fun ls hl => ?_)
        have key26 : ∀ (ko : Int32 → Int32 → Option (Int32)), (∀ (x7 : Int32) (x8 : Int32) (C : Nat → va_E) (H : Heap) (locs : List Loc) (ls : Array Slot), va_P D vwCl (wd N ad C) H → va_S (An s.heap.size) s.heap H locs → C 86 = .inr (11, [.ref (ad 87), .int m_len, .ref (ad 88), .int m_rm, .int m_there, .ref (ad 89), .ref (ad 90), .ref (ad 91), .ref (ad 92), .ref (ad 93), .ref (ad 94), .ref (ad 95), .ref (ad 96), .ref (ad 97), .ref (ad 98), .ref (ad 99), .ref (ad 100), .ref (ad 101), .int m_lift, .int m_blank, .ref (ad 102), .int m_fm, .int m_at, .int m_pl, .int m_end, .ref (ad 103), .ref (ad 104), .ref (ad 105), .ref (ad 106), .ref (ad 107), .ref (ad 108), .int m_seed]) → C 89 = aI g 12 m_down → C 90 = aI g 12 m_min → C 92 = aI g 12 m_gone → C 93 = aI g 12 m_flow → C 95 = aI g 12 m_str → C 96 = aI g 12 m_from → C 97 = aI g 12 m_to → C 98 = aI g 24 m_rain → C 99 = aI g 4 m_tell → lv_has ls 13 [(0, .ref (ad 86)), (1, .int p0), (2, .int p1), (3, .int p2), (4, .int p3), (5, .int p4), (6, .int p5), (7, .int p6), (8, .int x1), (9, .int x4), (10, .int x7), (11, .int x8)] → ko x7 x8 = some rr → W p l e (headSpec wsX11_shouldBy rmX11_shouldBy).room s m args below meth c H locs 0 0 QQ (F0 m 125 ls [])) → ∀ (n : Nat) (x5 : Int32) (x6 : Int32) (C : Nat → va_E) (H : Heap) (locs : List Loc) (ls : Array Slot), va_P D vwCl (wd N ad C) H → va_S (An s.heap.size) s.heap H locs → C 86 = .inr (11, [.ref (ad 87), .int m_len, .ref (ad 88), .int m_rm, .int m_there, .ref (ad 89), .ref (ad 90), .ref (ad 91), .ref (ad 92), .ref (ad 93), .ref (ad 94), .ref (ad 95), .ref (ad 96), .ref (ad 97), .ref (ad 98), .ref (ad 99), .ref (ad 100), .ref (ad 101), .int m_lift, .int m_blank, .ref (ad 102), .int m_fm, .int m_at, .int m_pl, .int m_end, .ref (ad 103), .ref (ad 104), .ref (ad 105), .ref (ad 106), .ref (ad 107), .ref (ad 108), .int m_seed]) → C 89 = aI g 12 m_down → C 90 = aI g 12 m_min → C 92 = aI g 12 m_gone → C 93 = aI g 12 m_flow → C 95 = aI g 12 m_str → C 96 = aI g 12 m_from → C 97 = aI g 12 m_to → C 98 = aI g 24 m_rain → C 99 = aI g 4 m_tell → lv_has ls 13 [(0, .ref (ad 86)), (1, .int p0), (2, .int p1), (3, .int p2), (4, .int p3), (5, .int p4), (6, .int p5), (7, .int p6), (8, .int x1), (9, .int x4), (10, .int x5), (11, .int x6)] → LX11_shouldBy_26 p0 p1 p2 p4 m_down m_min m_gone m_flow m_str m_from m_to m_rain m_there x4 ko n x5 x6 = some rr → W p l e (headSpec wsX11_shouldBy rmX11_shouldBy).room s m args below meth c H locs 0 0 QQ (F0 m 26 ls []) := by
          intro ko hko n
          induction n with
          | zero =>
            intro x5 x6 C H locs ls hP hS h86 h89 h90 h92 h93 h95 h96 h97 h98 h99 hl hf
            rw [LX11_shouldBy_26_z] at hf
            cases hf
          | succ n ih =>
            intro x5 x6 C H locs ls hP hS h86 h89 h90 h92 h93 h95 h96 h97 h98 h99 hl hf
            rw [LX11_shouldBy_26_s] at hf
            refine lv_iload hx hb dX11_shouldBy_26 (lv_at hl 11 rfl) ?_
            refine lv_bipush (v := 12) hx hb dX11_shouldBy_28 (by decide) ?_
            refine lv_icmp_ge (tgt := 125) hx hb dX11_shouldBy_30 (by decide) (fun c9 => ?_) (fun c9 => ?_)
            · have hf := it_e c9 hf
              exact hko x5 x6 C H locs ls hP hS h86 h89 h90 h92 h93 h95 h96 h97 h98 h99 (lv_sub hl [0, 1, 2, 3, 4, 5, 6, 7, 8, 9, 10, 11] rfl) hf
            · have hf := ie_e c9 hf
              refine lv_iload hx hb dX11_shouldBy_33 (lv_at hl 5 rfl) ?_
              refine lv_iload hx hb dX11_shouldBy_35 (lv_at hl 11 rfl) ?_
              obtain ⟨q10, hq10, hf⟩ := bd_e hf
              refine k_iR (va_runS (As := [.int p4, .int x6]) (rest := []) ⟨hx, hb, hml, hown, hts⟩ (c_X11_has (l := l) (sz := H.size) (p0 := p4) (p1 := x6) hq10) (va_cwS 2 hts gX11_shouldBy_X11_has rfl rfl rfl (by decide +kernel) ⟨Nat.le_of_ble_eq_true rfl, Nat.le_of_ble_eq_true rfl⟩) preS0 rfl rfl hl.1 rfl (lv_room (Nat.le_of_ble_eq_true rfl)) dX11_shouldBy_37 ⟨Nat.le_of_ble_eq_true rfl, Nat.le_of_ble_eq_true rfl⟩) hA hP hS (fun H locs hP hS hbz_q10 => ?_)
              obtain ⟨q11, htq11, hf⟩ := bd_e hf
              have jnq11 : ∀ (C : Nat → va_E) (H : Heap) (locs : List Loc) (ls : Array Slot), va_P D vwCl (wd N ad C) H → va_S (An s.heap.size) s.heap H locs → C 86 = .inr (11, [.ref (ad 87), .int m_len, .ref (ad 88), .int m_rm, .int m_there, .ref (ad 89), .ref (ad 90), .ref (ad 91), .ref (ad 92), .ref (ad 93), .ref (ad 94), .ref (ad 95), .ref (ad 96), .ref (ad 97), .ref (ad 98), .ref (ad 99), .ref (ad 100), .ref (ad 101), .int m_lift, .int m_blank, .ref (ad 102), .int m_fm, .int m_at, .int m_pl, .int m_end, .ref (ad 103), .ref (ad 104), .ref (ad 105), .ref (ad 106), .ref (ad 107), .ref (ad 108), .int m_seed]) → C 89 = aI g 12 m_down → C 90 = aI g 12 m_min → C 92 = aI g 12 m_gone → C 93 = aI g 12 m_flow → C 95 = aI g 12 m_str → C 96 = aI g 12 m_from → C 97 = aI g 12 m_to → C 98 = aI g 24 m_rain → C 99 = aI g 4 m_tell → lv_has ls 13 [(0, .ref (ad 86)), (1, .int p0), (2, .int p1), (3, .int p2), (4, .int p3), (5, .int p4), (6, .int p5), (7, .int p6), (8, .int x1), (9, .int x4), (10, .int q11), (11, .int x6)] → W p l e (headSpec wsX11_shouldBy rmX11_shouldBy).room s m args below meth c H locs 0 0 QQ (F0 m 119 ls []) := by
                intro C H locs ls hP hS h86 h89 h90 h92 h93 h95 h96 h97 h98 h99 hl
                obtain ⟨x12, ex12, hf⟩ := lt_e hf
                refine lv_iinc (v := x12) (lv' := [(11, .int x12), (0, .ref (ad 86)), (1, .int p0), (2, .int p1), (3, .int p2), (4, .int p3), (5, .int p4), (6, .int p5), (7, .int p6), (8, .int x1), (9, .int x4), (10, .int q11)]) hx hb dX11_shouldBy_119 hl (k := 11) rfl (by rw [ex12]; rfl) (by decide) rfl (fun ls hl => ?_)
                refine lv_goto (tgt := 26) hx hb dX11_shouldBy_122 (by decide) ?_
                exact ih q11 x12 C H locs ls hP hS h86 h89 h90 h92 h93 h95 h96 h97 h98 h99 (lv_sub hl [1, 2, 3, 4, 5, 6, 7, 8, 9, 10, 11, 0] rfl) hf
              clear hf
              have hf := htq11
              refine lv_if_eq (tgt := 119) hx hb dX11_shouldBy_40 (by decide) (fun c13 => ?_) (fun c13 => ?_)
              · have hf := it_e c13 hf
                obtain rfl := Option.some.inj hf
                exact jnq11 C H locs ls hP hS h86 h89 h90 h92 h93 h95 h96 h97 h98 h99 (lv_sub hl [0, 1, 2, 3, 4, 5, 6, 7, 8, 9, 10, 11] rfl)
              · have hf := ie_e c13 hf
                refine lv_iload_n hx hb dX11_shouldBy_43 rfl (lv_at hl 1 rfl) ?_
                obtain ⟨q14, htq14, hf⟩ := bd_e hf
                have jnq14 : ∀ (C : Nat → va_E) (H : Heap) (locs : List Loc) (ls : Array Slot), va_P D vwCl (wd N ad C) H → va_S (An s.heap.size) s.heap H locs → C 86 = .inr (11, [.ref (ad 87), .int m_len, .ref (ad 88), .int m_rm, .int m_there, .ref (ad 89), .ref (ad 90), .ref (ad 91), .ref (ad 92), .ref (ad 93), .ref (ad 94), .ref (ad 95), .ref (ad 96), .ref (ad 97), .ref (ad 98), .ref (ad 99), .ref (ad 100), .ref (ad 101), .int m_lift, .int m_blank, .ref (ad 102), .int m_fm, .int m_at, .int m_pl, .int m_end, .ref (ad 103), .ref (ad 104), .ref (ad 105), .ref (ad 106), .ref (ad 107), .ref (ad 108), .int m_seed]) → C 89 = aI g 12 m_down → C 90 = aI g 12 m_min → C 92 = aI g 12 m_gone → C 93 = aI g 12 m_flow → C 95 = aI g 12 m_str → C 96 = aI g 12 m_from → C 97 = aI g 12 m_to → C 98 = aI g 24 m_rain → C 99 = aI g 4 m_tell → lv_has ls 13 [(0, .ref (ad 86)), (1, .int p0), (2, .int p1), (3, .int p2), (4, .int p3), (5, .int p4), (6, .int p5), (7, .int p6), (8, .int x1), (9, .int x4), (10, .int x5), (11, .int x6)] → W p l e (headSpec wsX11_shouldBy rmX11_shouldBy).room s m args below meth c H locs 0 0 QQ (F0 m 80 ls [.int q14]) := by
                  intro C H locs ls hP hS h86 h89 h90 h92 h93 h95 h96 h97 h98 h99 hl
                  refine lv_istore (lv' := [(12, .int q14), (0, .ref (ad 86)), (1, .int p0), (2, .int p1), (3, .int p2), (4, .int p3), (5, .int p4), (6, .int p5), (7, .int p6), (8, .int x1), (9, .int x4), (10, .int x5), (11, .int x6)]) hx hb dX11_shouldBy_80 hl (by decide) rfl (fun ls hl => ?_)
                  refine lv_iload hx hb dX11_shouldBy_82 (lv_at hl 0 rfl) ?_
                  refine lv_iload_n hx hb dX11_shouldBy_84 rfl (lv_at hl 3 rfl) ?_
                  obtain ⟨q15, htq15, hf⟩ := bd_e hf
                  have jnq15 : ∀ (C : Nat → va_E) (H : Heap) (locs : List Loc) (ls : Array Slot), va_P D vwCl (wd N ad C) H → va_S (An s.heap.size) s.heap H locs → C 86 = .inr (11, [.ref (ad 87), .int m_len, .ref (ad 88), .int m_rm, .int m_there, .ref (ad 89), .ref (ad 90), .ref (ad 91), .ref (ad 92), .ref (ad 93), .ref (ad 94), .ref (ad 95), .ref (ad 96), .ref (ad 97), .ref (ad 98), .ref (ad 99), .ref (ad 100), .ref (ad 101), .int m_lift, .int m_blank, .ref (ad 102), .int m_fm, .int m_at, .int m_pl, .int m_end, .ref (ad 103), .ref (ad 104), .ref (ad 105), .ref (ad 106), .ref (ad 107), .ref (ad 108), .int m_seed]) → C 89 = aI g 12 m_down → C 90 = aI g 12 m_min → C 92 = aI g 12 m_gone → C 93 = aI g 12 m_flow → C 95 = aI g 12 m_str → C 96 = aI g 12 m_from → C 97 = aI g 12 m_to → C 98 = aI g 24 m_rain → C 99 = aI g 4 m_tell → lv_has ls 13 [(0, .ref (ad 86)), (1, .int p0), (2, .int p1), (3, .int p2), (4, .int p3), (5, .int p4), (6, .int p5), (7, .int p6), (8, .int x1), (9, .int x4), (10, .int x5), (11, .int x6), (12, .int q14)] → W p l e (headSpec wsX11_shouldBy rmX11_shouldBy).room s m args below meth c H locs 0 0 QQ (F0 m 101 ls [.int q15, .int q14]) := by
                    intro C H locs ls hP hS h86 h89 h90 h92 h93 h95 h96 h97 h98 h99 hl
                    refine lv_iadd hx hb dX11_shouldBy_101 ?_
                    obtain ⟨x16, ex16, hf⟩ := lt_e hf
                    refine tp_i ex16 ?_
                    refine lv_istore (lv' := [(12, .int x16), (0, .ref (ad 86)), (1, .int p0), (2, .int p1), (3, .int p2), (4, .int p3), (5, .int p4), (6, .int p5), (7, .int p6), (8, .int x1), (9, .int x4), (10, .int x5), (11, .int x6)]) hx hb dX11_shouldBy_102 hl (by decide) rfl (fun ls hl => ?_)
                    refine lv_iload hx hb dX11_shouldBy_104 (lv_at hl 11 rfl) ?_
                    refine lv_aload_n hx hb dX11_shouldBy_106 rfl (lv_at hl 1 rfl) ?_
                    refine lv_iload hx hb dX11_shouldBy_107 (lv_at hl 0 rfl) ?_
                    refine lv_iload hx hb dX11_shouldBy_109 (lv_at hl 12 rfl) ?_
                    refine lv_iload hx hb dX11_shouldBy_111 (lv_at hl 10 rfl) ?_
                    obtain ⟨q17, hq17, hf⟩ := bd_e hf
                    refine k_iR (va_runV (C := RX11) (As := [.int x16, .int x6, .int x4]) (rest := [.int x5]) ⟨hx, hb, hml, hown, hts⟩ (c_X11_thin (l := l) (sz := H.size) (p0 := x16) (p1 := x6) (p2 := x4) hN h86 h89 h93 h98 hq17) (cwV 3 hts gX11_shouldBy_X11_thin rfl rfl rfl (by decide +kernel) ⟨Nat.le_of_ble_eq_true rfl, Nat.le_of_ble_eq_true rfl⟩) (preV_of hK hP (by omega) h86 rfl) rfl rfl hl.1 rfl (lv_room (Nat.le_of_ble_eq_true rfl)) dX11_shouldBy_113 ⟨Nat.le_of_ble_eq_true rfl, Nat.le_of_ble_eq_true rfl⟩) hA hP hS (fun H locs hP hS hbz_q17 => ?_)
                    refine lv_iadd hx hb dX11_shouldBy_116 ?_
                    obtain ⟨x18, ex18, hf⟩ := lt_e hf
                    refine tp_i ex18 ?_
                    refine lv_istore (lv' := [(10, .int x18), (12, .int x16), (0, .ref (ad 86)), (1, .int p0), (2, .int p1), (3, .int p2), (4, .int p3), (5, .int p4), (6, .int p5), (7, .int p6), (8, .int x1), (9, .int x4), (11, .int x6)]) hx hb dX11_shouldBy_117 hl (by decide) rfl (fun ls hl => ?_)
                    obtain rfl := Option.some.inj hf
                    exact jnq11 C H locs ls hP hS h86 h89 h90 h92 h93 h95 h96 h97 h98 h99 (lv_sub hl [2, 3, 4, 5, 6, 7, 8, 9, 10, 11, 0, 12] rfl)
                  clear hf
                  have hf := htq15
                  refine lv_if_ge (tgt := 92) hx hb dX11_shouldBy_85 (by decide) (fun c19 => ?_) (fun c19 => ?_)
                  · have hf := it_e c19 hf
                    refine lv_aload_n hx hb dX11_shouldBy_92 rfl (lv_at hl 1 rfl) ?_
                    refine lv_iload_n hx hb dX11_shouldBy_93 rfl (lv_at hl 3 rfl) ?_
                    refine lv_iload hx hb dX11_shouldBy_94 (lv_at hl 12 rfl) ?_
                    refine lv_iload hx hb dX11_shouldBy_96 (lv_at hl 10 rfl) ?_
                    obtain ⟨q20, hq20, hf⟩ := bd_e hf
                    refine k_iR (va_runV (C := RX11) (As := [.int p1, .int x6, .int x4]) (rest := [.int q14]) ⟨hx, hb, hml, hown, hts⟩ (c_X11_told (l := l) (sz := H.size) (p0 := p1) (p1 := x6) (p2 := x4) hN h86 h89 h90 h92 h95 h96 h97 hq20) (cwV 3 hts gX11_shouldBy_X11_told rfl rfl rfl (by decide +kernel) ⟨Nat.le_of_ble_eq_true rfl, Nat.le_of_ble_eq_true rfl⟩) (preV_of hK hP (by omega) h86 rfl) rfl rfl hl.1 rfl (lv_room (Nat.le_of_ble_eq_true rfl)) dX11_shouldBy_98 ⟨Nat.le_of_ble_eq_true rfl, Nat.le_of_ble_eq_true rfl⟩) hA hP hS (fun H locs hP hS hbz_q20 => ?_)
                    obtain rfl := Option.some.inj hf
                    exact jnq15 C H locs ls hP hS h86 h89 h90 h92 h93 h95 h96 h97 h98 h99 (lv_sub hl [1, 2, 3, 4, 5, 6, 7, 8, 9, 10, 11, 12, 0] rfl)
                  · have hf := ie_e c19 hf
                    refine lv_iconst (v := 0) hx hb dX11_shouldBy_88 (by decide) ?_
                    refine lv_goto (tgt := 101) hx hb dX11_shouldBy_89 (by decide) ?_
                    obtain rfl := Option.some.inj hf
                    exact jnq15 C H locs ls hP hS h86 h89 h90 h92 h93 h95 h96 h97 h98 h99 (lv_sub hl [1, 2, 3, 4, 5, 6, 7, 8, 9, 10, 11, 12, 0] rfl)
                clear hf
                have hf := htq14
                refine lv_if_ge (tgt := 51) hx hb dX11_shouldBy_44 (by decide) (fun c21 => ?_) (fun c21 => ?_)
                · have hf := it_e c21 hf
                  refine lv_iload_n hx hb dX11_shouldBy_51 rfl (lv_at hl 3 rfl) ?_
                  refine lv_if_ge (tgt := 67) hx hb dX11_shouldBy_52 (by decide) (fun c22 => ?_) (fun c22 => ?_)
                  · have hf := it_e c22 hf
                    refine lv_aload_n hx hb dX11_shouldBy_67 rfl (lv_at hl 0 rfl) ?_
                    refine lv_iload_n hx hb dX11_shouldBy_68 rfl (lv_at hl 1 rfl) ?_
                    refine lv_iload_n hx hb dX11_shouldBy_69 rfl (lv_at hl 3 rfl) ?_
                    refine lv_iconst (v := 0) hx hb dX11_shouldBy_70 (by decide) ?_
                    refine lv_bipush (v := 23) hx hb dX11_shouldBy_71 (by decide) ?_
                    refine lv_iload hx hb dX11_shouldBy_73 (lv_at hl 11 rfl) ?_
                    refine lv_iload hx hb dX11_shouldBy_75 (lv_at hl 9 rfl) ?_
                    obtain ⟨q23, hq23, hf⟩ := bd_e hf
                    refine k_iR (va_runV (C := RX11) (As := [.int p0, .int p2, .int 0, .int 23, .int x6, .int x4]) (rest := []) ⟨hx, hb, hml, hown, hts⟩ (c_X11_comesOf (l := l) (sz := H.size) (p0 := p0) (p1 := p2) (p2 := 0) (p3 := 23) (p4 := x6) (p5 := x4) hN h86 h89 h90 h92 hq23) (cwV 6 hts gX11_shouldBy_X11_comesOf rfl rfl rfl (by decide +kernel) ⟨Nat.le_of_ble_eq_true rfl, Nat.le_of_ble_eq_true rfl⟩) (preV_of hK hP (by omega) h86 rfl) rfl rfl hl.1 rfl (lv_room (Nat.le_of_ble_eq_true rfl)) dX11_shouldBy_77 ⟨Nat.le_of_ble_eq_true rfl, Nat.le_of_ble_eq_true rfl⟩) hA hP hS (fun H locs hP hS hbz_q23 => ?_)
                    obtain rfl := Option.some.inj hf
                    exact jnq14 C H locs ls hP hS h86 h89 h90 h92 h93 h95 h96 h97 h98 h99 (lv_sub hl [0, 1, 2, 3, 4, 5, 6, 7, 8, 9, 10, 11] rfl)
                  · have hf := ie_e c22 hf
                    refine lv_aload_n hx hb dX11_shouldBy_55 rfl (lv_at hl 0 rfl) ?_
                    refine lv_iload_n hx hb dX11_shouldBy_56 rfl (lv_at hl 1 rfl) ?_
                    refine lv_iload hx hb dX11_shouldBy_57 (lv_at hl 11 rfl) ?_
                    refine lv_iload hx hb dX11_shouldBy_59 (lv_at hl 9 rfl) ?_
                    obtain ⟨q24, hq24, hf⟩ := bd_e hf
                    refine k_iR (va_runV (C := RX11) (As := [.int p0, .int x6, .int x4]) (rest := []) ⟨hx, hb, hml, hown, hts⟩ (c_X11_told (l := l) (sz := H.size) (p0 := p0) (p1 := x6) (p2 := x4) hN h86 h89 h90 h92 h95 h96 h97 hq24) (cwV 3 hts gX11_shouldBy_X11_told rfl rfl rfl (by decide +kernel) ⟨Nat.le_of_ble_eq_true rfl, Nat.le_of_ble_eq_true rfl⟩) (preV_of hK hP (by omega) h86 rfl) rfl rfl hl.1 rfl (lv_room (Nat.le_of_ble_eq_true rfl)) dX11_shouldBy_61 ⟨Nat.le_of_ble_eq_true rfl, Nat.le_of_ble_eq_true rfl⟩) hA hP hS (fun H locs hP hS hbz_q24 => ?_)
                    refine lv_goto (tgt := 80) hx hb dX11_shouldBy_64 (by decide) ?_
                    obtain rfl := Option.some.inj hf
                    exact jnq14 C H locs ls hP hS h86 h89 h90 h92 h93 h95 h96 h97 h98 h99 (lv_sub hl [0, 1, 2, 3, 4, 5, 6, 7, 8, 9, 10, 11] rfl)
                · have hf := ie_e c21 hf
                  refine lv_iconst (v := 0) hx hb dX11_shouldBy_47 (by decide) ?_
                  refine lv_goto (tgt := 80) hx hb dX11_shouldBy_48 (by decide) ?_
                  obtain rfl := Option.some.inj hf
                  exact jnq14 C H locs ls hP hS h86 h89 h90 h92 h93 h95 h96 h97 h98 h99 (lv_sub hl [0, 1, 2, 3, 4, 5, 6, 7, 8, 9, 10, 11] rfl)
        refine key26 _ (fun x7 x8 C H locs ls hP hS h86 h89 h90 h92 h93 h95 h96 h97 h98 h99 hl hf => ?_) FU 0 0 C H locs ls hP hS h86 h89 h90 h92 h93 h95 h96 h97 h98 h99 (lv_sub hl [3, 4, 5, 6, 7, 8, 9, 10, 11, 2, 1, 0] rfl) hf
        refine lv_iload hx hb dX11_shouldBy_125 (lv_at hl 10 rfl) ?_
        refine lv_iload hx hb dX11_shouldBy_127 (lv_at hl 5 rfl) ?_
        obtain ⟨q25, hq25, hf⟩ := bd_e hf
        refine k_iR (va_runS (As := [.int p4]) (rest := [.int x7]) ⟨hx, hb, hml, hown, hts⟩ (c_X11_many (l := l) (sz := H.size) (p0 := p4) hq25) (va_cwS 1 hts gX11_shouldBy_X11_many rfl rfl rfl (by decide +kernel) ⟨Nat.le_of_ble_eq_true rfl, Nat.le_of_ble_eq_true rfl⟩) preS0 rfl rfl hl.1 rfl (lv_room (Nat.le_of_ble_eq_true rfl)) dX11_shouldBy_129 ⟨Nat.le_of_ble_eq_true rfl, Nat.le_of_ble_eq_true rfl⟩) hA hP hS (fun H locs hP hS hbz_q25 => ?_)
        obtain ⟨z26, hf⟩ := nz_e hf
        refine lv_idiv hx hb dX11_shouldBy_132 z26 ?_
        refine lv_aload_n hx hb dX11_shouldBy_133 rfl (lv_at hl 0 rfl) ?_
        refine r_get (own := RX11) (T := TX11) (n := 32) (ci := 11) (v := .ref (ad 99)) hx hb hts nX11 hown hK hP (by omega) h86 rfl 15 (by decide) k0 rfl dX11_shouldBy_134 ?_
        refine lv_iload hx hb dX11_shouldBy_137 (lv_at hl 4 rfl) ?_
        obtain ⟨i28, x27, ex27, hf⟩ := ri_e hf
        refine r_iald hx hb hK hP (by omega) h99 i28 dX11_shouldBy_139 ex27 ?_
        refine lv_icmp_lt (tgt := 145) hx hb dX11_shouldBy_140 (by decide) (fun c29 => ?_) (fun c29 => ?_)
        · have hf := it_e c29 hf
          obtain ⟨x30, ex30, hf⟩ := lt_e hf
          refine lv_iinc (v := x30) (lv' := [(8, .int x30), (0, .ref (ad 86)), (1, .int p0), (2, .int p1), (3, .int p2), (4, .int p3), (5, .int p4), (6, .int p5), (7, .int p6), (9, .int x4), (10, .int x7), (11, .int x8)]) hx hb dX11_shouldBy_145 hl (k := 8) rfl (by rw [ex30]; rfl) (by decide) rfl (fun ls hl => ?_)
          refine lv_goto (tgt := 3) hx hb dX11_shouldBy_148 (by decide) ?_
          exact ih x30 C H locs ls hP hS h86 h89 h90 h92 h93 h95 h96 h97 h98 h99 (lv_sub hl [1, 2, 3, 4, 5, 6, 7, 8, 0] rfl) hf
        · have hf := ie_e c29 hf
          refine lv_iconst (v := 1) hx hb dX11_shouldBy_143 (by decide) ?_
          obtain rfl := Option.some.inj hf
          rw [← hQ]
          exact e_zR hx hb hr rfl bz1 hS hlocks dX11_shouldBy_144
  refine key3 _ (fun x2 C H locs ls hP hS h86 h89 h90 h92 h93 h95 h96 h97 h98 h99 hl hf => ?_) FU 0 C H locs ls hP hS h86 h89 h90 h92 h93 h95 h96 h97 h98 h99 (lv_sub hl [1, 2, 3, 4, 5, 6, 7, 8, 0] rfl) hf
  refine lv_iconst (v := 0) hx hb dX11_shouldBy_151 (by decide) ?_
  obtain rfl := Option.some.inj hf
  rw [← hQ]
  exact e_zR hx hb hr rfl bz0 hS hlocks dX11_shouldBy_152

def f_X11_isFill (p0 : Int32) (p1 : Int32) (p2 : Int32) (m_there : Int32) : Option (Int32) :=
  (f_X11_in (Int32.toInt64 p0) (1 : Int64) (4095 : Int64)).bind fun q1 =>
  if q1 = 0 then
    some (0)
  else
    if (p0 &&& (m_there ^^^ (-1))) = 0 then
      (f_X11_in (Int32.toInt64 p2) (1 : Int64) (6 : Int64)).bind fun q4 =>
      if q4 = 0 then
        some (0)
      else
        (f_X11_in (Int32.toInt64 p1) (0 : Int64) (1439 : Int64)).bind fun q6 =>
        if q6 = 0 then
          some (0)
        else
          if 1440 ≤ (p1 + (60 * (p2 - 1))) then
            some (0)
          else
            some (1)
    else
      some (0)
abbrev rmX11_isFill : Room := { frames := 1, cells := 0, slots := 0, locals := 25 }
set_option maxHeartbeats 4000000 in
set_option maxRecDepth 100000 in
theorem c_X11_isFill {l : Launch} {D : va_G} {g : Nat → ClassId} {N : Nat} {ad : Nat → Nat} {C : Nat → va_E} {sz : Nat} {m_len : Int32} {m_rm : Int32} {m_there : Int32} {m_lift : Int32} {m_blank : Int32} {m_fm : Int32} {m_at : Int32} {m_pl : Int32} {m_end : Int32} {m_seed : Int32} {p0 : Int32} {p1 : Int32} {p2 : Int32} {rr : Int32} (hN : 109 ≤ N) (h86 : C 86 = .inr (11, [.ref (ad 87), .int m_len, .ref (ad 88), .int m_rm, .int m_there, .ref (ad 89), .ref (ad 90), .ref (ad 91), .ref (ad 92), .ref (ad 93), .ref (ad 94), .ref (ad 95), .ref (ad 96), .ref (ad 97), .ref (ad 98), .ref (ad 99), .ref (ad 100), .ref (ad 101), .int m_lift, .int m_blank, .ref (ad 102), .int m_fm, .int m_at, .int m_pl, .int m_end, .ref (ad 103), .ref (ad 104), .ref (ad 105), .ref (ad 106), .ref (ad 107), .ref (ad 108), .int m_seed])) (hf : f_X11_isFill p0 p1 p2 m_there = some rr) : Met l yX11_isFill wsX11_isFill rmX11_isFill (PcW D g N ad C sz [.ref (ad 86), .int p0, .int p1, .int p2]) (QiR sz bz rr) 0 0 (An sz) := by
  refine Met.ofW (cc := cX11_isFill) (maxL := 4) (ret := (some .boolean)) (by decide) rfl ?_
  intro p e s m args below meth c s₁ B hml hv
  obtain ⟨hav, hsz, hK, hP⟩ := hv
  subst hsz
  have hx := B.exec
  have hb := B.bytes
  have hr := B.returns
  have hts := atoms_spec (ws := wsX11_isFill) B.pre
  have hown : s.vm.findClass RX11 = some m.cls := findClass_of_methodNamed B.named
  have hlocks := B.notSynchronized
  generalize hQ : MQ below (QiR s.heap.size bz rr) args s 0 0 (An s.heap.size) = QQ
  have hS : va_S (An s.heap.size) s.heap s.heap [] := va_S.rf
  have hA : ∀ q, s.heap.size ≤ q → (An s.heap.size) q := fun q h => h
  have k0 := hts (.constantLong RX11 196 (4095)) (List.mem_of_getElem? (i := 1) rfl)
  have k1 := hts (.fieldLink RX11 16 "UpDrainModel" "there" "I") (List.mem_of_getElem? (i := 2) rfl)
  have nX11 : ∀ w ∈ u_ws RX11 TX11 32, w ∈ wsX11_isFill := fun _ h => List.mem_cons_of_mem _ (List.mem_append_right _ h)
  have k3 := hts (.constantLong RX11 198 (6)) (List.mem_of_getElem? (i := 3) rfl)
  have k4 := hts (.constantLong RX11 184 (1439)) (List.mem_of_getElem? (i := 4) rfl)
  have hE := lg_entry_eq m [.ref (ad 86), .int p0, .int p1, .int p2] 4
  rw [← hav] at hE
  rw [hE]
  have hl := lv_entry [.ref (ad 86), .int p0, .int p1, .int p2] (n := 4) (Nat.le_of_ble_eq_true rfl)
  generalize (lg_sl [.ref (ad 86), .int p0, .int p1, .int p2] ++ List.replicate (4 - (lg_sl [.ref (ad 86), .int p0, .int p1, .int p2]).length) Slot.unset).toArray = ls at hl ⊢
  have hl : lv_has ls 4 [(0, .ref (ad 86)), (1, .int p0), (2, .int p1), (3, .int p2)] := hl
  clear hE
  unfold f_X11_isFill at hf
  suffices hgo : ∀ (H : Heap) (locs : List Loc), va_P D vwCl (wd N ad C) H → va_S (An s.heap.size) s.heap H locs → W p l e (headSpec wsX11_isFill rmX11_isFill).room s m args below meth c H locs 0 0 QQ (F0 m 0 ls []) from hgo s.heap [] hP hS
  clear hS hP
  intro H locs hP hS
  refine lv_iload_n hx hb dX11_isFill_0 rfl (lv_at hl 1 rfl) ?_
  refine lv_i2l hx hb dX11_isFill_1 rfl ?_
  refine lv_lconst (v := 1) hx hb dX11_isFill_2 (by decide) ?_
  refine lv_ldc2 (own := RX11) hx hb hown k0 dX11_isFill_3 ?_
  obtain ⟨q1, hq1, hf⟩ := bd_e hf
  refine k_iR (va_runS (As := [.long (Int32.toInt64 p0), .long (1 : Int64), .long (4095 : Int64)]) (rest := []) ⟨hx, hb, hml, hown, hts⟩ (c_X11_in (l := l) (sz := H.size) (p0 := (Int32.toInt64 p0)) (p1 := (1 : Int64)) (p2 := (4095 : Int64)) hq1) (va_cwS 3 hts gX11_isFill_X11_in rfl rfl rfl (by decide +kernel) ⟨Nat.le_of_ble_eq_true rfl, Nat.le_of_ble_eq_true rfl⟩) preS0 rfl rfl hl.1 rfl (lv_room (Nat.le_of_ble_eq_true rfl)) dX11_isFill_6 ⟨Nat.le_of_ble_eq_true rfl, Nat.le_of_ble_eq_true rfl⟩) hA hP hS (fun H locs hP hS hbz_q1 => ?_)
  refine lv_if_eq (tgt := 65) hx hb dX11_isFill_9 (by decide) (fun c2 => ?_) (fun c2 => ?_)
  · have hf := it_e c2 hf
    refine lv_iconst (v := 0) hx hb dX11_isFill_65 (by decide) ?_
    obtain rfl := Option.some.inj hf
    rw [← hQ]
    exact e_zR hx hb hr rfl bz0 hS hlocks dX11_isFill_66
  · have hf := ie_e c2 hf
    refine lv_iload_n hx hb dX11_isFill_12 rfl (lv_at hl 1 rfl) ?_
    refine lv_aload_n hx hb dX11_isFill_13 rfl (lv_at hl 0 rfl) ?_
    refine r_get (own := RX11) (T := TX11) (n := 32) (ci := 11) (v := .int m_there) hx hb hts nX11 hown hK hP (by omega) h86 rfl 4 (by decide) k1 rfl dX11_isFill_14 ?_
    refine lv_iconst (v := (-1)) hx hb dX11_isFill_17 (by decide) ?_
    refine lv_ixor hx hb dX11_isFill_18 ?_
    refine lv_iand hx hb dX11_isFill_19 ?_
    refine lv_if_ne (tgt := 65) hx hb dX11_isFill_20 (by decide) (fun c3 => ?_) (fun c3 => ?_)
    · have hf := ie_e c3 hf
      refine lv_iconst (v := 0) hx hb dX11_isFill_65 (by decide) ?_
      obtain rfl := Option.some.inj hf
      rw [← hQ]
      exact e_zR hx hb hr rfl bz0 hS hlocks dX11_isFill_66
    · have hf := it_e c3 hf
      refine lv_iload_n hx hb dX11_isFill_23 rfl (lv_at hl 3 rfl) ?_
      refine lv_i2l hx hb dX11_isFill_24 rfl ?_
      refine lv_lconst (v := 1) hx hb dX11_isFill_25 (by decide) ?_
      refine lv_ldc2 (own := RX11) hx hb hown k3 dX11_isFill_26 ?_
      obtain ⟨q4, hq4, hf⟩ := bd_e hf
      refine k_iR (va_runS (As := [.long (Int32.toInt64 p2), .long (1 : Int64), .long (6 : Int64)]) (rest := []) ⟨hx, hb, hml, hown, hts⟩ (c_X11_in (l := l) (sz := H.size) (p0 := (Int32.toInt64 p2)) (p1 := (1 : Int64)) (p2 := (6 : Int64)) hq4) (va_cwS 3 hts gX11_isFill_X11_in rfl rfl rfl (by decide +kernel) ⟨Nat.le_of_ble_eq_true rfl, Nat.le_of_ble_eq_true rfl⟩) preS0 rfl rfl hl.1 rfl (lv_room (Nat.le_of_ble_eq_true rfl)) dX11_isFill_29 ⟨Nat.le_of_ble_eq_true rfl, Nat.le_of_ble_eq_true rfl⟩) hA hP hS (fun H locs hP hS hbz_q4 => ?_)
      refine lv_if_eq (tgt := 65) hx hb dX11_isFill_32 (by decide) (fun c5 => ?_) (fun c5 => ?_)
      · have hf := it_e c5 hf
        refine lv_iconst (v := 0) hx hb dX11_isFill_65 (by decide) ?_
        obtain rfl := Option.some.inj hf
        rw [← hQ]
        exact e_zR hx hb hr rfl bz0 hS hlocks dX11_isFill_66
      · have hf := ie_e c5 hf
        refine lv_iload_n hx hb dX11_isFill_35 rfl (lv_at hl 2 rfl) ?_
        refine lv_i2l hx hb dX11_isFill_36 rfl ?_
        refine lv_lconst (v := 0) hx hb dX11_isFill_37 (by decide) ?_
        refine lv_ldc2 (own := RX11) hx hb hown k4 dX11_isFill_38 ?_
        obtain ⟨q6, hq6, hf⟩ := bd_e hf
        refine k_iR (va_runS (As := [.long (Int32.toInt64 p1), .long (0 : Int64), .long (1439 : Int64)]) (rest := []) ⟨hx, hb, hml, hown, hts⟩ (c_X11_in (l := l) (sz := H.size) (p0 := (Int32.toInt64 p1)) (p1 := (0 : Int64)) (p2 := (1439 : Int64)) hq6) (va_cwS 3 hts gX11_isFill_X11_in rfl rfl rfl (by decide +kernel) ⟨Nat.le_of_ble_eq_true rfl, Nat.le_of_ble_eq_true rfl⟩) preS0 rfl rfl hl.1 rfl (lv_room (Nat.le_of_ble_eq_true rfl)) dX11_isFill_41 ⟨Nat.le_of_ble_eq_true rfl, Nat.le_of_ble_eq_true rfl⟩) hA hP hS (fun H locs hP hS hbz_q6 => ?_)
        refine lv_if_eq (tgt := 65) hx hb dX11_isFill_44 (by decide) (fun c7 => ?_) (fun c7 => ?_)
        · have hf := it_e c7 hf
          refine lv_iconst (v := 0) hx hb dX11_isFill_65 (by decide) ?_
          obtain rfl := Option.some.inj hf
          rw [← hQ]
          exact e_zR hx hb hr rfl bz0 hS hlocks dX11_isFill_66
        · have hf := ie_e c7 hf
          refine lv_iload_n hx hb dX11_isFill_47 rfl (lv_at hl 2 rfl) ?_
          refine lv_bipush (v := 60) hx hb dX11_isFill_48 (by decide) ?_
          refine lv_iload_n hx hb dX11_isFill_50 rfl (lv_at hl 3 rfl) ?_
          refine lv_iconst (v := 1) hx hb dX11_isFill_51 (by decide) ?_
          refine lv_isub hx hb dX11_isFill_52 ?_
          refine lv_imul hx hb dX11_isFill_53 ?_
          refine lv_iadd hx hb dX11_isFill_54 ?_
          refine lv_sipush (v := 1440) hx hb dX11_isFill_55 (by decide) ?_
          refine lv_icmp_ge (tgt := 65) hx hb dX11_isFill_58 (by decide) (fun c8 => ?_) (fun c8 => ?_)
          · have hf := it_e c8 hf
            refine lv_iconst (v := 0) hx hb dX11_isFill_65 (by decide) ?_
            obtain rfl := Option.some.inj hf
            rw [← hQ]
            exact e_zR hx hb hr rfl bz0 hS hlocks dX11_isFill_66
          · have hf := ie_e c8 hf
            refine lv_iconst (v := 1) hx hb dX11_isFill_61 (by decide) ?_
            refine lv_goto (tgt := 66) hx hb dX11_isFill_62 (by decide) ?_
            obtain rfl := Option.some.inj hf
            rw [← hQ]
            exact e_zR hx hb hr rfl bz1 hS hlocks dX11_isFill_66

def f_X11_should (p0 : Int32) (p1 : Int32) (p2 : Int32) (p3 : Int32) (p4 : Int32) (m_down : Nat → Int32) (m_min : Nat → Int32) (m_gone : Nat → Int32) (m_flow : Nat → Int32) (m_str : Nat → Int32) (m_from : Nat → Int32) (m_to : Nat → Int32) (m_rain : Nat → Int32) (m_tell : Nat → Int32) (m_there : Int32) : Option (Int32) :=
  (f_X11_isNode p0 m_there).bind fun q1 =>
  if q1 = 0 then
    some ((-2))
  else
    (f_X11_isCup p1).bind fun q3 =>
    if q3 = 0 then
      some ((-2))
    else
      (f_X11_isFill p2 p3 p4 m_there).bind fun q5 =>
      if q5 = 0 then
        some ((-3))
      else
        (f_X11_shouldBy p0 (-1) (-1) p1 p2 p3 p4 m_down m_min m_gone m_flow m_str m_from m_to m_rain m_tell m_there).bind fun q7 =>
        if q7 = 0 then
          some (0)
        else
          some (1)
abbrev rmX11_should : Room := { frames := 5, cells := 0, slots := 0, locals := 126 }
set_option maxHeartbeats 4000000 in
set_option maxRecDepth 100000 in
theorem c_X11_should {l : Launch} {D : va_G} {g : Nat → ClassId} {N : Nat} {ad : Nat → Nat} {C : Nat → va_E} {sz : Nat} {m_len : Int32} {m_rm : Int32} {m_there : Int32} {m_lift : Int32} {m_blank : Int32} {m_fm : Int32} {m_at : Int32} {m_pl : Int32} {m_end : Int32} {m_seed : Int32} {m_down : Nat → Int32} {m_min : Nat → Int32} {m_gone : Nat → Int32} {m_flow : Nat → Int32} {m_str : Nat → Int32} {m_from : Nat → Int32} {m_to : Nat → Int32} {m_rain : Nat → Int32} {m_tell : Nat → Int32} {p0 : Int32} {p1 : Int32} {p2 : Int32} {p3 : Int32} {p4 : Int32} {rr : Int32} (hN : 109 ≤ N) (h86 : C 86 = .inr (11, [.ref (ad 87), .int m_len, .ref (ad 88), .int m_rm, .int m_there, .ref (ad 89), .ref (ad 90), .ref (ad 91), .ref (ad 92), .ref (ad 93), .ref (ad 94), .ref (ad 95), .ref (ad 96), .ref (ad 97), .ref (ad 98), .ref (ad 99), .ref (ad 100), .ref (ad 101), .int m_lift, .int m_blank, .ref (ad 102), .int m_fm, .int m_at, .int m_pl, .int m_end, .ref (ad 103), .ref (ad 104), .ref (ad 105), .ref (ad 106), .ref (ad 107), .ref (ad 108), .int m_seed])) (h89 : C 89 = aI g 12 m_down) (h90 : C 90 = aI g 12 m_min) (h92 : C 92 = aI g 12 m_gone) (h93 : C 93 = aI g 12 m_flow) (h95 : C 95 = aI g 12 m_str) (h96 : C 96 = aI g 12 m_from) (h97 : C 97 = aI g 12 m_to) (h98 : C 98 = aI g 24 m_rain) (h99 : C 99 = aI g 4 m_tell) (hf : f_X11_should p0 p1 p2 p3 p4 m_down m_min m_gone m_flow m_str m_from m_to m_rain m_tell m_there = some rr) : Met l yX11_should wsX11_should rmX11_should (PcW D g N ad C sz [.ref (ad 86), .int p0, .int p1, .int p2, .int p3, .int p4]) (QiR sz tP rr) 0 0 (An sz) := by
  refine Met.ofW (cc := cX11_should) (maxL := 6) (ret := (some .int)) (by decide) rfl ?_
  intro p e s m args below meth c s₁ B hml hv
  obtain ⟨hav, hsz, hK, hP⟩ := hv
  subst hsz
  have hx := B.exec
  have hb := B.bytes
  have hr := B.returns
  have hts := atoms_spec (ws := wsX11_should) B.pre
  have hown : s.vm.findClass RX11 = some m.cls := findClass_of_methodNamed B.named
  have hlocks := B.notSynchronized
  generalize hQ : MQ below (QiR s.heap.size tP rr) args s 0 0 (An s.heap.size) = QQ
  have hS : va_S (An s.heap.size) s.heap s.heap [] := va_S.rf
  have hA : ∀ q, s.heap.size ≤ q → (An s.heap.size) q := fun q h => h
  have hE := lg_entry_eq m [.ref (ad 86), .int p0, .int p1, .int p2, .int p3, .int p4] 6
  rw [← hav] at hE
  rw [hE]
  have hl := lv_entry [.ref (ad 86), .int p0, .int p1, .int p2, .int p3, .int p4] (n := 6) (Nat.le_of_ble_eq_true rfl)
  generalize (lg_sl [.ref (ad 86), .int p0, .int p1, .int p2, .int p3, .int p4] ++ List.replicate (6 - (lg_sl [.ref (ad 86), .int p0, .int p1, .int p2, .int p3, .int p4]).length) Slot.unset).toArray = ls at hl ⊢
  have hl : lv_has ls 6 [(0, .ref (ad 86)), (1, .int p0), (2, .int p1), (3, .int p2), (4, .int p3), (5, .int p4)] := hl
  clear hE
  unfold f_X11_should at hf
  suffices hgo : ∀ (H : Heap) (locs : List Loc), va_P D vwCl (wd N ad C) H → va_S (An s.heap.size) s.heap H locs → W p l e (headSpec wsX11_should rmX11_should).room s m args below meth c H locs 0 0 QQ (F0 m 0 ls []) from hgo s.heap [] hP hS
  clear hS hP
  intro H locs hP hS
  refine lv_aload_n hx hb dX11_should_0 rfl (lv_at hl 0 rfl) ?_
  refine lv_iload_n hx hb dX11_should_1 rfl (lv_at hl 1 rfl) ?_
  obtain ⟨q1, hq1, hf⟩ := bd_e hf
  refine k_iR (va_runV (C := RX11) (As := [.int p0]) (rest := []) ⟨hx, hb, hml, hown, hts⟩ (c_X11_isNode (l := l) (sz := H.size) (p0 := p0) hN h86 hq1) (cwV 1 hts gX11_should_X11_isNode rfl rfl rfl (by decide +kernel) ⟨Nat.le_of_ble_eq_true rfl, Nat.le_of_ble_eq_true rfl⟩) (preV_of hK hP (by omega) h86 rfl) rfl rfl hl.1 rfl (lv_room (Nat.le_of_ble_eq_true rfl)) dX11_should_2 ⟨Nat.le_of_ble_eq_true rfl, Nat.le_of_ble_eq_true rfl⟩) hA hP hS (fun H locs hP hS hbz_q1 => ?_)
  refine lv_if_eq (tgt := 15) hx hb dX11_should_5 (by decide) (fun c2 => ?_) (fun c2 => ?_)
  · have hf := it_e c2 hf
    refine lv_bipush (v := (-2)) hx hb dX11_should_15 (by decide) ?_
    obtain rfl := Option.some.inj hf
    rw [← hQ]
    exact e_iR hx hb hr rfl (tP_i _) hS hlocks dX11_should_17
  · have hf := ie_e c2 hf
    refine lv_iload_n hx hb dX11_should_8 rfl (lv_at hl 2 rfl) ?_
    obtain ⟨q3, hq3, hf⟩ := bd_e hf
    refine k_iR (va_runS (As := [.int p1]) (rest := []) ⟨hx, hb, hml, hown, hts⟩ (c_X11_isCup (l := l) (sz := H.size) (p0 := p1) hq3) (va_cwS 1 hts gX11_should_X11_isCup rfl rfl rfl (by decide +kernel) ⟨Nat.le_of_ble_eq_true rfl, Nat.le_of_ble_eq_true rfl⟩) preS0 rfl rfl hl.1 rfl (lv_room (Nat.le_of_ble_eq_true rfl)) dX11_should_9 ⟨Nat.le_of_ble_eq_true rfl, Nat.le_of_ble_eq_true rfl⟩) hA hP hS (fun H locs hP hS hbz_q3 => ?_)
    refine lv_if_ne (tgt := 18) hx hb dX11_should_12 (by decide) (fun c4 => ?_) (fun c4 => ?_)
    · have hf := ie_e c4 hf
      refine lv_aload_n hx hb dX11_should_18 rfl (lv_at hl 0 rfl) ?_
      refine lv_iload_n hx hb dX11_should_19 rfl (lv_at hl 3 rfl) ?_
      refine lv_iload hx hb dX11_should_20 (lv_at hl 4 rfl) ?_
      refine lv_iload hx hb dX11_should_22 (lv_at hl 5 rfl) ?_
      obtain ⟨q5, hq5, hf⟩ := bd_e hf
      refine k_iR (va_runV (C := RX11) (As := [.int p2, .int p3, .int p4]) (rest := []) ⟨hx, hb, hml, hown, hts⟩ (c_X11_isFill (l := l) (sz := H.size) (p0 := p2) (p1 := p3) (p2 := p4) hN h86 hq5) (cwV 3 hts gX11_should_X11_isFill rfl rfl rfl (by decide +kernel) ⟨Nat.le_of_ble_eq_true rfl, Nat.le_of_ble_eq_true rfl⟩) (preV_of hK hP (by omega) h86 rfl) rfl rfl hl.1 rfl (lv_room (Nat.le_of_ble_eq_true rfl)) dX11_should_24 ⟨Nat.le_of_ble_eq_true rfl, Nat.le_of_ble_eq_true rfl⟩) hA hP hS (fun H locs hP hS hbz_q5 => ?_)
      refine lv_if_ne (tgt := 33) hx hb dX11_should_27 (by decide) (fun c6 => ?_) (fun c6 => ?_)
      · have hf := ie_e c6 hf
        refine lv_aload_n hx hb dX11_should_33 rfl (lv_at hl 0 rfl) ?_
        refine lv_iload_n hx hb dX11_should_34 rfl (lv_at hl 1 rfl) ?_
        refine lv_iconst (v := (-1)) hx hb dX11_should_35 (by decide) ?_
        refine lv_iconst (v := (-1)) hx hb dX11_should_36 (by decide) ?_
        refine lv_iload_n hx hb dX11_should_37 rfl (lv_at hl 2 rfl) ?_
        refine lv_iload_n hx hb dX11_should_38 rfl (lv_at hl 3 rfl) ?_
        refine lv_iload hx hb dX11_should_39 (lv_at hl 4 rfl) ?_
        refine lv_iload hx hb dX11_should_41 (lv_at hl 5 rfl) ?_
        obtain ⟨q7, hq7, hf⟩ := bd_e hf
        refine k_iR (va_runV (C := RX11) (As := [.int p0, .int (-1), .int (-1), .int p1, .int p2, .int p3, .int p4]) (rest := []) ⟨hx, hb, hml, hown, hts⟩ (c_X11_shouldBy (l := l) (sz := H.size) (p0 := p0) (p1 := (-1)) (p2 := (-1)) (p3 := p1) (p4 := p2) (p5 := p3) (p6 := p4) hN h86 h89 h90 h92 h93 h95 h96 h97 h98 h99 hq7) (cwV 7 hts gX11_should_X11_shouldBy rfl rfl rfl (by decide +kernel) ⟨Nat.le_of_ble_eq_true rfl, Nat.le_of_ble_eq_true rfl⟩) (preV_of hK hP (by omega) h86 rfl) rfl rfl hl.1 rfl (lv_room (Nat.le_of_ble_eq_true rfl)) dX11_should_43 ⟨Nat.le_of_ble_eq_true rfl, Nat.le_of_ble_eq_true rfl⟩) hA hP hS (fun H locs hP hS hbz_q7 => ?_)
        refine lv_if_eq (tgt := 53) hx hb dX11_should_46 (by decide) (fun c8 => ?_) (fun c8 => ?_)
        · have hf := it_e c8 hf
          refine lv_iconst (v := 0) hx hb dX11_should_53 (by decide) ?_
          obtain rfl := Option.some.inj hf
          rw [← hQ]
          exact e_iR hx hb hr rfl (tP_i _) hS hlocks dX11_should_54
        · have hf := ie_e c8 hf
          refine lv_iconst (v := 1) hx hb dX11_should_49 (by decide) ?_
          refine lv_goto (tgt := 54) hx hb dX11_should_50 (by decide) ?_
          obtain rfl := Option.some.inj hf
          rw [← hQ]
          exact e_iR hx hb hr rfl (tP_i _) hS hlocks dX11_should_54
      · have hf := it_e c6 hf
        refine lv_bipush (v := (-3)) hx hb dX11_should_30 (by decide) ?_
        obtain rfl := Option.some.inj hf
        rw [← hQ]
        exact e_iR hx hb hr rfl (tP_i _) hS hlocks dX11_should_32
    · have hf := it_e c4 hf
      refine lv_bipush (v := (-2)) hx hb dX11_should_15 (by decide) ?_
      obtain rfl := Option.some.inj hf
      rw [← hQ]
      exact e_iR hx hb hr rfl (tP_i _) hS hlocks dX11_should_17

def f_X11_found (p0 : Int32) (p1 : Int32) (p2 : Int32) (p3 : Int32) (p4 : Int32) (m_finds : Nat → Int32) (m_there : Int32) (m_fm : Int32) : Option (Int32 × (Nat → Int32) × Int32) :=
  (f_X11_isCup p0).bind fun q1 =>
  if q1 = 0 then
    some ((-2), m_finds, m_fm)
  else
    (f_X11_isFill p1 p2 p3 m_there).bind fun q3 =>
    if q3 = 0 then
      some ((-3), m_finds, m_fm)
    else
      if m_fm = 10 then
        some ((-5), m_finds, m_fm)
      else
        lt ((5 * m_fm) : Int32) fun x6 =>
        wi m_finds 50 (x6) (p0) fun f7 =>
        wi f7 50 ((x6 + 1)) (p1) fun f9 =>
        wi f9 50 ((x6 + 2)) (p2) fun f11 =>
        wi f11 50 ((x6 + 3)) (p3) fun f13 =>
        (if p4 = 0 then
          some (0)
        else
          some (1) : Option (Int32)).bind fun q15 =>
        wi f13 50 ((x6 + 4)) (q15) fun f16 =>
        lt ((m_fm + 1) : Int32) fun x18 =>
        some (x18, f16, x18)
abbrev rmX11_found : Room := { frames := 2, cells := 0, slots := 0, locals := 48 }
set_option maxHeartbeats 4000000 in
set_option maxRecDepth 100000 in
theorem c_X11_found {l : Launch} {D : va_G} {g : Nat → ClassId} {N : Nat} {ad : Nat → Nat} {C : Nat → va_E} {sz : Nat} {m_len : Int32} {m_rm : Int32} {m_there : Int32} {m_lift : Int32} {m_blank : Int32} {m_fm : Int32} {m_at : Int32} {m_pl : Int32} {m_end : Int32} {m_seed : Int32} {m_finds : Nat → Int32} {p0 : Int32} {p1 : Int32} {p2 : Int32} {p3 : Int32} {p4 : Int32} {rr : Int32 × (Nat → Int32) × Int32} (hN : 109 ≤ N) (hI : Inj N ad) (hbz_p4 : bz p4) (h86 : C 86 = .inr (11, [.ref (ad 87), .int m_len, .ref (ad 88), .int m_rm, .int m_there, .ref (ad 89), .ref (ad 90), .ref (ad 91), .ref (ad 92), .ref (ad 93), .ref (ad 94), .ref (ad 95), .ref (ad 96), .ref (ad 97), .ref (ad 98), .ref (ad 99), .ref (ad 100), .ref (ad 101), .int m_lift, .int m_blank, .ref (ad 102), .int m_fm, .int m_at, .int m_pl, .int m_end, .ref (ad 103), .ref (ad 104), .ref (ad 105), .ref (ad 106), .ref (ad 107), .ref (ad 108), .int m_seed])) (h102 : C 102 = aI g 50 m_finds) (hf : f_X11_found p0 p1 p2 p3 p4 m_finds m_there m_fm = some rr) : Met l yX11_found wsX11_found rmX11_found (PcW D g N ad C sz [.ref (ad 86), .int p0, .int p1, .int p2, .int p3, .int p4]) (QiW D N ad sz tP rr.1 (fun C' => (∀ i : Nat, i ≠ 102 ∧ i ≠ 86 → C' i = C i) ∧ (C' 102 = aI g 50 rr.2.1) ∧ (C' 86 = .inr (11, [.ref (ad 87), .int m_len, .ref (ad 88), .int m_rm, .int m_there, .ref (ad 89), .ref (ad 90), .ref (ad 91), .ref (ad 92), .ref (ad 93), .ref (ad 94), .ref (ad 95), .ref (ad 96), .ref (ad 97), .ref (ad 98), .ref (ad 99), .ref (ad 100), .ref (ad 101), .int m_lift, .int m_blank, .ref (ad 102), .int rr.2.2, .int m_at, .int m_pl, .int m_end, .ref (ad 103), .ref (ad 104), .ref (ad 105), .ref (ad 106), .ref (ad 107), .ref (ad 108), .int m_seed])))) 0 0 (Aw N ad sz) := by
  refine Met.ofW (cc := cX11_found) (maxL := 7) (ret := (some .int)) (by decide) rfl ?_
  intro p e s m args below meth c s₁ B hml hv
  obtain ⟨hav, hsz, hK, hP⟩ := hv
  subst hsz
  have hx := B.exec
  have hb := B.bytes
  have hr := B.returns
  have hts := atoms_spec (ws := wsX11_found) B.pre
  have hown : s.vm.findClass RX11 = some m.cls := findClass_of_methodNamed B.named
  have hlocks := B.notSynchronized
  generalize hQ : MQ below (QiW D N ad s.heap.size tP rr.1 (fun C' => (∀ i : Nat, i ≠ 102 ∧ i ≠ 86 → C' i = C i) ∧ (C' 102 = aI g 50 rr.2.1) ∧ (C' 86 = .inr (11, [.ref (ad 87), .int m_len, .ref (ad 88), .int m_rm, .int m_there, .ref (ad 89), .ref (ad 90), .ref (ad 91), .ref (ad 92), .ref (ad 93), .ref (ad 94), .ref (ad 95), .ref (ad 96), .ref (ad 97), .ref (ad 98), .ref (ad 99), .ref (ad 100), .ref (ad 101), .int m_lift, .int m_blank, .ref (ad 102), .int rr.2.2, .int m_at, .int m_pl, .int m_end, .ref (ad 103), .ref (ad 104), .ref (ad 105), .ref (ad 106), .ref (ad 107), .ref (ad 108), .int m_seed])))) args s 0 0 (Aw N ad s.heap.size) = QQ
  have hS : va_S (Aw N ad s.heap.size) s.heap s.heap [] := va_S.rf
  have hA : ∀ q, s.heap.size ≤ q → (Aw N ad s.heap.size) q := fun q h => Or.inr h
  have hAd : ∀ j : Nat, j < N → (Aw N ad s.heap.size) (ad j) := fun j h => Or.inl ⟨j, h, rfl⟩
  obtain ⟨C0, hC0⟩ : ∃ C0 : Nat → va_E, C0 = C := ⟨_, rfl⟩
  have hag : ∀ i : Nat, i ≠ 102 ∧ i ≠ 86 → C i = C0 i := fun i _ => by rw [hC0]
  rw [← hC0] at hQ
  have k0 := hts (.fieldLink RX11 207 "UpDrainModel" "findMany" "I") (List.mem_of_getElem? (i := 1) rfl)
  have nX11 : ∀ w ∈ u_ws RX11 TX11 32, w ∈ wsX11_found := fun _ h => List.mem_cons_of_mem _ (List.mem_append_right _ h)
  have k2 := hts (.fieldLink RX11 59 "UpDrainModel" "finds" "[I") (List.mem_of_getElem? (i := 2) rfl)
  have hE := lg_entry_eq m [.ref (ad 86), .int p0, .int p1, .int p2, .int p3, .int p4] 7
  rw [← hav] at hE
  rw [hE]
  have hl := lv_entry [.ref (ad 86), .int p0, .int p1, .int p2, .int p3, .int p4] (n := 7) (Nat.le_of_ble_eq_true rfl)
  generalize (lg_sl [.ref (ad 86), .int p0, .int p1, .int p2, .int p3, .int p4] ++ List.replicate (7 - (lg_sl [.ref (ad 86), .int p0, .int p1, .int p2, .int p3, .int p4]).length) Slot.unset).toArray = ls at hl ⊢
  have hl : lv_has ls 7 [(0, .ref (ad 86)), (1, .int p0), (2, .int p1), (3, .int p2), (4, .int p3), (5, .int p4)] := hl
  clear hE
  unfold f_X11_found at hf
  suffices hgo : ∀ (H : Heap) (locs : List Loc), va_P D vwCl (wd N ad C) H → va_S (Aw N ad s.heap.size) s.heap H locs → W p l e (headSpec wsX11_found rmX11_found).room s m args below meth c H locs 0 0 QQ (F0 m 0 ls []) from hgo s.heap [] hP hS
  clear hS hP
  intro H locs hP hS
  refine lv_iload_n hx hb dX11_found_0 rfl (lv_at hl 1 rfl) ?_
  obtain ⟨q1, hq1, hf⟩ := bd_e hf
  refine k_iR (va_runS (As := [.int p0]) (rest := []) ⟨hx, hb, hml, hown, hts⟩ (c_X11_isCup (l := l) (sz := H.size) (p0 := p0) hq1) (va_cwS 1 hts gX11_found_X11_isCup rfl rfl rfl (by decide +kernel) ⟨Nat.le_of_ble_eq_true rfl, Nat.le_of_ble_eq_true rfl⟩) preS0 rfl rfl hl.1 rfl (lv_room (Nat.le_of_ble_eq_true rfl)) dX11_found_1 ⟨Nat.le_of_ble_eq_true rfl, Nat.le_of_ble_eq_true rfl⟩) hA hP hS (fun H locs hP hS hbz_q1 => ?_)
  refine lv_if_ne (tgt := 10) hx hb dX11_found_4 (by decide) (fun c2 => ?_) (fun c2 => ?_)
  · have hf := ie_e c2 hf
    refine lv_aload_n hx hb dX11_found_10 rfl (lv_at hl 0 rfl) ?_
    refine lv_iload_n hx hb dX11_found_11 rfl (lv_at hl 2 rfl) ?_
    refine lv_iload_n hx hb dX11_found_12 rfl (lv_at hl 3 rfl) ?_
    refine lv_iload hx hb dX11_found_13 (lv_at hl 4 rfl) ?_
    obtain ⟨q3, hq3, hf⟩ := bd_e hf
    refine k_iR (va_runV (C := RX11) (As := [.int p1, .int p2, .int p3]) (rest := []) ⟨hx, hb, hml, hown, hts⟩ (c_X11_isFill (l := l) (sz := H.size) (p0 := p1) (p1 := p2) (p2 := p3) hN h86 hq3) (cwV 3 hts gX11_found_X11_isFill rfl rfl rfl (by decide +kernel) ⟨Nat.le_of_ble_eq_true rfl, Nat.le_of_ble_eq_true rfl⟩) (preV_of hK hP (by omega) h86 rfl) rfl rfl hl.1 rfl (lv_room (Nat.le_of_ble_eq_true rfl)) dX11_found_15 ⟨Nat.le_of_ble_eq_true rfl, Nat.le_of_ble_eq_true rfl⟩) hA hP hS (fun H locs hP hS hbz_q3 => ?_)
    refine lv_if_ne (tgt := 24) hx hb dX11_found_18 (by decide) (fun c4 => ?_) (fun c4 => ?_)
    · have hf := ie_e c4 hf
      refine lv_aload_n hx hb dX11_found_24 rfl (lv_at hl 0 rfl) ?_
      refine r_get (own := RX11) (T := TX11) (n := 32) (ci := 11) (v := .int m_fm) hx hb hts nX11 hown hK hP (by omega) h86 rfl 21 (by decide) k0 rfl dX11_found_25 ?_
      refine lv_bipush (v := 10) hx hb dX11_found_28 (by decide) ?_
      refine lv_icmp_ne (tgt := 36) hx hb dX11_found_30 (by decide) (fun c5 => ?_) (fun c5 => ?_)
      · have hf := ie_e c5 hf
        refine lv_iconst (v := 5) hx hb dX11_found_36 (by decide) ?_
        refine lv_aload_n hx hb dX11_found_37 rfl (lv_at hl 0 rfl) ?_
        refine r_get (own := RX11) (T := TX11) (n := 32) (ci := 11) (v := .int m_fm) hx hb hts nX11 hown hK hP (by omega) h86 rfl 21 (by decide) k0 rfl dX11_found_38 ?_
        refine lv_imul hx hb dX11_found_41 ?_
        obtain ⟨x6, ex6, hf⟩ := lt_e hf
        refine tp_i ex6 ?_
        refine lv_istore (lv' := [(6, .int x6), (0, .ref (ad 86)), (1, .int p0), (2, .int p1), (3, .int p2), (4, .int p3), (5, .int p4)]) hx hb dX11_found_42 hl (by decide) rfl (fun ls hl => ?_)
        refine lv_aload_n hx hb dX11_found_44 rfl (lv_at hl 1 rfl) ?_
        refine r_get (own := RX11) (T := TX11) (n := 32) (ci := 11) (v := .ref (ad 102)) hx hb hts nX11 hown hK hP (by omega) h86 rfl 20 (by decide) k2 rfl dX11_found_45 ?_
        refine lv_iload hx hb dX11_found_48 (lv_at hl 0 rfl) ?_
        refine lv_iload_n hx hb dX11_found_50 rfl (lv_at hl 2 rfl) ?_
        obtain ⟨i8, f7, ef7, hf⟩ := wi_e hf
        refine r_iast hx hb hK hI hAd hP hS (by omega) h102 i8 dX11_found_51 ef7 (fun C H locs hP hS he hn => ?_)
        have hag : ∀ i : Nat, i ≠ 102 ∧ i ≠ 86 → C i = C0 i := fun i h => (he i (by omega)).trans (hag i h)
        have h86 := (he 86 (by decide)).trans h86
        have h102 : C 102 = aI g 50 f7 := hn
        refine lv_aload_n hx hb dX11_found_52 rfl (lv_at hl 1 rfl) ?_
        refine r_get (own := RX11) (T := TX11) (n := 32) (ci := 11) (v := .ref (ad 102)) hx hb hts nX11 hown hK hP (by omega) h86 rfl 20 (by decide) k2 rfl dX11_found_53 ?_
        refine lv_iload hx hb dX11_found_56 (lv_at hl 0 rfl) ?_
        refine lv_iconst (v := 1) hx hb dX11_found_58 (by decide) ?_
        refine lv_iadd hx hb dX11_found_59 ?_
        refine lv_iload_n hx hb dX11_found_60 rfl (lv_at hl 3 rfl) ?_
        obtain ⟨i10, f9, ef9, hf⟩ := wi_e hf
        refine r_iast hx hb hK hI hAd hP hS (by omega) h102 i10 dX11_found_61 ef9 (fun C H locs hP hS he hn => ?_)
        have hag : ∀ i : Nat, i ≠ 102 ∧ i ≠ 86 → C i = C0 i := fun i h => (he i (by omega)).trans (hag i h)
        have h86 := (he 86 (by decide)).trans h86
        have h102 : C 102 = aI g 50 f9 := hn
        refine lv_aload_n hx hb dX11_found_62 rfl (lv_at hl 1 rfl) ?_
        refine r_get (own := RX11) (T := TX11) (n := 32) (ci := 11) (v := .ref (ad 102)) hx hb hts nX11 hown hK hP (by omega) h86 rfl 20 (by decide) k2 rfl dX11_found_63 ?_
        refine lv_iload hx hb dX11_found_66 (lv_at hl 0 rfl) ?_
        refine lv_iconst (v := 2) hx hb dX11_found_68 (by decide) ?_
        refine lv_iadd hx hb dX11_found_69 ?_
        refine lv_iload_n hx hb dX11_found_70 rfl (lv_at hl 4 rfl) ?_
        obtain ⟨i12, f11, ef11, hf⟩ := wi_e hf
        refine r_iast hx hb hK hI hAd hP hS (by omega) h102 i12 dX11_found_71 ef11 (fun C H locs hP hS he hn => ?_)
        have hag : ∀ i : Nat, i ≠ 102 ∧ i ≠ 86 → C i = C0 i := fun i h => (he i (by omega)).trans (hag i h)
        have h86 := (he 86 (by decide)).trans h86
        have h102 : C 102 = aI g 50 f11 := hn
        refine lv_aload_n hx hb dX11_found_72 rfl (lv_at hl 1 rfl) ?_
        refine r_get (own := RX11) (T := TX11) (n := 32) (ci := 11) (v := .ref (ad 102)) hx hb hts nX11 hown hK hP (by omega) h86 rfl 20 (by decide) k2 rfl dX11_found_73 ?_
        refine lv_iload hx hb dX11_found_76 (lv_at hl 0 rfl) ?_
        refine lv_iconst (v := 3) hx hb dX11_found_78 (by decide) ?_
        refine lv_iadd hx hb dX11_found_79 ?_
        refine lv_iload hx hb dX11_found_80 (lv_at hl 5 rfl) ?_
        obtain ⟨i14, f13, ef13, hf⟩ := wi_e hf
        refine r_iast hx hb hK hI hAd hP hS (by omega) h102 i14 dX11_found_82 ef13 (fun C H locs hP hS he hn => ?_)
        have hag : ∀ i : Nat, i ≠ 102 ∧ i ≠ 86 → C i = C0 i := fun i h => (he i (by omega)).trans (hag i h)
        have h86 := (he 86 (by decide)).trans h86
        have h102 : C 102 = aI g 50 f13 := hn
        refine lv_aload_n hx hb dX11_found_83 rfl (lv_at hl 1 rfl) ?_
        refine r_get (own := RX11) (T := TX11) (n := 32) (ci := 11) (v := .ref (ad 102)) hx hb hts nX11 hown hK hP (by omega) h86 rfl 20 (by decide) k2 rfl dX11_found_84 ?_
        refine lv_iload hx hb dX11_found_87 (lv_at hl 0 rfl) ?_
        refine lv_iconst (v := 4) hx hb dX11_found_89 (by decide) ?_
        refine lv_iadd hx hb dX11_found_90 ?_
        refine lv_iload hx hb dX11_found_91 (lv_at hl 6 rfl) ?_
        obtain ⟨q15, htq15, hf⟩ := bd_e hf
        have jnq15 : ∀ (C : Nat → va_E) (H : Heap) (locs : List Loc) (ls : Array Slot), va_P D vwCl (wd N ad C) H → va_S (Aw N ad s.heap.size) s.heap H locs → (∀ i : Nat, i ≠ 102 ∧ i ≠ 86 → C i = C0 i) → C 86 = .inr (11, [.ref (ad 87), .int m_len, .ref (ad 88), .int m_rm, .int m_there, .ref (ad 89), .ref (ad 90), .ref (ad 91), .ref (ad 92), .ref (ad 93), .ref (ad 94), .ref (ad 95), .ref (ad 96), .ref (ad 97), .ref (ad 98), .ref (ad 99), .ref (ad 100), .ref (ad 101), .int m_lift, .int m_blank, .ref (ad 102), .int m_fm, .int m_at, .int m_pl, .int m_end, .ref (ad 103), .ref (ad 104), .ref (ad 105), .ref (ad 106), .ref (ad 107), .ref (ad 108), .int m_seed]) → C 102 = aI g 50 f13 → lv_has ls 7 [(0, .ref (ad 86)), (1, .int p0), (2, .int p1), (3, .int p2), (4, .int p3), (5, .int p4), (6, .int x6)] → W p l e (headSpec wsX11_found rmX11_found).room s m args below meth c H locs 0 0 QQ (F0 m 101 ls [.int q15, .int (x6 + 4), .ref (ad 102)]) := by
          intro C H locs ls hP hS hag h86 h102 hl
          obtain ⟨i17, f16, ef16, hf⟩ := wi_e hf
          refine r_iast hx hb hK hI hAd hP hS (by omega) h102 i17 dX11_found_101 ef16 (fun C H locs hP hS he hn => ?_)
          have hag : ∀ i : Nat, i ≠ 102 ∧ i ≠ 86 → C i = C0 i := fun i h => (he i (by omega)).trans (hag i h)
          have h86 := (he 86 (by decide)).trans h86
          have h102 : C 102 = aI g 50 f16 := hn
          refine lv_aload_n hx hb dX11_found_102 rfl (lv_at hl 0 rfl) ?_
          refine lv_dup hx hb dX11_found_103 rfl ?_
          refine r_get (own := RX11) (T := TX11) (n := 32) (ci := 11) (v := .int m_fm) hx hb hts nX11 hown hK hP (by omega) h86 rfl 21 (by decide) k0 rfl dX11_found_104 ?_
          refine lv_iconst (v := 1) hx hb dX11_found_107 (by decide) ?_
          refine lv_iadd hx hb dX11_found_108 ?_
          obtain ⟨x18, ex18, hf⟩ := lt_e hf
          refine tp_i ex18 ?_
          refine r_put (own := RX11) (T := TX11) (n := 32) (ci := 11) (v := .int x18) hx hb hts nX11 tyX11 tyX11_ok nmX11 hown hK hI hAd hP hS (by omega) h86 rfl 21 (by decide) k0 rfl rfl rfl (Nat.le_of_ble_eq_true rfl) dX11_found_109 (fun C H locs hP hS he hn => ?_)
          have hag : ∀ i : Nat, i ≠ 102 ∧ i ≠ 86 → C i = C0 i := fun i h => (he i (by omega)).trans (hag i h)
          have h102 := (he 102 (by decide)).trans h102
          have h86 : C 86 = .inr (11, [.ref (ad 87), .int m_len, .ref (ad 88), .int m_rm, .int m_there, .ref (ad 89), .ref (ad 90), .ref (ad 91), .ref (ad 92), .ref (ad 93), .ref (ad 94), .ref (ad 95), .ref (ad 96), .ref (ad 97), .ref (ad 98), .ref (ad 99), .ref (ad 100), .ref (ad 101), .int m_lift, .int m_blank, .ref (ad 102), .int x18, .int m_at, .int m_pl, .int m_end, .ref (ad 103), .ref (ad 104), .ref (ad 105), .ref (ad 106), .ref (ad 107), .ref (ad 108), .int m_seed]) := hn
          refine lv_aload_n hx hb dX11_found_112 rfl (lv_at hl 0 rfl) ?_
          refine r_get (own := RX11) (T := TX11) (n := 32) (ci := 11) (v := .int x18) hx hb hts nX11 hown hK hP (by omega) h86 rfl 21 (by decide) k0 rfl dX11_found_113 ?_
          obtain rfl := Option.some.inj hf
          rw [← hQ]
          exact e_iW hx hb hr rfl (tP_i _) hP hS ⟨hag, h102, h86⟩ hlocks dX11_found_116
        clear hf
        have hf := htq15
        refine lv_if_eq (tgt := 100) hx hb dX11_found_93 (by decide) (fun c19 => ?_) (fun c19 => ?_)
        · have hf := it_e c19 hf
          refine lv_iconst (v := 0) hx hb dX11_found_100 (by decide) ?_
          obtain rfl := Option.some.inj hf
          exact jnq15 C H locs ls hP hS hag h86 h102 (lv_sub hl [1, 2, 3, 4, 5, 6, 0] rfl)
        · have hf := ie_e c19 hf
          refine lv_iconst (v := 1) hx hb dX11_found_96 (by decide) ?_
          refine lv_goto (tgt := 101) hx hb dX11_found_97 (by decide) ?_
          obtain rfl := Option.some.inj hf
          exact jnq15 C H locs ls hP hS hag h86 h102 (lv_sub hl [1, 2, 3, 4, 5, 6, 0] rfl)
      · have hf := it_e c5 hf
        refine lv_bipush (v := (-5)) hx hb dX11_found_33 (by decide) ?_
        obtain rfl := Option.some.inj hf
        rw [← hQ]
        exact e_iW hx hb hr rfl (tP_i _) hP hS ⟨hag, h102, h86⟩ hlocks dX11_found_35
    · have hf := it_e c4 hf
      refine lv_bipush (v := (-3)) hx hb dX11_found_21 (by decide) ?_
      obtain rfl := Option.some.inj hf
      rw [← hQ]
      exact e_iW hx hb hr rfl (tP_i _) hP hS ⟨hag, h102, h86⟩ hlocks dX11_found_23
  · have hf := it_e c2 hf
    refine lv_bipush (v := (-2)) hx hb dX11_found_7 (by decide) ?_
    obtain rfl := Option.some.inj hf
    rw [← hQ]
    exact e_iW hx hb hr rfl (tP_i _) hP hS ⟨hag, h102, h86⟩ hlocks dX11_found_9

def f_X11_forget (m_fm : Int32) : Option (Int32 × Int32) :=
  some (m_fm, 0)
abbrev rmX11_forget : Room := { frames := 0, cells := 0, slots := 0, locals := 0 }
set_option maxHeartbeats 4000000 in
set_option maxRecDepth 100000 in
theorem c_X11_forget {l : Launch} {D : va_G} {g : Nat → ClassId} {N : Nat} {ad : Nat → Nat} {C : Nat → va_E} {sz : Nat} {m_len : Int32} {m_rm : Int32} {m_there : Int32} {m_lift : Int32} {m_blank : Int32} {m_fm : Int32} {m_at : Int32} {m_pl : Int32} {m_end : Int32} {m_seed : Int32}  {rr : Int32 × Int32} (hN : 109 ≤ N) (hI : Inj N ad) (h86 : C 86 = .inr (11, [.ref (ad 87), .int m_len, .ref (ad 88), .int m_rm, .int m_there, .ref (ad 89), .ref (ad 90), .ref (ad 91), .ref (ad 92), .ref (ad 93), .ref (ad 94), .ref (ad 95), .ref (ad 96), .ref (ad 97), .ref (ad 98), .ref (ad 99), .ref (ad 100), .ref (ad 101), .int m_lift, .int m_blank, .ref (ad 102), .int m_fm, .int m_at, .int m_pl, .int m_end, .ref (ad 103), .ref (ad 104), .ref (ad 105), .ref (ad 106), .ref (ad 107), .ref (ad 108), .int m_seed])) (hf : f_X11_forget m_fm = some rr) : Met l yX11_forget wsX11_forget rmX11_forget (PcW D g N ad C sz [.ref (ad 86)]) (QiW D N ad sz tP rr.1 (fun C' => (∀ i : Nat, i ≠ 86 → C' i = C i) ∧ (C' 86 = .inr (11, [.ref (ad 87), .int m_len, .ref (ad 88), .int m_rm, .int m_there, .ref (ad 89), .ref (ad 90), .ref (ad 91), .ref (ad 92), .ref (ad 93), .ref (ad 94), .ref (ad 95), .ref (ad 96), .ref (ad 97), .ref (ad 98), .ref (ad 99), .ref (ad 100), .ref (ad 101), .int m_lift, .int m_blank, .ref (ad 102), .int rr.2, .int m_at, .int m_pl, .int m_end, .ref (ad 103), .ref (ad 104), .ref (ad 105), .ref (ad 106), .ref (ad 107), .ref (ad 108), .int m_seed])))) 0 0 (Aw N ad sz) := by
  refine Met.ofW (cc := cX11_forget) (maxL := 2) (ret := (some .int)) (by decide) rfl ?_
  intro p e s m args below meth c s₁ B hml hv
  obtain ⟨hav, hsz, hK, hP⟩ := hv
  subst hsz
  have hx := B.exec
  have hb := B.bytes
  have hr := B.returns
  have hts := atoms_spec (ws := wsX11_forget) B.pre
  have hown : s.vm.findClass RX11 = some m.cls := findClass_of_methodNamed B.named
  have hlocks := B.notSynchronized
  generalize hQ : MQ below (QiW D N ad s.heap.size tP rr.1 (fun C' => (∀ i : Nat, i ≠ 86 → C' i = C i) ∧ (C' 86 = .inr (11, [.ref (ad 87), .int m_len, .ref (ad 88), .int m_rm, .int m_there, .ref (ad 89), .ref (ad 90), .ref (ad 91), .ref (ad 92), .ref (ad 93), .ref (ad 94), .ref (ad 95), .ref (ad 96), .ref (ad 97), .ref (ad 98), .ref (ad 99), .ref (ad 100), .ref (ad 101), .int m_lift, .int m_blank, .ref (ad 102), .int rr.2, .int m_at, .int m_pl, .int m_end, .ref (ad 103), .ref (ad 104), .ref (ad 105), .ref (ad 106), .ref (ad 107), .ref (ad 108), .int m_seed])))) args s 0 0 (Aw N ad s.heap.size) = QQ
  have hS : va_S (Aw N ad s.heap.size) s.heap s.heap [] := va_S.rf
  have hA : ∀ q, s.heap.size ≤ q → (Aw N ad s.heap.size) q := fun q h => Or.inr h
  have hAd : ∀ j : Nat, j < N → (Aw N ad s.heap.size) (ad j) := fun j h => Or.inl ⟨j, h, rfl⟩
  obtain ⟨C0, hC0⟩ : ∃ C0 : Nat → va_E, C0 = C := ⟨_, rfl⟩
  have hag : ∀ i : Nat, i ≠ 86 → C i = C0 i := fun i _ => by rw [hC0]
  rw [← hC0] at hQ
  have k0 := hts (.fieldLink RX11 207 "UpDrainModel" "findMany" "I") (List.mem_of_getElem? (i := 1) rfl)
  have nX11 : ∀ w ∈ u_ws RX11 TX11 32, w ∈ wsX11_forget := fun _ h => List.mem_cons_of_mem _ (List.mem_append_right _ h)
  have hE := lg_entry_eq m [.ref (ad 86)] 2
  rw [← hav] at hE
  rw [hE]
  have hl := lv_entry [.ref (ad 86)] (n := 2) (Nat.le_of_ble_eq_true rfl)
  generalize (lg_sl [.ref (ad 86)] ++ List.replicate (2 - (lg_sl [.ref (ad 86)]).length) Slot.unset).toArray = ls at hl ⊢
  have hl : lv_has ls 2 [(0, .ref (ad 86))] := hl
  clear hE
  unfold f_X11_forget at hf
  suffices hgo : ∀ (H : Heap) (locs : List Loc), va_P D vwCl (wd N ad C) H → va_S (Aw N ad s.heap.size) s.heap H locs → W p l e (headSpec wsX11_forget rmX11_forget).room s m args below meth c H locs 0 0 QQ (F0 m 0 ls []) from hgo s.heap [] hP hS
  clear hS hP
  intro H locs hP hS
  refine lv_aload_n hx hb dX11_forget_0 rfl (lv_at hl 0 rfl) ?_
  refine r_get (own := RX11) (T := TX11) (n := 32) (ci := 11) (v := .int m_fm) hx hb hts nX11 hown hK hP (by omega) h86 rfl 21 (by decide) k0 rfl dX11_forget_1 ?_
  refine lv_istore_n (lv' := [(1, .int m_fm), (0, .ref (ad 86))]) hx hb dX11_forget_4 rfl hl (by decide) rfl (fun ls hl => ?_)
  refine lv_aload_n hx hb dX11_forget_5 rfl (lv_at hl 1 rfl) ?_
  refine lv_iconst (v := 0) hx hb dX11_forget_6 (by decide) ?_
  refine r_put (own := RX11) (T := TX11) (n := 32) (ci := 11) (v := .int 0) hx hb hts nX11 tyX11 tyX11_ok nmX11 hown hK hI hAd hP hS (by omega) h86 rfl 21 (by decide) k0 rfl rfl rfl (Nat.le_of_ble_eq_true rfl) dX11_forget_7 (fun C H locs hP hS he hn => ?_)
  have hag : ∀ i : Nat, i ≠ 86 → C i = C0 i := fun i h => (he i (by omega)).trans (hag i h)
  have h86 : C 86 = .inr (11, [.ref (ad 87), .int m_len, .ref (ad 88), .int m_rm, .int m_there, .ref (ad 89), .ref (ad 90), .ref (ad 91), .ref (ad 92), .ref (ad 93), .ref (ad 94), .ref (ad 95), .ref (ad 96), .ref (ad 97), .ref (ad 98), .ref (ad 99), .ref (ad 100), .ref (ad 101), .int m_lift, .int m_blank, .ref (ad 102), .int 0, .int m_at, .int m_pl, .int m_end, .ref (ad 103), .ref (ad 104), .ref (ad 105), .ref (ad 106), .ref (ad 107), .ref (ad 108), .int m_seed]) := hn
  refine lv_iload_n hx hb dX11_forget_10 rfl (lv_at hl 0 rfl) ?_
  obtain rfl := Option.some.inj hf
  rw [← hQ]
  exact e_iW hx hb hr rfl (tP_i _) hP hS ⟨hag, h86⟩ hlocks dX11_forget_11

def f_X11_yes (p0 : Int32) (p1 : Int32) (m_fy : Nat → Int32) (m_fn : Nat → Int32) : Option (Int32) :=
  if p1 = 0 then
    ri m_fy 4 (p0) fun x2 =>
    some (x2)
  else
    ri m_fn 4 (p0) fun x4 =>
    some ((10 - x4))
abbrev rmX11_yes : Room := { frames := 0, cells := 0, slots := 0, locals := 0 }
set_option maxHeartbeats 4000000 in
set_option maxRecDepth 100000 in
theorem c_X11_yes {l : Launch} {D : va_G} {g : Nat → ClassId} {N : Nat} {ad : Nat → Nat} {C : Nat → va_E} {sz : Nat} {m_len : Int32} {m_rm : Int32} {m_there : Int32} {m_lift : Int32} {m_blank : Int32} {m_fm : Int32} {m_at : Int32} {m_pl : Int32} {m_end : Int32} {m_seed : Int32} {m_fy : Nat → Int32} {m_fn : Nat → Int32} {p0 : Int32} {p1 : Int32} {rr : Int32} (hN : 109 ≤ N) (hbz_p1 : bz p1) (h86 : C 86 = .inr (11, [.ref (ad 87), .int m_len, .ref (ad 88), .int m_rm, .int m_there, .ref (ad 89), .ref (ad 90), .ref (ad 91), .ref (ad 92), .ref (ad 93), .ref (ad 94), .ref (ad 95), .ref (ad 96), .ref (ad 97), .ref (ad 98), .ref (ad 99), .ref (ad 100), .ref (ad 101), .int m_lift, .int m_blank, .ref (ad 102), .int m_fm, .int m_at, .int m_pl, .int m_end, .ref (ad 103), .ref (ad 104), .ref (ad 105), .ref (ad 106), .ref (ad 107), .ref (ad 108), .int m_seed])) (h100 : C 100 = aI g 4 m_fy) (h101 : C 101 = aI g 4 m_fn) (hf : f_X11_yes p0 p1 m_fy m_fn = some rr) : Met l yX11_yes wsX11_yes rmX11_yes (PcW D g N ad C sz [.ref (ad 86), .int p0, .int p1]) (QiR sz tP rr) 0 0 (An sz) := by
  refine Met.ofW (cc := cX11_yes) (maxL := 3) (ret := (some .int)) (by decide) rfl ?_
  intro p e s m args below meth c s₁ B hml hv
  obtain ⟨hav, hsz, hK, hP⟩ := hv
  subst hsz
  have hx := B.exec
  have hb := B.bytes
  have hr := B.returns
  have hts := atoms_spec (ws := wsX11_yes) B.pre
  have hown : s.vm.findClass RX11 = some m.cls := findClass_of_methodNamed B.named
  have hlocks := B.notSynchronized
  generalize hQ : MQ below (QiR s.heap.size tP rr) args s 0 0 (An s.heap.size) = QQ
  have hS : va_S (An s.heap.size) s.heap s.heap [] := va_S.rf
  have hA : ∀ q, s.heap.size ≤ q → (An s.heap.size) q := fun q h => h
  have k0 := hts (.fieldLink RX11 53 "UpDrainModel" "falseYes" "[I") (List.mem_of_getElem? (i := 2) rfl)
  have nX11 : ∀ w ∈ u_ws RX11 TX11 32, w ∈ wsX11_yes := fun _ h => List.mem_cons_of_mem _ (List.mem_append_right _ h)
  have k2 := hts (.fieldLink RX11 56 "UpDrainModel" "falseNo" "[I") (List.mem_of_getElem? (i := 1) rfl)
  have hE := lg_entry_eq m [.ref (ad 86), .int p0, .int p1] 3
  rw [← hav] at hE
  rw [hE]
  have hl := lv_entry [.ref (ad 86), .int p0, .int p1] (n := 3) (Nat.le_of_ble_eq_true rfl)
  generalize (lg_sl [.ref (ad 86), .int p0, .int p1] ++ List.replicate (3 - (lg_sl [.ref (ad 86), .int p0, .int p1]).length) Slot.unset).toArray = ls at hl ⊢
  have hl : lv_has ls 3 [(0, .ref (ad 86)), (1, .int p0), (2, .int p1)] := hl
  clear hE
  unfold f_X11_yes at hf
  suffices hgo : ∀ (H : Heap) (locs : List Loc), va_P D vwCl (wd N ad C) H → va_S (An s.heap.size) s.heap H locs → W p l e (headSpec wsX11_yes rmX11_yes).room s m args below meth c H locs 0 0 QQ (F0 m 0 ls []) from hgo s.heap [] hP hS
  clear hS hP
  intro H locs hP hS
  refine lv_iload_n hx hb dX11_yes_0 rfl (lv_at hl 2 rfl) ?_
  refine lv_if_eq (tgt := 16) hx hb dX11_yes_1 (by decide) (fun c1 => ?_) (fun c1 => ?_)
  · have hf := it_e c1 hf
    refine lv_aload_n hx hb dX11_yes_16 rfl (lv_at hl 0 rfl) ?_
    refine r_get (own := RX11) (T := TX11) (n := 32) (ci := 11) (v := .ref (ad 100)) hx hb hts nX11 hown hK hP (by omega) h86 rfl 16 (by decide) k0 rfl dX11_yes_17 ?_
    refine lv_iload_n hx hb dX11_yes_20 rfl (lv_at hl 1 rfl) ?_
    obtain ⟨i3, x2, ex2, hf⟩ := ri_e hf
    refine r_iald hx hb hK hP (by omega) h100 i3 dX11_yes_21 ex2 ?_
    obtain rfl := Option.some.inj hf
    rw [← hQ]
    exact e_iR hx hb hr rfl (tP_i _) hS hlocks dX11_yes_22
  · have hf := ie_e c1 hf
    refine lv_bipush (v := 10) hx hb dX11_yes_4 (by decide) ?_
    refine lv_aload_n hx hb dX11_yes_6 rfl (lv_at hl 0 rfl) ?_
    refine r_get (own := RX11) (T := TX11) (n := 32) (ci := 11) (v := .ref (ad 101)) hx hb hts nX11 hown hK hP (by omega) h86 rfl 17 (by decide) k2 rfl dX11_yes_7 ?_
    refine lv_iload_n hx hb dX11_yes_10 rfl (lv_at hl 1 rfl) ?_
    obtain ⟨i5, x4, ex4, hf⟩ := ri_e hf
    refine r_iald hx hb hK hP (by omega) h101 i5 dX11_yes_11 ex4 ?_
    refine lv_isub hx hb dX11_yes_12 ?_
    refine lv_goto (tgt := 22) hx hb dX11_yes_13 (by decide) ?_
    obtain rfl := Option.some.inj hf
    rw [← hQ]
    exact e_iR hx hb hr rfl (tP_i _) hS hlocks dX11_yes_22

def LX11_thought_6 (p1 : Int32) (p2 : Int32) (m_down : Nat → Int32) (m_min : Nat → Int32) (m_gone : Nat → Int32) (m_flow : Nat → Int32) (m_str : Nat → Int32) (m_from : Nat → Int32) (m_to : Nat → Int32) (m_rain : Nat → Int32) (m_tell : Nat → Int32) (m_fy : Nat → Int32) (m_fn : Nat → Int32) (m_finds : Nat → Int32) (m_there : Int32) (m_fm : Int32) (ko : Int64 → Int32 → Option (Int64)) : Nat → Int64 → Int32 → Option (Int64)
  | 0, _, _ => none
  | n + 1, x1, x2 =>
    if (5 * m_fm) ≤ x2 then
      ko x1 x2
    else
      ri m_finds 50 (x2) fun x6 =>
      ri m_finds 50 (x2) fun x8 =>
      ri m_finds 50 ((x2 + 1)) fun x10 =>
      ri m_finds 50 ((x2 + 2)) fun x12 =>
      ri m_finds 50 ((x2 + 3)) fun x14 =>
      (f_X11_shouldBy p1 p2 (-1) x8 x10 x12 x14 m_down m_min m_gone m_flow m_str m_from m_to m_rain m_tell m_there).bind fun q16 =>
      (f_X11_yes x6 q16 m_fy m_fn).bind fun q17 =>
      ri m_finds 50 ((x2 + 4)) fun x18 =>
      (if x18 = 1 then
        some ((Int32.toInt64 q17))
      else
        some ((Int32.toInt64 (10 - q17))) : Option (Int64)).bind fun q20 =>
      lt ((x1 * q20) : Int64) fun x21 =>
      lt (x2 + 5 : Int32) fun x22 =>
      LX11_thought_6 p1 p2 m_down m_min m_gone m_flow m_str m_from m_to m_rain m_tell m_fy m_fn m_finds m_there m_fm ko n x21 x22
theorem LX11_thought_6_z (p1 : Int32) (p2 : Int32) (m_down : Nat → Int32) (m_min : Nat → Int32) (m_gone : Nat → Int32) (m_flow : Nat → Int32) (m_str : Nat → Int32) (m_from : Nat → Int32) (m_to : Nat → Int32) (m_rain : Nat → Int32) (m_tell : Nat → Int32) (m_fy : Nat → Int32) (m_fn : Nat → Int32) (m_finds : Nat → Int32) (m_there : Int32) (m_fm : Int32) (ko : Int64 → Int32 → Option (Int64)) (x1 : Int64) (x2 : Int32) : LX11_thought_6 p1 p2 m_down m_min m_gone m_flow m_str m_from m_to m_rain m_tell m_fy m_fn m_finds m_there m_fm ko 0 x1 x2 = none := rfl
theorem LX11_thought_6_s (p1 : Int32) (p2 : Int32) (m_down : Nat → Int32) (m_min : Nat → Int32) (m_gone : Nat → Int32) (m_flow : Nat → Int32) (m_str : Nat → Int32) (m_from : Nat → Int32) (m_to : Nat → Int32) (m_rain : Nat → Int32) (m_tell : Nat → Int32) (m_fy : Nat → Int32) (m_fn : Nat → Int32) (m_finds : Nat → Int32) (m_there : Int32) (m_fm : Int32) (ko : Int64 → Int32 → Option (Int64)) (n : Nat) (x1 : Int64) (x2 : Int32) : LX11_thought_6 p1 p2 m_down m_min m_gone m_flow m_str m_from m_to m_rain m_tell m_fy m_fn m_finds m_there m_fm ko (n + 1) x1 x2 =
    if (5 * m_fm) ≤ x2 then
      ko x1 x2
    else
      ri m_finds 50 (x2) fun x6 =>
      ri m_finds 50 (x2) fun x8 =>
      ri m_finds 50 ((x2 + 1)) fun x10 =>
      ri m_finds 50 ((x2 + 2)) fun x12 =>
      ri m_finds 50 ((x2 + 3)) fun x14 =>
      (f_X11_shouldBy p1 p2 (-1) x8 x10 x12 x14 m_down m_min m_gone m_flow m_str m_from m_to m_rain m_tell m_there).bind fun q16 =>
      (f_X11_yes x6 q16 m_fy m_fn).bind fun q17 =>
      ri m_finds 50 ((x2 + 4)) fun x18 =>
      (if x18 = 1 then
        some ((Int32.toInt64 q17))
      else
        some ((Int32.toInt64 (10 - q17))) : Option (Int64)).bind fun q20 =>
      lt ((x1 * q20) : Int64) fun x21 =>
      lt (x2 + 5 : Int32) fun x22 =>
      LX11_thought_6 p1 p2 m_down m_min m_gone m_flow m_str m_from m_to m_rain m_tell m_fy m_fn m_finds m_there m_fm ko n x21 x22 := rfl
def f_X11_thought (p0 : Int64) (p1 : Int32) (p2 : Int32) (m_down : Nat → Int32) (m_min : Nat → Int32) (m_gone : Nat → Int32) (m_flow : Nat → Int32) (m_str : Nat → Int32) (m_from : Nat → Int32) (m_to : Nat → Int32) (m_rain : Nat → Int32) (m_tell : Nat → Int32) (m_fy : Nat → Int32) (m_fn : Nat → Int32) (m_finds : Nat → Int32) (m_there : Int32) (m_fm : Int32) : Option (Int64) :=
  LX11_thought_6 p1 p2 m_down m_min m_gone m_flow m_str m_from m_to m_rain m_tell m_fy m_fn m_finds m_there m_fm (fun x3 x4 =>
    some (x3)) FU p0 0
abbrev rmX11_thought : Room := { frames := 5, cells := 0, slots := 0, locals := 126 }
set_option maxHeartbeats 4000000 in
set_option maxRecDepth 100000 in
theorem c_X11_thought {l : Launch} {D : va_G} {g : Nat → ClassId} {N : Nat} {ad : Nat → Nat} {C : Nat → va_E} {sz : Nat} {m_len : Int32} {m_rm : Int32} {m_there : Int32} {m_lift : Int32} {m_blank : Int32} {m_fm : Int32} {m_at : Int32} {m_pl : Int32} {m_end : Int32} {m_seed : Int32} {m_down : Nat → Int32} {m_min : Nat → Int32} {m_gone : Nat → Int32} {m_flow : Nat → Int32} {m_str : Nat → Int32} {m_from : Nat → Int32} {m_to : Nat → Int32} {m_rain : Nat → Int32} {m_tell : Nat → Int32} {m_fy : Nat → Int32} {m_fn : Nat → Int32} {m_finds : Nat → Int32} {p0 : Int64} {p1 : Int32} {p2 : Int32} {rr : Int64} (hN : 109 ≤ N) (h86 : C 86 = .inr (11, [.ref (ad 87), .int m_len, .ref (ad 88), .int m_rm, .int m_there, .ref (ad 89), .ref (ad 90), .ref (ad 91), .ref (ad 92), .ref (ad 93), .ref (ad 94), .ref (ad 95), .ref (ad 96), .ref (ad 97), .ref (ad 98), .ref (ad 99), .ref (ad 100), .ref (ad 101), .int m_lift, .int m_blank, .ref (ad 102), .int m_fm, .int m_at, .int m_pl, .int m_end, .ref (ad 103), .ref (ad 104), .ref (ad 105), .ref (ad 106), .ref (ad 107), .ref (ad 108), .int m_seed])) (h89 : C 89 = aI g 12 m_down) (h90 : C 90 = aI g 12 m_min) (h92 : C 92 = aI g 12 m_gone) (h93 : C 93 = aI g 12 m_flow) (h95 : C 95 = aI g 12 m_str) (h96 : C 96 = aI g 12 m_from) (h97 : C 97 = aI g 12 m_to) (h98 : C 98 = aI g 24 m_rain) (h99 : C 99 = aI g 4 m_tell) (h100 : C 100 = aI g 4 m_fy) (h101 : C 101 = aI g 4 m_fn) (h102 : C 102 = aI g 50 m_finds) (hf : f_X11_thought p0 p1 p2 m_down m_min m_gone m_flow m_str m_from m_to m_rain m_tell m_fy m_fn m_finds m_there m_fm = some rr) : Met l yX11_thought wsX11_thought rmX11_thought (PcW D g N ad C sz [.ref (ad 86), .long p0, .int p1, .int p2]) (QlR sz rr) 0 0 (An sz) := by
  refine Met.ofW (cc := cX11_thought) (maxL := 9) (ret := (some .long)) (by decide) rfl ?_
  intro p e s m args below meth c s₁ B hml hv
  obtain ⟨hav, hsz, hK, hP⟩ := hv
  subst hsz
  have hx := B.exec
  have hb := B.bytes
  have hr := B.returns
  have hts := atoms_spec (ws := wsX11_thought) B.pre
  have hown : s.vm.findClass RX11 = some m.cls := findClass_of_methodNamed B.named
  have hlocks := B.notSynchronized
  generalize hQ : MQ below (QlR s.heap.size rr) args s 0 0 (An s.heap.size) = QQ
  have hS : va_S (An s.heap.size) s.heap s.heap [] := va_S.rf
  have hA : ∀ q, s.heap.size ≤ q → (An s.heap.size) q := fun q h => h
  have k0 := hts (.fieldLink RX11 207 "UpDrainModel" "findMany" "I") (List.mem_of_getElem? (i := 1) rfl)
  have nX11 : ∀ w ∈ u_ws RX11 TX11 32, w ∈ wsX11_thought := fun _ h => List.mem_cons_of_mem _ (List.mem_append_right _ h)
  have k2 := hts (.fieldLink RX11 59 "UpDrainModel" "finds" "[I") (List.mem_of_getElem? (i := 2) rfl)
  have hE := lg_entry_eq m [.ref (ad 86), .long p0, .int p1, .int p2] 9
  rw [← hav] at hE
  rw [hE]
  have hl := lv_entry [.ref (ad 86), .long p0, .int p1, .int p2] (n := 9) (Nat.le_of_ble_eq_true rfl)
  generalize (lg_sl [.ref (ad 86), .long p0, .int p1, .int p2] ++ List.replicate (9 - (lg_sl [.ref (ad 86), .long p0, .int p1, .int p2]).length) Slot.unset).toArray = ls at hl ⊢
  have hl : lv_has ls 9 [(0, .ref (ad 86)), (1, .long p0), (3, .int p1), (4, .int p2)] := hl
  clear hE
  unfold f_X11_thought at hf
  suffices hgo : ∀ (H : Heap) (locs : List Loc), va_P D vwCl (wd N ad C) H → va_S (An s.heap.size) s.heap H locs → W p l e (headSpec wsX11_thought rmX11_thought).room s m args below meth c H locs 0 0 QQ (F0 m 0 ls []) from hgo s.heap [] hP hS
  clear hS hP
  intro H locs hP hS
  refine lv_lload_n hx hb dX11_thought_0 rfl (lv_at hl 1 rfl) ?_
  refine lv_lstore (lv' := [(5, .long p0), (0, .ref (ad 86)), (1, .long p0), (3, .int p1), (4, .int p2)]) hx hb dX11_thought_1 hl (by decide) rfl (fun ls hl => ?_)
  refine lv_iconst (v := 0) hx hb dX11_thought_3 (by decide) ?_
  refine lv_istore (lv' := [(7, .int 0), (5, .long p0), (0, .ref (ad 86)), (1, .long p0), (3, .int p1), (4, .int p2)]) hx hb dX11_thought_4 hl (by decide) rfl (fun ls hl => ?_)
  have key6 : ∀ (ko : Int64 → Int32 → Option (Int64)), (∀ (x3 : Int64) (x4 : Int32) (C : Nat → va_E) (H : Heap) (locs : List Loc) (ls : Array Slot), va_P D vwCl (wd N ad C) H → va_S (An s.heap.size) s.heap H locs → C 86 = .inr (11, [.ref (ad 87), .int m_len, .ref (ad 88), .int m_rm, .int m_there, .ref (ad 89), .ref (ad 90), .ref (ad 91), .ref (ad 92), .ref (ad 93), .ref (ad 94), .ref (ad 95), .ref (ad 96), .ref (ad 97), .ref (ad 98), .ref (ad 99), .ref (ad 100), .ref (ad 101), .int m_lift, .int m_blank, .ref (ad 102), .int m_fm, .int m_at, .int m_pl, .int m_end, .ref (ad 103), .ref (ad 104), .ref (ad 105), .ref (ad 106), .ref (ad 107), .ref (ad 108), .int m_seed]) → C 89 = aI g 12 m_down → C 90 = aI g 12 m_min → C 92 = aI g 12 m_gone → C 93 = aI g 12 m_flow → C 95 = aI g 12 m_str → C 96 = aI g 12 m_from → C 97 = aI g 12 m_to → C 98 = aI g 24 m_rain → C 99 = aI g 4 m_tell → C 100 = aI g 4 m_fy → C 101 = aI g 4 m_fn → C 102 = aI g 50 m_finds → lv_has ls 9 [(0, .ref (ad 86)), (1, .long p0), (3, .int p1), (4, .int p2), (5, .long x3), (7, .int x4)] → ko x3 x4 = some rr → W p l e (headSpec wsX11_thought rmX11_thought).room s m args below meth c H locs 0 0 QQ (F0 m 108 ls [])) → ∀ (n : Nat) (x1 : Int64) (x2 : Int32) (C : Nat → va_E) (H : Heap) (locs : List Loc) (ls : Array Slot), va_P D vwCl (wd N ad C) H → va_S (An s.heap.size) s.heap H locs → C 86 = .inr (11, [.ref (ad 87), .int m_len, .ref (ad 88), .int m_rm, .int m_there, .ref (ad 89), .ref (ad 90), .ref (ad 91), .ref (ad 92), .ref (ad 93), .ref (ad 94), .ref (ad 95), .ref (ad 96), .ref (ad 97), .ref (ad 98), .ref (ad 99), .ref (ad 100), .ref (ad 101), .int m_lift, .int m_blank, .ref (ad 102), .int m_fm, .int m_at, .int m_pl, .int m_end, .ref (ad 103), .ref (ad 104), .ref (ad 105), .ref (ad 106), .ref (ad 107), .ref (ad 108), .int m_seed]) → C 89 = aI g 12 m_down → C 90 = aI g 12 m_min → C 92 = aI g 12 m_gone → C 93 = aI g 12 m_flow → C 95 = aI g 12 m_str → C 96 = aI g 12 m_from → C 97 = aI g 12 m_to → C 98 = aI g 24 m_rain → C 99 = aI g 4 m_tell → C 100 = aI g 4 m_fy → C 101 = aI g 4 m_fn → C 102 = aI g 50 m_finds → lv_has ls 9 [(0, .ref (ad 86)), (1, .long p0), (3, .int p1), (4, .int p2), (5, .long x1), (7, .int x2)] → LX11_thought_6 p1 p2 m_down m_min m_gone m_flow m_str m_from m_to m_rain m_tell m_fy m_fn m_finds m_there m_fm ko n x1 x2 = some rr → W p l e (headSpec wsX11_thought rmX11_thought).room s m args below meth c H locs 0 0 QQ (F0 m 6 ls []) := by
    intro ko hko n
    induction n with
    | zero =>
      intro x1 x2 C H locs ls hP hS h86 h89 h90 h92 h93 h95 h96 h97 h98 h99 h100 h101 h102 hl hf
      rw [LX11_thought_6_z] at hf
      cases hf
    | succ n ih =>
      intro x1 x2 C H locs ls hP hS h86 h89 h90 h92 h93 h95 h96 h97 h98 h99 h100 h101 h102 hl hf
      rw [LX11_thought_6_s] at hf
      refine lv_iload hx hb dX11_thought_6 (lv_at hl 5 rfl) ?_
      refine lv_iconst (v := 5) hx hb dX11_thought_8 (by decide) ?_
      refine lv_aload_n hx hb dX11_thought_9 rfl (lv_at hl 0 rfl) ?_
      refine r_get (own := RX11) (T := TX11) (n := 32) (ci := 11) (v := .int m_fm) hx hb hts nX11 hown hK hP (by omega) h86 rfl 21 (by decide) k0 rfl dX11_thought_10 ?_
      refine lv_imul hx hb dX11_thought_13 ?_
      refine lv_icmp_ge (tgt := 108) hx hb dX11_thought_14 (by decide) (fun c5 => ?_) (fun c5 => ?_)
      · have hf := it_e c5 hf
        exact hko x1 x2 C H locs ls hP hS h86 h89 h90 h92 h93 h95 h96 h97 h98 h99 h100 h101 h102 (lv_sub hl [0, 1, 2, 3, 4, 5] rfl) hf
      · have hf := ie_e c5 hf
        refine lv_aload_n hx hb dX11_thought_17 rfl (lv_at hl 0 rfl) ?_
        refine lv_aload_n hx hb dX11_thought_18 rfl (lv_at hl 0 rfl) ?_
        refine r_get (own := RX11) (T := TX11) (n := 32) (ci := 11) (v := .ref (ad 102)) hx hb hts nX11 hown hK hP (by omega) h86 rfl 20 (by decide) k2 rfl dX11_thought_19 ?_
        refine lv_iload hx hb dX11_thought_22 (lv_at hl 5 rfl) ?_
        obtain ⟨i7, x6, ex6, hf⟩ := ri_e hf
        refine r_iald hx hb hK hP (by omega) h102 i7 dX11_thought_24 ex6 ?_
        refine lv_aload_n hx hb dX11_thought_25 rfl (lv_at hl 0 rfl) ?_
        refine lv_iload_n hx hb dX11_thought_26 rfl (lv_at hl 2 rfl) ?_
        refine lv_iload hx hb dX11_thought_27 (lv_at hl 3 rfl) ?_
        refine lv_iconst (v := (-1)) hx hb dX11_thought_29 (by decide) ?_
        refine lv_aload_n hx hb dX11_thought_30 rfl (lv_at hl 0 rfl) ?_
        refine r_get (own := RX11) (T := TX11) (n := 32) (ci := 11) (v := .ref (ad 102)) hx hb hts nX11 hown hK hP (by omega) h86 rfl 20 (by decide) k2 rfl dX11_thought_31 ?_
        refine lv_iload hx hb dX11_thought_34 (lv_at hl 5 rfl) ?_
        obtain ⟨i9, x8, ex8, hf⟩ := ri_e hf
        refine r_iald hx hb hK hP (by omega) h102 i9 dX11_thought_36 ex8 ?_
        refine lv_aload_n hx hb dX11_thought_37 rfl (lv_at hl 0 rfl) ?_
        refine r_get (own := RX11) (T := TX11) (n := 32) (ci := 11) (v := .ref (ad 102)) hx hb hts nX11 hown hK hP (by omega) h86 rfl 20 (by decide) k2 rfl dX11_thought_38 ?_
        refine lv_iload hx hb dX11_thought_41 (lv_at hl 5 rfl) ?_
        refine lv_iconst (v := 1) hx hb dX11_thought_43 (by decide) ?_
        refine lv_iadd hx hb dX11_thought_44 ?_
        obtain ⟨i11, x10, ex10, hf⟩ := ri_e hf
        refine r_iald hx hb hK hP (by omega) h102 i11 dX11_thought_45 ex10 ?_
        refine lv_aload_n hx hb dX11_thought_46 rfl (lv_at hl 0 rfl) ?_
        refine r_get (own := RX11) (T := TX11) (n := 32) (ci := 11) (v := .ref (ad 102)) hx hb hts nX11 hown hK hP (by omega) h86 rfl 20 (by decide) k2 rfl dX11_thought_47 ?_
        refine lv_iload hx hb dX11_thought_50 (lv_at hl 5 rfl) ?_
        refine lv_iconst (v := 2) hx hb dX11_thought_52 (by decide) ?_
        refine lv_iadd hx hb dX11_thought_53 ?_
        obtain ⟨i13, x12, ex12, hf⟩ := ri_e hf
        refine r_iald hx hb hK hP (by omega) h102 i13 dX11_thought_54 ex12 ?_
        refine lv_aload_n hx hb dX11_thought_55 rfl (lv_at hl 0 rfl) ?_
        refine r_get (own := RX11) (T := TX11) (n := 32) (ci := 11) (v := .ref (ad 102)) hx hb hts nX11 hown hK hP (by omega) h86 rfl 20 (by decide) k2 rfl dX11_thought_56 ?_
        refine lv_iload hx hb dX11_thought_59 (lv_at hl 5 rfl) ?_
        refine lv_iconst (v := 3) hx hb dX11_thought_61 (by decide) ?_
        refine lv_iadd hx hb dX11_thought_62 ?_
        obtain ⟨i15, x14, ex14, hf⟩ := ri_e hf
        refine r_iald hx hb hK hP (by omega) h102 i15 dX11_thought_63 ex14 ?_
        obtain ⟨q16, hq16, hf⟩ := bd_e hf
        refine k_iR (va_runV (C := RX11) (As := [.int p1, .int p2, .int (-1), .int x8, .int x10, .int x12, .int x14]) (rest := [.int x6, .ref (ad 86)]) ⟨hx, hb, hml, hown, hts⟩ (c_X11_shouldBy (l := l) (sz := H.size) (p0 := p1) (p1 := p2) (p2 := (-1)) (p3 := x8) (p4 := x10) (p5 := x12) (p6 := x14) hN h86 h89 h90 h92 h93 h95 h96 h97 h98 h99 hq16) (cwV 7 hts gX11_thought_X11_shouldBy rfl rfl rfl (by decide +kernel) ⟨Nat.le_of_ble_eq_true rfl, Nat.le_of_ble_eq_true rfl⟩) (preV_of hK hP (by omega) h86 rfl) rfl rfl hl.1 rfl (lv_room (Nat.le_of_ble_eq_true rfl)) dX11_thought_64 ⟨Nat.le_of_ble_eq_true rfl, Nat.le_of_ble_eq_true rfl⟩) hA hP hS (fun H locs hP hS hbz_q16 => ?_)
        obtain ⟨q17, hq17, hf⟩ := bd_e hf
        refine k_iR (va_runV (C := RX11) (As := [.int x6, .int q16]) (rest := []) ⟨hx, hb, hml, hown, hts⟩ (c_X11_yes (l := l) (sz := H.size) (p0 := x6) (p1 := q16) hN hbz_q16 h86 h100 h101 hq17) (cwV 2 hts gX11_thought_X11_yes rfl rfl rfl (by decide +kernel) ⟨Nat.le_of_ble_eq_true rfl, Nat.le_of_ble_eq_true rfl⟩) (preV_of hK hP (by omega) h86 rfl) rfl rfl hl.1 rfl (lv_room (Nat.le_of_ble_eq_true rfl)) dX11_thought_67 ⟨Nat.le_of_ble_eq_true rfl, Nat.le_of_ble_eq_true rfl⟩) hA hP hS (fun H locs hP hS hbz_q17 => ?_)
        refine lv_istore (lv' := [(8, .int q17), (0, .ref (ad 86)), (1, .long p0), (3, .int p1), (4, .int p2), (5, .long x1), (7, .int x2)]) hx hb dX11_thought_70 hl (by decide) rfl (fun ls hl => ?_)
        refine lv_lload hx hb dX11_thought_72 (lv_at hl 5 rfl) ?_
        refine lv_aload_n hx hb dX11_thought_74 rfl (lv_at hl 1 rfl) ?_
        refine r_get (own := RX11) (T := TX11) (n := 32) (ci := 11) (v := .ref (ad 102)) hx hb hts nX11 hown hK hP (by omega) h86 rfl 20 (by decide) k2 rfl dX11_thought_75 ?_
        refine lv_iload hx hb dX11_thought_78 (lv_at hl 6 rfl) ?_
        refine lv_iconst (v := 4) hx hb dX11_thought_80 (by decide) ?_
        refine lv_iadd hx hb dX11_thought_81 ?_
        obtain ⟨i19, x18, ex18, hf⟩ := ri_e hf
        refine r_iald hx hb hK hP (by omega) h102 i19 dX11_thought_82 ex18 ?_
        refine lv_iconst (v := 1) hx hb dX11_thought_83 (by decide) ?_
        obtain ⟨q20, htq20, hf⟩ := bd_e hf
        have jnq20 : ∀ (C : Nat → va_E) (H : Heap) (locs : List Loc) (ls : Array Slot), va_P D vwCl (wd N ad C) H → va_S (An s.heap.size) s.heap H locs → C 86 = .inr (11, [.ref (ad 87), .int m_len, .ref (ad 88), .int m_rm, .int m_there, .ref (ad 89), .ref (ad 90), .ref (ad 91), .ref (ad 92), .ref (ad 93), .ref (ad 94), .ref (ad 95), .ref (ad 96), .ref (ad 97), .ref (ad 98), .ref (ad 99), .ref (ad 100), .ref (ad 101), .int m_lift, .int m_blank, .ref (ad 102), .int m_fm, .int m_at, .int m_pl, .int m_end, .ref (ad 103), .ref (ad 104), .ref (ad 105), .ref (ad 106), .ref (ad 107), .ref (ad 108), .int m_seed]) → C 89 = aI g 12 m_down → C 90 = aI g 12 m_min → C 92 = aI g 12 m_gone → C 93 = aI g 12 m_flow → C 95 = aI g 12 m_str → C 96 = aI g 12 m_from → C 97 = aI g 12 m_to → C 98 = aI g 24 m_rain → C 99 = aI g 4 m_tell → C 100 = aI g 4 m_fy → C 101 = aI g 4 m_fn → C 102 = aI g 50 m_finds → lv_has ls 9 [(0, .ref (ad 86)), (1, .long p0), (3, .int p1), (4, .int p2), (5, .long x1), (7, .int x2), (8, .int q17)] → W p l e (headSpec wsX11_thought rmX11_thought).room s m args below meth c H locs 0 0 QQ (F0 m 99 ls [.long q20, .long x1]) := by
          intro C H locs ls hP hS h86 h89 h90 h92 h93 h95 h96 h97 h98 h99 h100 h101 h102 hl
          refine lv_lmul hx hb dX11_thought_99 ?_
          obtain ⟨x21, ex21, hf⟩ := lt_e hf
          refine tp_l ex21 ?_
          refine lv_lstore (lv' := [(5, .long x21), (0, .ref (ad 86)), (1, .long p0), (3, .int p1), (4, .int p2), (7, .int x2), (8, .int q17)]) hx hb dX11_thought_100 hl (by decide) rfl (fun ls hl => ?_)
          obtain ⟨x22, ex22, hf⟩ := lt_e hf
          refine lv_iinc (v := x22) (lv' := [(7, .int x22), (5, .long x21), (0, .ref (ad 86)), (1, .long p0), (3, .int p1), (4, .int p2), (8, .int q17)]) hx hb dX11_thought_102 hl (k := 5) rfl (by rw [ex22]; rfl) (by decide) rfl (fun ls hl => ?_)
          refine lv_goto (tgt := 6) hx hb dX11_thought_105 (by decide) ?_
          exact ih x21 x22 C H locs ls hP hS h86 h89 h90 h92 h93 h95 h96 h97 h98 h99 h100 h101 h102 (lv_sub hl [2, 3, 4, 5, 1, 0] rfl) hf
        clear hf
        have hf := htq20
        refine lv_icmp_ne (tgt := 93) hx hb dX11_thought_84 (by decide) (fun c23 => ?_) (fun c23 => ?_)
        · have hf := ie_e c23 hf
          refine lv_bipush (v := 10) hx hb dX11_thought_93 (by decide) ?_
          refine lv_iload hx hb dX11_thought_95 (lv_at hl 0 rfl) ?_
          refine lv_isub hx hb dX11_thought_97 ?_
          refine lv_i2l hx hb dX11_thought_98 rfl ?_
          obtain rfl := Option.some.inj hf
          exact jnq20 C H locs ls hP hS h86 h89 h90 h92 h93 h95 h96 h97 h98 h99 h100 h101 h102 (lv_sub hl [1, 2, 3, 4, 5, 6, 0] rfl)
        · have hf := it_e c23 hf
          refine lv_iload hx hb dX11_thought_87 (lv_at hl 0 rfl) ?_
          refine lv_i2l hx hb dX11_thought_89 rfl ?_
          refine lv_goto (tgt := 99) hx hb dX11_thought_90 (by decide) ?_
          obtain rfl := Option.some.inj hf
          exact jnq20 C H locs ls hP hS h86 h89 h90 h92 h93 h95 h96 h97 h98 h99 h100 h101 h102 (lv_sub hl [1, 2, 3, 4, 5, 6, 0] rfl)
  refine key6 _ (fun x3 x4 C H locs ls hP hS h86 h89 h90 h92 h93 h95 h96 h97 h98 h99 h100 h101 h102 hl hf => ?_) FU p0 0 C H locs ls hP hS h86 h89 h90 h92 h93 h95 h96 h97 h98 h99 h100 h101 h102 (lv_sub hl [2, 3, 4, 5, 1, 0] rfl) hf
  refine lv_lload hx hb dX11_thought_108 (lv_at hl 4 rfl) ?_
  obtain rfl := Option.some.inj hf
  rw [← hQ]
  exact e_lR hx hb hr rfl hS hlocks dX11_thought_110

def LX11_sources_4 (m_lik : Nat → Int32) (m_there : Int32) (ko : Int32 → Int32 → Option (Int32)) : Nat → Int32 → Int32 → Option (Int32)
  | 0, _, _ => none
  | n + 1, x1, x2 =>
    if 12 ≤ x2 then
      ko x1 x2
    else
      (f_X11_has m_there x2).bind fun q6 =>
      (if q6 = 0 then
        some (0)
      else
        ri m_lik 12 (x2) fun x11 =>
        if x11 ≤ 0 then
          some (0)
        else
          some ((1 <<< (x2 &&& 31))) : Option (Int32)).bind fun q7 =>
      lt ((x1 ||| q7) : Int32) fun x8 =>
      lt (x2 + 1 : Int32) fun x9 =>
      LX11_sources_4 m_lik m_there ko n x8 x9
theorem LX11_sources_4_z (m_lik : Nat → Int32) (m_there : Int32) (ko : Int32 → Int32 → Option (Int32)) (x1 : Int32) (x2 : Int32) : LX11_sources_4 m_lik m_there ko 0 x1 x2 = none := rfl
theorem LX11_sources_4_s (m_lik : Nat → Int32) (m_there : Int32) (ko : Int32 → Int32 → Option (Int32)) (n : Nat) (x1 : Int32) (x2 : Int32) : LX11_sources_4 m_lik m_there ko (n + 1) x1 x2 =
    if 12 ≤ x2 then
      ko x1 x2
    else
      (f_X11_has m_there x2).bind fun q6 =>
      (if q6 = 0 then
        some (0)
      else
        ri m_lik 12 (x2) fun x11 =>
        if x11 ≤ 0 then
          some (0)
        else
          some ((1 <<< (x2 &&& 31))) : Option (Int32)).bind fun q7 =>
      lt ((x1 ||| q7) : Int32) fun x8 =>
      lt (x2 + 1 : Int32) fun x9 =>
      LX11_sources_4 m_lik m_there ko n x8 x9 := rfl
def f_X11_sources (m_lik : Nat → Int32) (m_there : Int32) : Option (Int32) :=
  LX11_sources_4 m_lik m_there (fun x3 x4 =>
    some (x3)) FU 0 0
abbrev rmX11_sources : Room := { frames := 1, cells := 0, slots := 0, locals := 21 }
set_option maxHeartbeats 4000000 in
set_option maxRecDepth 100000 in
theorem c_X11_sources {l : Launch} {D : va_G} {g : Nat → ClassId} {N : Nat} {ad : Nat → Nat} {C : Nat → va_E} {sz : Nat} {m_len : Int32} {m_rm : Int32} {m_there : Int32} {m_lift : Int32} {m_blank : Int32} {m_fm : Int32} {m_at : Int32} {m_pl : Int32} {m_end : Int32} {m_seed : Int32} {m_lik : Nat → Int32}  {rr : Int32} (hN : 109 ≤ N) (h86 : C 86 = .inr (11, [.ref (ad 87), .int m_len, .ref (ad 88), .int m_rm, .int m_there, .ref (ad 89), .ref (ad 90), .ref (ad 91), .ref (ad 92), .ref (ad 93), .ref (ad 94), .ref (ad 95), .ref (ad 96), .ref (ad 97), .ref (ad 98), .ref (ad 99), .ref (ad 100), .ref (ad 101), .int m_lift, .int m_blank, .ref (ad 102), .int m_fm, .int m_at, .int m_pl, .int m_end, .ref (ad 103), .ref (ad 104), .ref (ad 105), .ref (ad 106), .ref (ad 107), .ref (ad 108), .int m_seed])) (h94 : C 94 = aI g 12 m_lik) (hf : f_X11_sources m_lik m_there = some rr) : Met l yX11_sources wsX11_sources rmX11_sources (PcW D g N ad C sz [.ref (ad 86)]) (QiR sz tP rr) 0 0 (An sz) := by
  refine Met.ofW (cc := cX11_sources) (maxL := 3) (ret := (some .int)) (by decide) rfl ?_
  intro p e s m args below meth c s₁ B hml hv
  obtain ⟨hav, hsz, hK, hP⟩ := hv
  subst hsz
  have hx := B.exec
  have hb := B.bytes
  have hr := B.returns
  have hts := atoms_spec (ws := wsX11_sources) B.pre
  have hown : s.vm.findClass RX11 = some m.cls := findClass_of_methodNamed B.named
  have hlocks := B.notSynchronized
  generalize hQ : MQ below (QiR s.heap.size tP rr) args s 0 0 (An s.heap.size) = QQ
  have hS : va_S (An s.heap.size) s.heap s.heap [] := va_S.rf
  have hA : ∀ q, s.heap.size ≤ q → (An s.heap.size) q := fun q h => h
  have k0 := hts (.fieldLink RX11 16 "UpDrainModel" "there" "I") (List.mem_of_getElem? (i := 1) rfl)
  have nX11 : ∀ w ∈ u_ws RX11 TX11 32, w ∈ wsX11_sources := fun _ h => List.mem_cons_of_mem _ (List.mem_append_right _ h)
  have k2 := hts (.fieldLink RX11 35 "UpDrainModel" "likely" "[I") (List.mem_of_getElem? (i := 2) rfl)
  have hE := lg_entry_eq m [.ref (ad 86)] 3
  rw [← hav] at hE
  rw [hE]
  have hl := lv_entry [.ref (ad 86)] (n := 3) (Nat.le_of_ble_eq_true rfl)
  generalize (lg_sl [.ref (ad 86)] ++ List.replicate (3 - (lg_sl [.ref (ad 86)]).length) Slot.unset).toArray = ls at hl ⊢
  have hl : lv_has ls 3 [(0, .ref (ad 86))] := hl
  clear hE
  unfold f_X11_sources at hf
  suffices hgo : ∀ (H : Heap) (locs : List Loc), va_P D vwCl (wd N ad C) H → va_S (An s.heap.size) s.heap H locs → W p l e (headSpec wsX11_sources rmX11_sources).room s m args below meth c H locs 0 0 QQ (F0 m 0 ls []) from hgo s.heap [] hP hS
  clear hS hP
  intro H locs hP hS
  refine lv_iconst (v := 0) hx hb dX11_sources_0 (by decide) ?_
  refine lv_istore_n (lv' := [(1, .int 0), (0, .ref (ad 86))]) hx hb dX11_sources_1 rfl hl (by decide) rfl (fun ls hl => ?_)
  refine lv_iconst (v := 0) hx hb dX11_sources_2 (by decide) ?_
  refine lv_istore_n (lv' := [(2, .int 0), (1, .int 0), (0, .ref (ad 86))]) hx hb dX11_sources_3 rfl hl (by decide) rfl (fun ls hl => ?_)
  have key4 : ∀ (ko : Int32 → Int32 → Option (Int32)), (∀ (x3 : Int32) (x4 : Int32) (C : Nat → va_E) (H : Heap) (locs : List Loc) (ls : Array Slot), va_P D vwCl (wd N ad C) H → va_S (An s.heap.size) s.heap H locs → C 86 = .inr (11, [.ref (ad 87), .int m_len, .ref (ad 88), .int m_rm, .int m_there, .ref (ad 89), .ref (ad 90), .ref (ad 91), .ref (ad 92), .ref (ad 93), .ref (ad 94), .ref (ad 95), .ref (ad 96), .ref (ad 97), .ref (ad 98), .ref (ad 99), .ref (ad 100), .ref (ad 101), .int m_lift, .int m_blank, .ref (ad 102), .int m_fm, .int m_at, .int m_pl, .int m_end, .ref (ad 103), .ref (ad 104), .ref (ad 105), .ref (ad 106), .ref (ad 107), .ref (ad 108), .int m_seed]) → C 94 = aI g 12 m_lik → lv_has ls 3 [(0, .ref (ad 86)), (1, .int x3), (2, .int x4)] → ko x3 x4 = some rr → W p l e (headSpec wsX11_sources rmX11_sources).room s m args below meth c H locs 0 0 QQ (F0 m 46 ls [])) → ∀ (n : Nat) (x1 : Int32) (x2 : Int32) (C : Nat → va_E) (H : Heap) (locs : List Loc) (ls : Array Slot), va_P D vwCl (wd N ad C) H → va_S (An s.heap.size) s.heap H locs → C 86 = .inr (11, [.ref (ad 87), .int m_len, .ref (ad 88), .int m_rm, .int m_there, .ref (ad 89), .ref (ad 90), .ref (ad 91), .ref (ad 92), .ref (ad 93), .ref (ad 94), .ref (ad 95), .ref (ad 96), .ref (ad 97), .ref (ad 98), .ref (ad 99), .ref (ad 100), .ref (ad 101), .int m_lift, .int m_blank, .ref (ad 102), .int m_fm, .int m_at, .int m_pl, .int m_end, .ref (ad 103), .ref (ad 104), .ref (ad 105), .ref (ad 106), .ref (ad 107), .ref (ad 108), .int m_seed]) → C 94 = aI g 12 m_lik → lv_has ls 3 [(0, .ref (ad 86)), (1, .int x1), (2, .int x2)] → LX11_sources_4 m_lik m_there ko n x1 x2 = some rr → W p l e (headSpec wsX11_sources rmX11_sources).room s m args below meth c H locs 0 0 QQ (F0 m 4 ls []) := by
    intro ko hko n
    induction n with
    | zero =>
      intro x1 x2 C H locs ls hP hS h86 h94 hl hf
      rw [LX11_sources_4_z] at hf
      cases hf
    | succ n ih =>
      intro x1 x2 C H locs ls hP hS h86 h94 hl hf
      rw [LX11_sources_4_s] at hf
      refine lv_iload_n hx hb dX11_sources_4 rfl (lv_at hl 2 rfl) ?_
      refine lv_bipush (v := 12) hx hb dX11_sources_5 (by decide) ?_
      refine lv_icmp_ge (tgt := 46) hx hb dX11_sources_7 (by decide) (fun c5 => ?_) (fun c5 => ?_)
      · have hf := it_e c5 hf
        exact hko x1 x2 C H locs ls hP hS h86 h94 (lv_sub hl [0, 1, 2] rfl) hf
      · have hf := ie_e c5 hf
        refine lv_iload_n hx hb dX11_sources_10 rfl (lv_at hl 1 rfl) ?_
        refine lv_aload_n hx hb dX11_sources_11 rfl (lv_at hl 0 rfl) ?_
        refine r_get (own := RX11) (T := TX11) (n := 32) (ci := 11) (v := .int m_there) hx hb hts nX11 hown hK hP (by omega) h86 rfl 4 (by decide) k0 rfl dX11_sources_12 ?_
        refine lv_iload_n hx hb dX11_sources_15 rfl (lv_at hl 2 rfl) ?_
        obtain ⟨q6, hq6, hf⟩ := bd_e hf
        refine k_iR (va_runS (As := [.int m_there, .int x2]) (rest := [.int x1]) ⟨hx, hb, hml, hown, hts⟩ (c_X11_has (l := l) (sz := H.size) (p0 := m_there) (p1 := x2) hq6) (va_cwS 2 hts gX11_sources_X11_has rfl rfl rfl (by decide +kernel) ⟨Nat.le_of_ble_eq_true rfl, Nat.le_of_ble_eq_true rfl⟩) preS0 rfl rfl hl.1 rfl (lv_room (Nat.le_of_ble_eq_true rfl)) dX11_sources_16 ⟨Nat.le_of_ble_eq_true rfl, Nat.le_of_ble_eq_true rfl⟩) hA hP hS (fun H locs hP hS hbz_q6 => ?_)
        obtain ⟨q7, htq7, hf⟩ := bd_e hf
        have jnq7 : ∀ (C : Nat → va_E) (H : Heap) (locs : List Loc) (ls : Array Slot), va_P D vwCl (wd N ad C) H → va_S (An s.heap.size) s.heap H locs → C 86 = .inr (11, [.ref (ad 87), .int m_len, .ref (ad 88), .int m_rm, .int m_there, .ref (ad 89), .ref (ad 90), .ref (ad 91), .ref (ad 92), .ref (ad 93), .ref (ad 94), .ref (ad 95), .ref (ad 96), .ref (ad 97), .ref (ad 98), .ref (ad 99), .ref (ad 100), .ref (ad 101), .int m_lift, .int m_blank, .ref (ad 102), .int m_fm, .int m_at, .int m_pl, .int m_end, .ref (ad 103), .ref (ad 104), .ref (ad 105), .ref (ad 106), .ref (ad 107), .ref (ad 108), .int m_seed]) → C 94 = aI g 12 m_lik → lv_has ls 3 [(0, .ref (ad 86)), (1, .int x1), (2, .int x2)] → W p l e (headSpec wsX11_sources rmX11_sources).room s m args below meth c H locs 0 0 QQ (F0 m 38 ls [.int q7, .int x1]) := by
          intro C H locs ls hP hS h86 h94 hl
          refine lv_ior hx hb dX11_sources_38 ?_
          obtain ⟨x8, ex8, hf⟩ := lt_e hf
          refine tp_i ex8 ?_
          refine lv_istore_n (lv' := [(1, .int x8), (0, .ref (ad 86)), (2, .int x2)]) hx hb dX11_sources_39 rfl hl (by decide) rfl (fun ls hl => ?_)
          obtain ⟨x9, ex9, hf⟩ := lt_e hf
          refine lv_iinc (v := x9) (lv' := [(2, .int x9), (1, .int x8), (0, .ref (ad 86))]) hx hb dX11_sources_40 hl (k := 2) rfl (by rw [ex9]; rfl) (by decide) rfl (fun ls hl => ?_)
          refine lv_goto (tgt := 4) hx hb dX11_sources_43 (by decide) ?_
          exact ih x8 x9 C H locs ls hP hS h86 h94 (lv_sub hl [2, 1, 0] rfl) hf
        clear hf
        have hf := htq7
        refine lv_if_eq (tgt := 37) hx hb dX11_sources_19 (by decide) (fun c10 => ?_) (fun c10 => ?_)
        · have hf := it_e c10 hf
          refine lv_iconst (v := 0) hx hb dX11_sources_37 (by decide) ?_
          obtain rfl := Option.some.inj hf
          exact jnq7 C H locs ls hP hS h86 h94 (lv_sub hl [0, 1, 2] rfl)
        · have hf := ie_e c10 hf
          refine lv_aload_n hx hb dX11_sources_22 rfl (lv_at hl 0 rfl) ?_
          refine r_get (own := RX11) (T := TX11) (n := 32) (ci := 11) (v := .ref (ad 94)) hx hb hts nX11 hown hK hP (by omega) h86 rfl 10 (by decide) k2 rfl dX11_sources_23 ?_
          refine lv_iload_n hx hb dX11_sources_26 rfl (lv_at hl 2 rfl) ?_
          obtain ⟨i12, x11, ex11, hf⟩ := ri_e hf
          refine r_iald hx hb hK hP (by omega) h94 i12 dX11_sources_27 ex11 ?_
          refine lv_if_le (tgt := 37) hx hb dX11_sources_28 (by decide) (fun c13 => ?_) (fun c13 => ?_)
          · have hf := it_e c13 hf
            refine lv_iconst (v := 0) hx hb dX11_sources_37 (by decide) ?_
            obtain rfl := Option.some.inj hf
            exact jnq7 C H locs ls hP hS h86 h94 (lv_sub hl [0, 1, 2] rfl)
          · have hf := ie_e c13 hf
            refine lv_iconst (v := 1) hx hb dX11_sources_31 (by decide) ?_
            refine lv_iload_n hx hb dX11_sources_32 rfl (lv_at hl 2 rfl) ?_
            refine lv_ishl hx hb dX11_sources_33 ?_
            refine lv_goto (tgt := 38) hx hb dX11_sources_34 (by decide) ?_
            obtain rfl := Option.some.inj hf
            exact jnq7 C H locs ls hP hS h86 h94 (lv_sub hl [0, 1, 2] rfl)
  refine key4 _ (fun x3 x4 C H locs ls hP hS h86 h94 hl hf => ?_) FU 0 0 C H locs ls hP hS h86 h94 (lv_sub hl [2, 1, 0] rfl) hf
  refine lv_iload_n hx hb dX11_sources_46 rfl (lv_at hl 1 rfl) ?_
  obtain rfl := Option.some.inj hf
  rw [← hQ]
  exact e_iR hx hb hr rfl (tP_i _) hS hlocks dX11_sources_47

