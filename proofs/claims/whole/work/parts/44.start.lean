set_option maxRecDepth 20000 in
theorem inX0 : ∀ w ∈ u_ws RX0 TX0 8, w ∈ lw_tbl := fun w h => (goodIn_r (big := lw_tbl) (u_ws RX0 TX0 8) [447, 449, 451, 453, 455, 457, 459, 461] (by decide +kernel) (by decide +kernel) w h).1
set_option maxRecDepth 20000 in
theorem inX1 : ∀ w ∈ u_ws RX1 TX1 5, w ∈ lw_tbl := fun w h => (goodIn_r (big := lw_tbl) (u_ws RX1 TX1 5) [324, 326, 328, 330, 332] (by decide +kernel) (by decide +kernel) w h).1
set_option maxRecDepth 20000 in
theorem inX2 : ∀ w ∈ u_ws RX2 TX2 6, w ∈ lw_tbl := fun w h => (goodIn_r (big := lw_tbl) (u_ws RX2 TX2 6) [397, 399, 401, 403, 405, 407] (by decide +kernel) (by decide +kernel) w h).1
set_option maxRecDepth 20000 in
theorem inX3 : ∀ w ∈ u_ws RX3 TX3 4, w ∈ lw_tbl := fun w h => (goodIn_r (big := lw_tbl) (u_ws RX3 TX3 4) [420, 422, 424, 426] (by decide +kernel) (by decide +kernel) w h).1
set_option maxRecDepth 20000 in
theorem inX4 : ∀ w ∈ u_ws RX4 TX4 4, w ∈ lw_tbl := fun w h => (goodIn_r (big := lw_tbl) (u_ws RX4 TX4 4) [274, 276, 278, 280] (by decide +kernel) (by decide +kernel) w h).1
set_option maxRecDepth 20000 in
theorem inX5 : ∀ w ∈ u_ws RX5 TX5 7, w ∈ lw_tbl := fun w h => (goodIn_r (big := lw_tbl) (u_ws RX5 TX5 7) [118, 120, 122, 124, 126, 128, 130] (by decide +kernel) (by decide +kernel) w h).1
set_option maxRecDepth 20000 in
theorem inX6 : ∀ w ∈ u_ws RX6 TX6 13, w ∈ lw_tbl := fun w h => (goodIn_r (big := lw_tbl) (u_ws RX6 TX6 13) [355, 357, 359, 361, 363, 365, 367, 369, 371, 373, 375, 377, 379] (by decide +kernel) (by decide +kernel) w h).1
set_option maxRecDepth 20000 in
theorem inX7 : ∀ w ∈ u_ws RX7 TX7 16, w ∈ lw_tbl := fun w h => (goodIn_r (big := lw_tbl) (u_ws RX7 TX7 16) [198, 200, 202, 204, 206, 208, 210, 212, 214, 216, 218, 220, 222, 224, 226, 228] (by decide +kernel) (by decide +kernel) w h).1
set_option maxRecDepth 20000 in
theorem inX8 : ∀ w ∈ u_ws RX8 TX8 4, w ∈ lw_tbl := fun w h => (goodIn_r (big := lw_tbl) (u_ws RX8 TX8 4) [289, 291, 293, 295] (by decide +kernel) (by decide +kernel) w h).1
set_option maxRecDepth 20000 in
theorem inX9 : ∀ w ∈ u_ws RX9 TX9 3, w ∈ lw_tbl := fun w h => (goodIn_r (big := lw_tbl) (u_ws RX9 TX9 3) [250, 252, 254] (by decide +kernel) (by decide +kernel) w h).1
set_option maxRecDepth 20000 in
theorem inX10 : ∀ w ∈ u_ws RX10 TX10 9, w ∈ lw_tbl := fun w h => (goodIn_r (big := lw_tbl) (u_ws RX10 TX10 9) [511, 513, 515, 517, 519, 521, 523, 525, 527] (by decide +kernel) (by decide +kernel) w h).1
set_option maxRecDepth 20000 in
theorem inX11 : ∀ w ∈ u_ws RX11 TX11 32, w ∈ lw_tbl := fun w h => (goodIn_r (big := lw_tbl) (u_ws RX11 TX11 32) [1061, 1063, 1065, 1067, 1069, 1071, 1073, 1075, 1077, 1079, 1081, 1083, 1085, 1087, 1089, 1091, 1093, 1095, 1097, 1099, 1101, 1103, 1105, 1107, 1109, 1111, 1113, 1115, 1117, 1119, 1121, 1123] (by decide +kernel) (by decide +kernel) w h).1
set_option maxRecDepth 20000 in
theorem nwF_in : nwF.all (fun q => decide (Cond.fieldLinkNest q.1 q.2.1 q.2.2.1 q.2.2.2.1 q.2.2.2.2.1 q.2.2.2.2.2 ∈ lw_tbl)) = true := by decide +kernel
set_option maxRecDepth 20000 in
theorem nwM_in : nwM.all (fun q => decide (Cond.methodLinkNest q.1 q.2.1 q.2.2.1 q.2.2.2 ∈ lw_tbl)) = true := by decide +kernel
set_option maxHeartbeats 4000000 in
/-- the classes as the tables have them -/
theorem st_K {args : Array Value} {s : State} (hts : ∀ w ∈ lw_tbl, w.before args s = true) : ∃ (D : va_G) (g : Nat → ClassId), SC D g s := by
  obtain ⟨c0, i0, hk0⟩ := u_known (C := RX0) (T := TX0) (N := 8) (n := 8) hts inX0 (hts (.instantiable RX0 8) (List.mem_of_getElem? (i := 430) (by decide +kernel)))
  obtain ⟨c1, i1, hk1⟩ := u_known (C := RX1) (T := TX1) (N := 5) (n := 5) hts inX1 (hts (.instantiable RX1 5) (List.mem_of_getElem? (i := 308) (by decide +kernel)))
  obtain ⟨c2, i2, hk2⟩ := u_known (C := RX2) (T := TX2) (N := 6) (n := 6) hts inX2 (hts (.instantiable RX2 6) (List.mem_of_getElem? (i := 383) (by decide +kernel)))
  obtain ⟨c3, i3, hk3⟩ := u_known (C := RX3) (T := TX3) (N := 4) (n := 4) hts inX3 (hts (.instantiable RX3 4) (List.mem_of_getElem? (i := 411) (by decide +kernel)))
  obtain ⟨c4, i4, hk4⟩ := u_known (C := RX4) (T := TX4) (N := 4) (n := 4) hts inX4 (hts (.instantiable RX4 4) (List.mem_of_getElem? (i := 265) (by decide +kernel)))
  obtain ⟨c5, i5, hk5⟩ := u_known (C := RX5) (T := TX5) (N := 7) (n := 7) hts inX5 (hts (.instantiable RX5 7) (List.mem_of_getElem? (i := 102) (by decide +kernel)))
  obtain ⟨c6, i6, hk6⟩ := u_known (C := RX6) (T := TX6) (N := 13) (n := 13) hts inX6 (hts (.instantiable RX6 13) (List.mem_of_getElem? (i := 299) (by decide +kernel)))
  obtain ⟨c7, i7, hk7⟩ := u_known (C := RX7) (T := TX7) (N := 16) (n := 16) hts inX7 (hts (.instantiable RX7 16) (List.mem_of_getElem? (i := 135) (by decide +kernel)))
  obtain ⟨c8, i8, hk8⟩ := u_known (C := RX8) (T := TX8) (N := 4) (n := 4) hts inX8 (hts (.instantiable RX8 4) (List.mem_of_getElem? (i := 258) (by decide +kernel)))
  obtain ⟨c9, i9, hk9⟩ := u_known (C := RX9) (T := TX9) (N := 3) (n := 3) hts inX9 (hts (.instantiable RX9 3) (List.mem_of_getElem? (i := 232) (by decide +kernel)))
  obtain ⟨c10, i10, hk10⟩ := u_known (C := RX10) (T := TX10) (N := 9) (n := 9) hts inX10 (hts (.instantiable RX10 9) (List.mem_of_getElem? (i := 94) (by decide +kernel)))
  obtain ⟨c11, i11, hk11⟩ := u_known (C := RX11) (T := TX11) (N := 32) (n := 32) hts inX11 (hts (.instantiable RX11 32) (List.mem_of_getElem? (i := 1023) (by decide +kernel)))
  obtain ⟨aI, kI, oI, fI1, fI2, fI3⟩ := Cond.arrayClass_spec (hts (.arrayClass .int) (List.mem_of_getElem? (i := 133) (by decide +kernel)))
  obtain ⟨aL, kL, oL, fL1, fL2, fL3⟩ := Cond.arrayClass_spec (hts (.arrayClass .long) (List.mem_of_getElem? (i := 335) (by decide +kernel)))
  have hS := hts (.arrayOver (.object "UpDrain$Stream")) (List.mem_of_getElem? (i := 264) (by decide +kernel))
  obtain ⟨oS, aS, kS, fS1, -, fS2, fS3, fS4⟩ := Cond.arrayOver_spec hS
  have hF := hts (.arrayOver (.object "UpDrain$Filling")) (List.mem_of_getElem? (i := 305) (by decide +kernel))
  obtain ⟨oF, aF, kF, fF1, -, fF2, fF3, fF4⟩ := Cond.arrayOver_spec hF
  refine ⟨(fun k => match k with | 0 => c0 | 1 => c1 | 2 => c2 | 3 => c3 | 4 => c4 | 5 => c5 | 6 => c6 | 7 => c7 | 8 => c8 | 9 => c9 | 10 => c10 | _ => c11, fun k => match k with | 0 => i0 | 1 => i1 | 2 => i2 | 3 => i3 | 4 => i4 | 5 => i5 | 6 => i6 | 7 => i7 | 8 => i8 | 9 => i9 | 10 => i10 | _ => i11), fun k => match k with | 0 => aI | 1 => aL | 2 => aS | _ => aF, ⟨?_, ?_⟩, ⟨?_, ?_⟩, va_AO.of hS, va_AO.of hF⟩
  · intro k q hq
    match k, hq with
    | 0, hq => cases hq; exact hk0
    | 1, hq => cases hq; exact hk1
    | 2, hq => cases hq; exact hk2
    | 3, hq => cases hq; exact hk3
    | 4, hq => cases hq; exact hk4
    | 5, hq => cases hq; exact hk5
    | 6, hq => cases hq; exact hk6
    | 7, hq => cases hq; exact hk7
    | 8, hq => cases hq; exact hk8
    | 9, hq => cases hq; exact hk9
    | 10, hq => cases hq; exact hk10
    | 11, hq => cases hq; exact hk11
    | k + 12, hq => simp [vwCl] at hq
  · intro k q hq
    match k, hq with
    | 0, hq => cases hq; exact ⟨fun n z => ⟨(fun k h => by cases h), kI, fI2, oI, fI3⟩, fI1⟩
    | 1, hq => cases hq; exact ⟨fun n z => ⟨(fun k h => by cases h), kL, fL2, oL, fL3⟩, fL1⟩
    | 2, hq => cases hq; exact ⟨fun n z => ⟨(fun k h => by cases h), kS, fS2, oS, fS3⟩, kS, oS, fS2, fS3, fS1, fS4⟩
    | 3, hq => cases hq; exact ⟨fun n z => ⟨(fun k h => by cases h), kF, fF2, oF, fF3⟩, kF, oF, fF2, fF3, fF1, fF4⟩
    | k + 4, hq => simp [tyL] at hq
  · intro q hq
    have h := List.all_eq_true.mp nwF_in q hq
    exact va_Nw.of rfl (hts _ (of_decide_eq_true h))
  · intro q hq
    have h := List.all_eq_true.mp nwM_in q hq
    exact va_Nw.of rfl (hts _ (of_decide_eq_true h))
set_option maxHeartbeats 40000000 in
set_option maxRecDepth 100000 in
/-- what the start gives of the words and the rows of bounds -/
theorem st_S {args : Array Value} {s : State} (hts : ∀ w ∈ lw_tbl, w.before args s = true) (hgv : (Jvm.Cond.and given_1 narrow_1).before args s = true) : ∃ adK adV tb : Nat → Nat, SD adK adV tb (An s.heap.size) s s.heap := by
  have hs := flat_of_before _ hgv
  have hA : ∀ a : Nat, a < s.heap.size → ¬ An s.heap.size a := fun a h => Nat.not_le.mpr h
  obtain ⟨adK, adV, hvk, hvt⟩ := vk_Sof (args := args) (s := s) (N := 8) (tm := fun i => Term.string "UpDrain$Text" (81 + 2 * i)) (len := lenS) (byt := bytS) (A := An s.heap.size) lenS_lt
    (fun i hi => by rcases (show i = 0 ∨ i = 1 ∨ i = 2 ∨ i = 3 ∨ i = 4 ∨ i = 5 ∨ i = 6 ∨ i = 7 by omega) with rfl | rfl | rfl | rfl | rfl | rfl | rfl | rfl <;> exact hs _ (by decide +kernel))
    (fun i hi => by rcases (show i = 0 ∨ i = 1 ∨ i = 2 ∨ i = 3 ∨ i = 4 ∨ i = 5 ∨ i = 6 ∨ i = 7 by omega) with rfl | rfl | rfl | rfl | rfl | rfl | rfl | rfl <;> exact hs _ (by decide +kernel))
    (fun i hi => by rcases (show i = 0 ∨ i = 1 ∨ i = 2 ∨ i = 3 ∨ i = 4 ∨ i = 5 ∨ i = 6 ∨ i = 7 by omega) with rfl | rfl | rfl | rfl | rfl | rfl | rfl | rfl <;> exact hs _ (by decide +kernel))
    (fun i hi => by rcases (show i = 0 ∨ i = 1 ∨ i = 2 ∨ i = 3 ∨ i = 4 ∨ i = 5 ∨ i = 6 ∨ i = 7 by omega) with rfl | rfl | rfl | rfl | rfl | rfl | rfl | rfl <;> exact hs _ (by decide +kernel))
    (fun i hi j hj => by
      rcases (show i = 0 ∨ i = 1 ∨ i = 2 ∨ i = 3 ∨ i = 4 ∨ i = 5 ∨ i = 6 ∨ i = 7 by omega) with rfl | rfl | rfl | rfl | rfl | rfl | rfl | rfl
      · rcases (show j = 0 ∨ j = 1 ∨ j = 2 ∨ j = 3 by have : j < 4 := hj; omega) with rfl | rfl | rfl | rfl <;> exact hs _ (by decide +kernel)
      · rcases (show j = 0 ∨ j = 1 ∨ j = 2 ∨ j = 3 by have : j < 4 := hj; omega) with rfl | rfl | rfl | rfl <;> exact hs _ (by decide +kernel)
      · rcases (show j = 0 ∨ j = 1 ∨ j = 2 ∨ j = 3 ∨ j = 4 ∨ j = 5 by have : j < 6 := hj; omega) with rfl | rfl | rfl | rfl | rfl | rfl <;> exact hs _ (by decide +kernel)
      · rcases (show j = 0 ∨ j = 1 ∨ j = 2 ∨ j = 3 by have : j < 4 := hj; omega) with rfl | rfl | rfl | rfl <;> exact hs _ (by decide +kernel)
      · rcases (show j = 0 ∨ j = 1 ∨ j = 2 ∨ j = 3 by have : j < 4 := hj; omega) with rfl | rfl | rfl | rfl <;> exact hs _ (by decide +kernel)
      · rcases (show j = 0 ∨ j = 1 ∨ j = 2 by have : j < 3 := hj; omega) with rfl | rfl | rfl <;> exact hs _ (by decide +kernel)
      · rcases (show j = 0 ∨ j = 1 ∨ j = 2 ∨ j = 3 by have : j < 4 := hj; omega) with rfl | rfl | rfl | rfl <;> exact hs _ (by decide +kernel)
      · rcases (show j = 0 ∨ j = 1 ∨ j = 2 ∨ j = 3 by have : j < 4 := hj; omega) with rfl | rfl | rfl | rfl <;> exact hs _ (by decide +kernel)
      )
    (fun i j hi hj hne => by
      rcases (show i = 0 ∨ i = 1 ∨ i = 2 ∨ i = 3 ∨ i = 4 ∨ i = 5 ∨ i = 6 ∨ i = 7 by omega) with rfl | rfl | rfl | rfl | rfl | rfl | rfl | rfl <;> rcases (show j = 0 ∨ j = 1 ∨ j = 2 ∨ j = 3 ∨ j = 4 ∨ j = 5 ∨ j = 6 ∨ j = 7 by omega) with rfl | rfl | rfl | rfl | rfl | rfl | rfl | rfl <;> first | exact absurd rfl hne | exact Or.inl (hs _ (by decide +kernel)) | exact Or.inr (hs _ (by decide +kernel)))
    hA
  obtain ⟨t0, ht0, hT0⟩ := va_Tof (args := args) (s := s) (tm := Term.static "UpDrain$Text" "BOUND" "[I") (ty := .int) (N := 9) (f := fun j => .int (boundF j)) (A := An s.heap.size) (by decide) (hs _ (by decide +kernel)) (va_eqt (hs _ (by decide +kernel)))
    (fun j hj => by rcases (show j = 0 ∨ j = 1 ∨ j = 2 ∨ j = 3 ∨ j = 4 ∨ j = 5 ∨ j = 6 ∨ j = 7 ∨ j = 8 by omega) with rfl | rfl | rfl | rfl | rfl | rfl | rfl | rfl | rfl <;> exact va_eqt (hs _ (by decide +kernel))) hA
  obtain ⟨t1, ht1, hT1⟩ := va_Tof (args := args) (s := s) (tm := Term.static "UpDrain$Text" "LEAST" "[I") (ty := .int) (N := 21) (f := fun j => .int (leastF j)) (A := An s.heap.size) (by decide) (hs _ (by decide +kernel)) (va_eqt (hs _ (by decide +kernel)))
    (fun j hj => by rcases (show j = 0 ∨ j = 1 ∨ j = 2 ∨ j = 3 ∨ j = 4 ∨ j = 5 ∨ j = 6 ∨ j = 7 ∨ j = 8 ∨ j = 9 ∨ j = 10 ∨ j = 11 ∨ j = 12 ∨ j = 13 ∨ j = 14 ∨ j = 15 ∨ j = 16 ∨ j = 17 ∨ j = 18 ∨ j = 19 ∨ j = 20 by omega) with rfl | rfl | rfl | rfl | rfl | rfl | rfl | rfl | rfl | rfl | rfl | rfl | rfl | rfl | rfl | rfl | rfl | rfl | rfl | rfl | rfl <;> exact va_eqt (hs _ (by decide +kernel))) hA
  obtain ⟨t2, ht2, hT2⟩ := va_Tof (args := args) (s := s) (tm := Term.static "UpDrain$Text" "MOST" "[I") (ty := .int) (N := 21) (f := fun j => .int (mostF j)) (A := An s.heap.size) (by decide) (hs _ (by decide +kernel)) (va_eqt (hs _ (by decide +kernel)))
    (fun j hj => by rcases (show j = 0 ∨ j = 1 ∨ j = 2 ∨ j = 3 ∨ j = 4 ∨ j = 5 ∨ j = 6 ∨ j = 7 ∨ j = 8 ∨ j = 9 ∨ j = 10 ∨ j = 11 ∨ j = 12 ∨ j = 13 ∨ j = 14 ∨ j = 15 ∨ j = 16 ∨ j = 17 ∨ j = 18 ∨ j = 19 ∨ j = 20 by omega) with rfl | rfl | rfl | rfl | rfl | rfl | rfl | rfl | rfl | rfl | rfl | rfl | rfl | rfl | rfl | rfl | rfl | rfl | rfl | rfl | rfl <;> exact va_eqt (hs _ (by decide +kernel))) hA
  refine ⟨adK, adV, fun k => match k with | 0 => t0 | 1 => t1 | _ => t2, hvk, ?_, ?_, ?_, ⟨?_, hT0⟩, ⟨?_, hT1⟩, ⟨?_, hT2⟩⟩
  · intro i hi
    have h1 := hvt i hi
    rcases (show i = 0 ∨ i = 1 ∨ i = 2 ∨ i = 3 ∨ i = 4 ∨ i = 5 ∨ i = 6 ∨ i = 7 by omega) with rfl | rfl | rfl | rfl | rfl | rfl | rfl | rfl <;> exact vk_R.of (hts _ (by decide +kernel)) h1
  · exact va_Zof (hts (.laysStatic "java/lang/String" "COMPACT_STRINGS" "Z") (by decide +kernel)) (hts (.initialized "java/lang/String") (by decide +kernel)) (va_eqi (hs _ (by decide +kernel))) hA
  · exact va_Zqof (hts (.laysStatic "jdk/internal/util/Preconditions" "SIOOBE_FORMATTER" "Ljava/util/function/BiFunction;") (by decide +kernel)) (hts (.initialized "jdk/internal/util/Preconditions") (by decide +kernel)) (hs _ (by decide +kernel)) hA
  · exact va_Zref (hts (.laysStatic "UpDrain$Text" "BOUND" "[I") (by decide +kernel)) (hts (.initialized "UpDrain$Text") (by decide +kernel)) ht0 hA
  · exact va_Zref (hts (.laysStatic "UpDrain$Text" "LEAST" "[I") (by decide +kernel)) (hts (.initialized "UpDrain$Text") (by decide +kernel)) ht1 hA
  · exact va_Zref (hts (.laysStatic "UpDrain$Text" "MOST" "[I") (by decide +kernel)) (hts (.initialized "UpDrain$Text") (by decide +kernel)) ht2 hA
theorem join_tail {A0 : Nat → Prop} {D : va_G} {cl : List vw_C} {X w1 : va_W} {q : Nat} {e0 : va_E} {H H1 : Heap} (hP : va_P D cl (X ++ [(q, e0)]) H) (hD : va_D A0 (X ++ [(q, e0)])) (hk : ∀ a : Nat, a < H.size → ¬ va_A [(q, e0)] H.size a → H1[a]? = H[a]?) (hF : ∀ a, va_A [(q, e0)] H.size a → A0 a) (hP1 : va_P D cl w1 H1) (hD1 : va_D (va_A [(q, e0)] H.size) w1) : va_P D cl (X ++ w1) H1 ∧ va_D A0 (X ++ w1) := by
  have hX : ∀ (k : Nat) (y : Nat × va_E), X[k]? = some y → (X ++ [(q, e0)])[k]? = some y := fun k y h => by rw [List.getElem?_append_left (List.getElem?_eq_some_iff.mp h).1]; exact h
  have hq : (X ++ [(q, e0)])[X.length]? = some (q, e0) := by rw [List.getElem?_append_right (Nat.le_refl _)]; simp
  have hne : ∀ (k : Nat) (y : Nat × va_E), X[k]? = some y → y.1 < H.size ∧ ¬ va_A [(q, e0)] H.size y.1 := fun k y h => by
    have hl := (hP k y (hX k y h)).lt
    refine ⟨hl, fun z => ?_⟩
    rcases z with ⟨k2, e2, z⟩ | z
    · have hz : k2 = 0 := by have := (List.getElem?_eq_some_iff.mp z).1; simp at this; exact this
      subst hz
      cases z
      have := hD.1 k X.length y (y.1, e0) (hX k y h) hq rfl
      have := (List.getElem?_eq_some_iff.mp h).1
      omega
    · omega
  have hDX : va_D A0 X := ⟨fun i j p y hi hj e => hD.1 i j p y (hX i p hi) (hX j y hj) e, fun k y h => hD.2 k y (hX k y h)⟩
  refine ⟨va_P.app (fun k y h => ?_) hP1, va_D.app hDX (hD1.weaken (fun k y _ h => hF y.1 h)) (fun i j p y hi hj e => ?_)⟩
  · obtain ⟨g1, g2⟩ := hne k y h
    exact (hP k y (hX k y h)).kept (hk y.1 g1 g2)
  · exact (hne i p hi).2 (by rw [e]; exact hD1.2 j y hj)
theorem tail_P {D : va_G} {cl : List vw_C} {X : va_W} {q : Nat} {e0 : va_E} {H : Heap} (hP : va_P D cl (X ++ [(q, e0)]) H) : va_P D cl [(q, e0)] H := fun k y h => by
  have hz : k = 0 := by have := (List.getElem?_eq_some_iff.mp h).1; simp at this; exact this
  subst hz
  cases h
  exact hP X.length _ (by rw [List.getElem?_append_right (Nat.le_refl _)]; simp)
theorem tail_F {A0 : Nat → Prop} {X : va_W} {q : Nat} {e0 : va_E} {H0 H : Heap} {locs : List Loc} (hD : va_D A0 (X ++ [(q, e0)])) (hS : va_S A0 H0 H locs) (hA : ∀ a, H0.size ≤ a → A0 a) : ∀ a, va_A [(q, e0)] H.size a → A0 a := fun a h => by
  rcases h with ⟨k, e2, z⟩ | z
  · have hz : k = 0 := by have := (List.getElem?_eq_some_iff.mp z).1; simp at this; exact this
    subst hz
    cases z
    exact hD.2 X.length (q, e0) (by rw [List.getElem?_append_right (Nat.le_refl _)]; simp)
  · exact hA a (Nat.le_trans hS.1 z)
theorem wd_app (N : Nat) (ad : Nat → Nat) (C : Nat → va_E) (L : va_W) (d : Nat × va_E) : wd N ad C ++ L = wd (N + L.length) (fun j => if j < N then ad j else (L.getD (j - N) d).1) (fun j => if j < N then C j else (L.getD (j - N) d).2) := by
  apply List.ext_getElem?
  intro k
  by_cases hk : k < N
  · rw [List.getElem?_append_left (by simpa [wd] using hk), wd_get hk, wd_get (by omega)]
    simp [hk]
  · by_cases hk2 : k < N + L.length
    · rw [List.getElem?_append_right (by simp [wd]; omega), wd_get hk2]
      have hl : (wd N ad C).length = N := by simp [wd]
      rw [hl, List.getElem?_eq_getElem (by omega)]
      simp only [hk, if_false]
      rw [List.getD_eq_getElem?_getD, List.getElem?_eq_getElem (by omega)]
      rfl
    · rw [List.getElem?_eq_none (by simp [wd]; omega), List.getElem?_eq_none (by simp [wd]; omega)]
theorem PoolS.re2 {g : Nat → ClassId} {ad ad' : Nat → Nat} {C : Nat → va_E} {sL sT : Nat → Nat → Int32} {sF sU : Nat → Int32} (h : PoolS g ad C sL sT sF sU) (had : ∀ i : Nat, i < 86 → ad' i = ad i) : PoolS g ad' C sL sT sF sU := fun b hb => by
  have q := isSB_u hb
  obtain ⟨h1, h2, h3⟩ := h b hb
  refine ⟨?_, h2, h3⟩
  rw [had (b + 1) (by omega), had (b + 2) (by omega)]
  exact h1

set_option maxHeartbeats 40000000 in
set_option maxRecDepth 100000 in
/-- the law from its entry, from what its function says -/
theorem whole_start_open {p : Program} {e : Env} {s : State} {m : MethodId} {below : List Frame} {meth : Method} {c : Code} (l : Launch) {b L : Nat} {xs : Nat → Int32} {rr : Int32 × (Nat → Int32) × (Nat → Int32) × Int32 × Int32 × Int32 × (Nat → Nat → Int32) × (Nat → Nat → Int32) × (Nat → Int32) × (Nat → Int32)} (hp0 : f_X10_lookAgain (ic_X7_init_1) (fun _ => 0) (fun _ => 0) (fun _ => 0) (fun _ => 0) (fun _ => 0) (fun _ => 0) (ic_X7_init_9) 1 0 (fun _ => 0) (fun _ => 0) 0 0 0 (fun _ _ => 0) (fun _ _ => 0) (fun _ => 0) (fun _ => 0) = some rr) (hpl : LL_law L xs 70 0 0 0 0 0 (fun _ => 0) (fun _ => 0) (fun _ => 0) (ic_X7_init_1) (fun _ => 0) (fun _ => 0) (fun _ => 0) (fun _ => 0) (fun _ => 0) (fun _ => 0) (fun _ => 0) (ic_X7_init_9) (fun _ => 0) (ic_X7_init_11) (fun _ => 0) (fun _ => 0) 1 0 0 rr.1 rr.2.1 rr.2.2.1 (0 : Int64) (0 : Int64) (0 : Int64) rr.2.2.2.1 rr.2.2.2.2.1 0 (fun _ => 0) (fun _ => 0) rr.2.2.2.2.2.1 (fun _ => 0) (fun _ => 0) (fun _ => 0) 0 0 0 (fun _ => 0) (fun _ => 0) 0 0 0 0 0 (fun _ => 0) (fun _ => 0) (ic_X11_init_3) (fun _ => 0) (fun _ => 0) (fun _ => 0) (fun _ => 0) (fun _ => 0) (fun _ => 0) (fun _ => 0) (ic_X11_init_11) (fun _ => 0) (ic_X11_init_13) (fun _ => 0) (fun _ => 0) (fun _ => 0) (fun _ => 0) (fun _ => 0) (fun _ => 0) (fun _ => 0) (fun _ => 0) (fun _ => 0) 0 0 1 0 0 0 0 0 0 0 rr.2.2.2.2.2.2.1 rr.2.2.2.2.2.2.2.1 rr.2.2.2.2.2.2.2.2.1 rr.2.2.2.2.2.2.2.2.2 (fun _ => 0) (fun _ => 0) (fun _ => 0) (fun _ => 0) (fun _ => 0) = some 1) (C0 : lw_At p s m meth c b L xs) : W p l e room_1 s m #[Value.ref b] below meth c s.heap [] 0 0 (lw_Z below #[Value.ref b] s) (entryFrame m ([Value.ref b] : List Value).toArray 4) := by
  obtain ⟨hx, hb, hr, hml, hown, hts, hX, hbl, hlocks, hgv⟩ := id C0
  obtain ⟨D, g, hK⟩ := st_K hts
  obtain ⟨adK, adV, tb, hSD⟩ := st_S hts hgv
  have hA : ∀ q, s.heap.size ≤ q → An s.heap.size q := fun _ h => h
  have hS : va_S (An s.heap.size) s.heap s.heap [] := va_S.rf
  have hP : va_P D vwCl [] s.heap := fun k q h => by simp at h
  have hD : va_D (An s.heap.size) [] := ⟨fun i j p q h => by simp at h, fun k q h => by simp at h⟩
  have hl := lv_entry ([.ref b]) (n := 4) (Nat.le_of_ble_eq_true rfl)
  rw [lg_entry_eq]
  generalize (lg_sl ([.ref b]) ++ List.replicate (4 - (lg_sl ([.ref b])).length) Slot.unset).toArray = ls at hl ⊢
  have hl : lv_has ls 4 [(0, .ref b)] := hl
  refine va_new (ci := 10) (fs := [.null, .null, .null, .null, .null, .null, .null, .null, .null]) (C := RX10) (T := TX10) (N := 9) hx hb hts inX10 tyX10 tyX10_ok hown (hts (.classLink RL 7 RX10) (List.mem_of_getElem? (i := 93) (by decide +kernel))) (hts (.instantiable RX10 9) (List.mem_of_getElem? (i := 94) (by decide +kernel))) (hts (.initialized RX10) (List.mem_of_getElem? (i := 75) (by decide +kernel))) hK.1 hP hD hS hA rfl (fun j hj => by rcases (show j = 0 ∨ j = 1 ∨ j = 2 ∨ j = 3 ∨ j = 4 ∨ j = 5 ∨ j = 6 ∨ j = 7 ∨ j = 8 by omega) with rfl | rfl | rfl | rfl | rfl | rfl | rfl | rfl | rfl <;> rfl) (by show _ ≤ 600000; omega) (by show _ ≤ 7302250; omega) dL_law_0 (fun q0 H hP hD hS => ?_)
  have hP : va_P D vwCl [(q0, .inr (10, [.null, .null, .null, .null, .null, .null, .null, .null, .null]))] H := hP
  have hD : va_D (An s.heap.size) [(q0, .inr (10, [.null, .null, .null, .null, .null, .null, .null, .null, .null]))] := hD
  refine lv_dup hx hb dL_law_3 rfl ?_
  have hFc := va_free (wc := [(q0, .inr (10, [.null, .null, .null, .null, .null, .null, .null, .null, .null]))]) hD hS hA [0] rfl
  refine va_callv (va_runI (As := []) (rest := [.ref q0]) ⟨hx, hb, hml, hown, hts⟩ (c_X10_init (l := l) (D := D) (g := g) (sz := H.size) (h0 := q0) hp0) (cwI 0 hts gL_X10_init rfl rfl rfl (hts (.initialized RX10) (List.mem_of_getElem? (i := 75) (by decide +kernel))) (hts (.methodLink RL 9 yX10_init) (List.mem_of_getElem? (i := 95) (by decide +kernel))) (hts (.instanceMethod yX10_init) (List.mem_of_getElem? (i := 96) (by decide +kernel))) rfl (by decide +kernel) ⟨Nat.le_of_ble_eq_true rfl, Nat.le_of_ble_eq_true rfl⟩) (preC hK hP) rfl rfl hl.1 rfl (lv_room (Nat.le_of_ble_eq_true rfl)) dL_law_4 ⟨by show _ ≤ 600000; omega, by show _ ≤ 7302250; omega⟩) hS (fun q _ h => hFc q h) hFc (fun u t H1 locs ht hvm hw hB hz1 hk1 hS => ?_)
  obtain ⟨ad, C, hP, hD, had0, h_0, h_1, h_2, h_3, h_4, h_5, h_6, h_7, h_8, h_9, h_10, h_11, h_12, h_13, h_14, h_15, h_16, h_17, h_18, h_19, h_20, h_21, h_22, h_23, h_60, h_61, h_65, h_66, h_77, h_78, h_79, h_80, h_81, h_82, h_83, h_84, hS_, hF_⟩ := hB
  rw [ht] at hP
  have hD := hD.weaken (fun k q _ h => hFc q.1 h)
  generalize H1 = H at hP hS ⊢
  refine lv_astore_n (lv' := [(1, .ref q0), (0, .ref b)]) hx hb dL_law_7 rfl hl (by decide) rfl (fun ls hl => ?_)
  refine va_new (ci := 11) (fs := [.null, .int 0, .null, .int 0, .int 0, .null, .null, .null, .null, .null, .null, .null, .null, .null, .null, .null, .null, .null, .int 0, .int 0, .null, .int 0, .int 0, .int 0, .int 0, .null, .null, .null, .null, .null, .null, .int 0]) (C := RX11) (T := TX11) (N := 32) hx hb hts inX11 tyX11 tyX11_ok hown (hts (.classLink RL 10 RX11) (List.mem_of_getElem? (i := 1022) (by decide +kernel))) (hts (.instantiable RX11 32) (List.mem_of_getElem? (i := 1023) (by decide +kernel))) (hts (.initialized RX11) (List.mem_of_getElem? (i := 86) (by decide +kernel))) hK.1 hP hD hS hA rfl (fun j hj => by rcases (show j = 0 ∨ j = 1 ∨ j = 2 ∨ j = 3 ∨ j = 4 ∨ j = 5 ∨ j = 6 ∨ j = 7 ∨ j = 8 ∨ j = 9 ∨ j = 10 ∨ j = 11 ∨ j = 12 ∨ j = 13 ∨ j = 14 ∨ j = 15 ∨ j = 16 ∨ j = 17 ∨ j = 18 ∨ j = 19 ∨ j = 20 ∨ j = 21 ∨ j = 22 ∨ j = 23 ∨ j = 24 ∨ j = 25 ∨ j = 26 ∨ j = 27 ∨ j = 28 ∨ j = 29 ∨ j = 30 ∨ j = 31 by omega) with rfl | rfl | rfl | rfl | rfl | rfl | rfl | rfl | rfl | rfl | rfl | rfl | rfl | rfl | rfl | rfl | rfl | rfl | rfl | rfl | rfl | rfl | rfl | rfl | rfl | rfl | rfl | rfl | rfl | rfl | rfl | rfl <;> rfl) (by show _ ≤ 600000; omega) (by show _ ≤ 7302250; omega) dL_law_8 (fun q86 H hP hD hS => ?_)
  refine lv_dup hx hb dL_law_11 rfl ?_
  have hPc := tail_P hP
  have hFc := tail_F hD hS hA
  refine va_callv (va_runI (As := []) (rest := [.ref q86]) ⟨hx, hb, hml, hown, hts⟩ (c_X11_init (l := l) (D := D) (g := g) (sz := H.size) (h0 := q86)) (cwI 0 hts gL_X11_init rfl rfl rfl (hts (.initialized RX11) (List.mem_of_getElem? (i := 86) (by decide +kernel))) (hts (.methodLink RL 12 yX11_init) (List.mem_of_getElem? (i := 1024) (by decide +kernel))) (hts (.instanceMethod yX11_init) (List.mem_of_getElem? (i := 1025) (by decide +kernel))) rfl (by decide +kernel) ⟨Nat.le_of_ble_eq_true rfl, Nat.le_of_ble_eq_true rfl⟩) (preC hK hPc) rfl rfl hl.1 rfl (lv_room (Nat.le_of_ble_eq_true rfl)) dL_law_12 ⟨by show _ ≤ 600000; omega, by show _ ≤ 7302250; omega⟩) hS (fun q _ h => hFc q h) hFc (fun u t H1 locs ht hvm hw hB hz1 hk1 hS => ?_)
  obtain ⟨q1, q2, q3, q4, q5, q6, q7, q8, q9, q10, q11, q12, q13, q14, q15, q16, q17, q18, q19, q20, q21, q22, hP1, hD1⟩ := hB
  rw [ht] at hP1
  obtain ⟨hP, hD⟩ := join_tail hP hD hk1 hFc hP1 hD1
  generalize H1 = H at hP hS ⊢
  rw [wd_app 86 ad C [(q86, .inr (11, [.ref q1, .int 0, .ref q2, .int 0, .int 1, .ref q3, .ref q4, .ref q5, .ref q6, .ref q7, .ref q8, .ref q9, .ref q10, .ref q11, .ref q12, .ref q13, .ref q14, .ref q15, .int 0, .int 0, .ref q16, .int 0, .int 0, .int 0, .int 0, .ref q17, .ref q18, .ref q19, .ref q20, .ref q21, .ref q22, .int 0])), (q1, aI g 200 (fun _ => 0)), (q2, aI g 54 (fun _ => 0)), (q3, aI g 12 (ic_X11_init_3)), (q4, aI g 12 (fun _ => 0)), (q5, aI g 12 (fun _ => 0)), (q6, aI g 12 (fun _ => 0)), (q7, aI g 12 (fun _ => 0)), (q8, aI g 12 (fun _ => 0)), (q9, aI g 12 (fun _ => 0)), (q10, aI g 12 (fun _ => 0)), (q11, aI g 12 (ic_X11_init_11)), (q12, aI g 24 (fun _ => 0)), (q13, aI g 4 (ic_X11_init_13)), (q14, aI g 4 (fun _ => 0)), (q15, aI g 4 (fun _ => 0)), (q16, aI g 50 (fun _ => 0)), (q17, aI g 12 (fun _ => 0)), (q18, aI g 144 (fun _ => 0)), (q19, aI g 4096 (fun _ => 0)), (q20, aI g 4096 (fun _ => 0)), (q21, aI g 49152 (fun _ => 0)), (q22, aI g 256 (fun _ => 0))] (0, .inr (0, []))] at hP hD
  obtain ⟨ad2, C2, hP, hD, had2, hC2, ha86, h_86, h_87, h_88, h_89, h_90, h_91, h_92, h_93, h_94, h_95, h_96, h_97, h_98, h_99, h_100, h_101, h_102, h_103, h_104, h_105, h_106, h_107, h_108⟩ : ∃ (ad2 : Nat → Nat) (C2 : Nat → va_E), va_P D vwCl (wd 109 ad2 C2) H ∧ va_D (An s.heap.size) (wd 109 ad2 C2) ∧ (∀ i, i < 86 → ad2 i = ad i) ∧ (∀ i, i < 86 → C2 i = C i) ∧ ad2 86 = q86 ∧ (C2 86 = .inr (11, [.ref (ad2 87), .int 0, .ref (ad2 88), .int 0, .int 1, .ref (ad2 89), .ref (ad2 90), .ref (ad2 91), .ref (ad2 92), .ref (ad2 93), .ref (ad2 94), .ref (ad2 95), .ref (ad2 96), .ref (ad2 97), .ref (ad2 98), .ref (ad2 99), .ref (ad2 100), .ref (ad2 101), .int 0, .int 0, .ref (ad2 102), .int 0, .int 0, .int 0, .int 0, .ref (ad2 103), .ref (ad2 104), .ref (ad2 105), .ref (ad2 106), .ref (ad2 107), .ref (ad2 108), .int 0])) ∧ (C2 87 = aI g 200 (fun _ => 0)) ∧ (C2 88 = aI g 54 (fun _ => 0)) ∧ (C2 89 = aI g 12 (ic_X11_init_3)) ∧ (C2 90 = aI g 12 (fun _ => 0)) ∧ (C2 91 = aI g 12 (fun _ => 0)) ∧ (C2 92 = aI g 12 (fun _ => 0)) ∧ (C2 93 = aI g 12 (fun _ => 0)) ∧ (C2 94 = aI g 12 (fun _ => 0)) ∧ (C2 95 = aI g 12 (fun _ => 0)) ∧ (C2 96 = aI g 12 (fun _ => 0)) ∧ (C2 97 = aI g 12 (ic_X11_init_11)) ∧ (C2 98 = aI g 24 (fun _ => 0)) ∧ (C2 99 = aI g 4 (ic_X11_init_13)) ∧ (C2 100 = aI g 4 (fun _ => 0)) ∧ (C2 101 = aI g 4 (fun _ => 0)) ∧ (C2 102 = aI g 50 (fun _ => 0)) ∧ (C2 103 = aI g 12 (fun _ => 0)) ∧ (C2 104 = aI g 144 (fun _ => 0)) ∧ (C2 105 = aI g 4096 (fun _ => 0)) ∧ (C2 106 = aI g 4096 (fun _ => 0)) ∧ (C2 107 = aI g 49152 (fun _ => 0)) ∧ (C2 108 = aI g 256 (fun _ => 0)) :=
    ⟨_, _, hP, hD, fun i hi => if_pos hi, fun i hi => if_pos hi, rfl, rfl, rfl, rfl, rfl, rfl, rfl, rfl, rfl, rfl, rfl, rfl, rfl, rfl, rfl, rfl, rfl, rfl, rfl, rfl, rfl, rfl, rfl, rfl⟩
  have h_0 : C2 0 = .inr (10, [.ref (ad2 1), .ref (ad2 5), .ref (ad2 19), .ref (ad2 21), .ref (ad2 60), .ref (ad2 77), .ref (ad2 81), .ref (ad2 84), .ref (ad2 85)]) := by rw [had2 1 (by decide), had2 5 (by decide), had2 19 (by decide), had2 21 (by decide), had2 60 (by decide), had2 77 (by decide), had2 81 (by decide), had2 84 (by decide), had2 85 (by decide)]; exact (hC2 0 (by decide)).trans h_0
  have h_1 : C2 1 = .inr (5, [.ref (ad2 2), .ref (ad2 3), .ref (ad2 4), .int 0, .int 0, .int 0, .int 0]) := by rw [had2 2 (by decide), had2 3 (by decide), had2 4 (by decide)]; exact (hC2 1 (by decide)).trans h_1
  have h_2 := (hC2 2 (by decide)).trans h_2
  have h_3 := (hC2 3 (by decide)).trans h_3
  have h_4 := (hC2 4 (by decide)).trans h_4
  have h_5 : C2 5 = .inr (7, [.ref (ad2 6), .ref (ad2 7), .ref (ad2 8), .ref (ad2 9), .ref (ad2 10), .ref (ad2 11), .ref (ad2 12), .ref (ad2 13), .ref (ad2 14), .ref (ad2 15), .ref (ad2 16), .ref (ad2 17), .ref (ad2 18), .int 1, .int 0, .int 0]) := by rw [had2 6 (by decide), had2 7 (by decide), had2 8 (by decide), had2 9 (by decide), had2 10 (by decide), had2 11 (by decide), had2 12 (by decide), had2 13 (by decide), had2 14 (by decide), had2 15 (by decide), had2 16 (by decide), had2 17 (by decide), had2 18 (by decide)]; exact (hC2 5 (by decide)).trans h_5
  have h_6 := (hC2 6 (by decide)).trans h_6
  have h_7 := (hC2 7 (by decide)).trans h_7
  have h_8 := (hC2 8 (by decide)).trans h_8
  have h_9 := (hC2 9 (by decide)).trans h_9
  have h_10 := (hC2 10 (by decide)).trans h_10
  have h_11 := (hC2 11 (by decide)).trans h_11
  have h_12 := (hC2 12 (by decide)).trans h_12
  have h_13 := (hC2 13 (by decide)).trans h_13
  have h_14 := (hC2 14 (by decide)).trans h_14
  have h_15 := (hC2 15 (by decide)).trans h_15
  have h_16 := (hC2 16 (by decide)).trans h_16
  have h_17 := (hC2 17 (by decide)).trans h_17
  have h_18 := (hC2 18 (by decide)).trans h_18
  have h_19 : C2 19 = .inr (9, [.ref (ad2 5), .ref (ad2 20), .int rr.1]) := by rw [had2 5 (by decide), had2 20 (by decide)]; exact (hC2 19 (by decide)).trans h_19
  have h_20 := (hC2 20 (by decide)).trans h_20
  have h_21 : C2 21 = .inr (8, [.ref (ad2 5), .ref (ad2 19), .ref (ad2 22), .ref (ad2 23)]) := by rw [had2 5 (by decide), had2 19 (by decide), had2 22 (by decide), had2 23 (by decide)]; exact (hC2 21 (by decide)).trans h_21
  have h_22 := (hC2 22 (by decide)).trans h_22
  have h_23 : C2 23 = aS g 12 (fun i => if i < 12 then some (ad2 (24 + 3 * i)) else none) := ((hC2 23 (by decide)).trans h_23).trans (aS_re (fun i h => had2 i (by omega)))
  have h_60 : C2 60 = .inr (6, [.ref (ad2 5), .ref (ad2 19), .ref (ad2 21), .ref (ad2 61), .ref (ad2 62), .ref (ad2 65), .ref (ad2 66), .long (0 : Int64), .long (0 : Int64), .long (0 : Int64), .int rr.2.2.2.1, .int rr.2.2.2.2.1, .int 0]) := by rw [had2 5 (by decide), had2 19 (by decide), had2 21 (by decide), had2 61 (by decide), had2 62 (by decide), had2 65 (by decide), had2 66 (by decide)]; exact (hC2 60 (by decide)).trans h_60
  have h_61 : C2 61 = aF g 10 (fun i => if i < 10 then some (ad2 (67 + i)) else none) := ((hC2 61 (by decide)).trans h_61).trans (aF_re (fun i h => had2 i (by omega)))
  have h_65 := (hC2 65 (by decide)).trans h_65
  have h_66 := (hC2 66 (by decide)).trans h_66
  have h_77 : C2 77 = .inr (2, [.ref (ad2 5), .ref (ad2 19), .ref (ad2 78), .ref (ad2 79), .ref (ad2 80), .int rr.2.2.2.2.2.1]) := by rw [had2 5 (by decide), had2 19 (by decide), had2 78 (by decide), had2 79 (by decide), had2 80 (by decide)]; exact (hC2 77 (by decide)).trans h_77
  have h_78 := (hC2 78 (by decide)).trans h_78
  have h_79 := (hC2 79 (by decide)).trans h_79
  have h_80 := (hC2 80 (by decide)).trans h_80
  have h_81 : C2 81 = .inr (3, [.ref (ad2 5), .ref (ad2 19), .ref (ad2 82), .ref (ad2 83)]) := by rw [had2 5 (by decide), had2 19 (by decide), had2 82 (by decide), had2 83 (by decide)]; exact (hC2 81 (by decide)).trans h_81
  have h_82 := (hC2 82 (by decide)).trans h_82
  have h_83 := (hC2 83 (by decide)).trans h_83
  have h_84 : C2 84 = .inr (0, [.ref (ad2 5), .ref (ad2 19), .ref (ad2 77), .int 0, .int 0, .int 0, .int 0, .int 0]) := by rw [had2 5 (by decide), had2 19 (by decide), had2 77 (by decide)]; exact (hC2 84 (by decide)).trans h_84
  have hS_ := (hS_.re2 had2).ne (C' := C2) (fun i h1 h2 => hC2 i (by omega))
  have hF_ := hF_.ne (C' := C2) (fun i h1 => hC2 i (by omega))
  refine lv_astore_n (lv' := [(2, .ref q86), (1, .ref q0), (0, .ref b)]) hx hb dL_law_15 rfl hl (by decide) rfl (fun ls hl => ?_)
  refine lv_iconst (v := 0) hx hb dL_law_16 (by decide) ?_
  refine lv_istore_n (lv' := [(3, .int 0), (2, .ref q86), (1, .ref q0), (0, .ref b)]) hx hb dL_law_17 rfl hl (by decide) rfl (fun ls hl => ?_)
  have hl : lv_has ls 4 [(0, .ref b), (1, .ref (ad2 0)), (2, .ref (ad2 86)), (3, .int 0)] := by rw [had2 0 (by decide), had0, ha86]; exact lv_sub hl [3, 2, 1, 0] rfl
  exact law_loop C0 (N := 109) (by decide) hK hSD 70 0 0 0 0 0 (fun _ => 0) (fun _ => 0) (fun _ => 0) (ic_X7_init_1) (fun _ => 0) (fun _ => 0) (fun _ => 0) (fun _ => 0) (fun _ => 0) (fun _ => 0) (fun _ => 0) (ic_X7_init_9) (fun _ => 0) (ic_X7_init_11) (fun _ => 0) (fun _ => 0) 1 0 0 rr.1 rr.2.1 rr.2.2.1 (0 : Int64) (0 : Int64) (0 : Int64) rr.2.2.2.1 rr.2.2.2.2.1 0 (fun _ => 0) (fun _ => 0) rr.2.2.2.2.2.1 (fun _ => 0) (fun _ => 0) (fun _ => 0) 0 0 0 (fun _ => 0) (fun _ => 0) 0 0 0 0 0 (fun _ => 0) (fun _ => 0) (ic_X11_init_3) (fun _ => 0) (fun _ => 0) (fun _ => 0) (fun _ => 0) (fun _ => 0) (fun _ => 0) (fun _ => 0) (ic_X11_init_11) (fun _ => 0) (ic_X11_init_13) (fun _ => 0) (fun _ => 0) (fun _ => 0) (fun _ => 0) (fun _ => 0) (fun _ => 0) (fun _ => 0) (fun _ => 0) (fun _ => 0) 0 0 1 0 0 0 0 0 0 0 rr.2.2.2.2.2.2.1 rr.2.2.2.2.2.2.2.1 rr.2.2.2.2.2.2.2.2.1 rr.2.2.2.2.2.2.2.2.2 (fun _ => 0) (fun _ => 0) (fun _ => 0) (fun _ => 0) (fun _ => 0) ad2 C2 H _ ls _ _ (by decide) (by decide) (Inj_of hD) (Ad_of hD) hP hS h_0 h_1 h_2 h_3 h_4 h_5 h_6 h_7 h_8 h_9 h_10 h_11 h_12 h_13 h_14 h_15 h_16 h_17 h_18 h_19 h_20 h_21 h_22 h_23 h_60 h_61 h_65 h_66 h_77 h_78 h_79 h_80 h_81 h_82 h_83 h_84 h_86 h_87 h_88 h_89 h_90 h_91 h_92 h_93 h_94 h_95 h_96 h_97 h_98 h_99 h_100 h_101 h_102 h_103 h_104 h_105 h_106 h_107 h_108 hF_ hS_ hl hpl
