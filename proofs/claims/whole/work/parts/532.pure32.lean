/-! the start -/
theorem Pl0 : Pl ic_X7_init_1 ic_X11_init_3 (fun _ => 0) (fun _ => 0) (fun _ => 0) (fun _ => 0) ic_X7_init_9 ic_X7_init_11 (fun _ => 0) (fun _ => 0) (nI 1) (nI 0) 0 := by
  have z : ∀ n B, Bd (fun _ => 0) n B := fun n B i _ => ⟨0, Nat.zero_le _, rfl⟩
  have h1 : ∀ v, v < 12 → 1 ≤ v → hb (nI 1) v = false := by decide
  have h2 : ∀ v, v < 12 → ic_X7_init_1 v = -1 := by decide
  have h3 : ic_X11_init_3 0 = -1 := by decide
  have h4 : ∀ v, v < 12 → ic_X7_init_9 v = nI 23 := by decide
  have h5 : ∀ v, v < 4 → ic_X7_init_11 v = nI 1 := by decide
  refine ⟨⟨1, by decide, rfl⟩, ⟨by decide, h3, fun v a b c => ?_⟩, fun v a b => ?_, fun v a _ => h2 v a, z _ _, z _ _, rfl, z _ _, z _ _, fun v a => ⟨23, Nat.le_refl _, h4 v a⟩, fun v a => ⟨1, Nat.le_refl _, by decide, h5 v a⟩, z _ _, z _ _, ⟨0, Nat.zero_le _, rfl⟩, 0, Nat.zero_le _, rfl⟩
  · rw [h1 v b a] at c; exact absurd c (by decide)
  · by_cases q : v = 0
    · subst q; rw [h2 0 a, h3]
    · rw [h1 v a (by omega)] at b; exact absurd b (by decide)
/-- from the entry the law comes to its end with true -/
theorem whole_start {p : Program} {e : Env} {s : State} {m : MethodId} {below : List Frame} {meth : Method} {c : Code} (l : Launch) {b L : Nat} {xs : Nat → Int32} (hL : L ≤ 384) (C0 : lw_At p s m meth c b L xs) : W p l e room_1 s m #[Value.ref b] below meth c s.heap [] 0 0 (lw_Z below #[Value.ref b] s) (entryFrame m ([Value.ref b] : List Value).toArray 4) := by
  obtain ⟨ov1, wg1, sL1, sT1, sF1, sU1, e1, h1, h2⟩ := look10 (mi := fun _ => 0) (go := fun _ => 0) (fl := fun _ => 0) (st := fun _ => 0) (fr := fun _ => 0) (to := ic_X7_init_9) (lk := fun _ => 0) Pl0.2.1 Pl0.2.2.1 0 (fun _ => 0) (fun _ => 0) 0 0 0 (fun _ _ => 0) (fun _ _ => 0) (fun _ => 0) (fun _ => 0)
  refine whole_start_open l (rr := (nI (srN (nI 1) (fun _ => 0)), ov1, wg1, 0, 0, 0, sL1, sT1, sF1, sU1)) e1 ?_ C0
  have hC : Core 0 1 0 0 0 ic_X7_init_1 ic_X11_init_3 (fun _ => 0) (fun _ => 0) (fun _ => 0) (fun _ => 0) (fun _ => 0) (fun _ => 0) (fun _ => 0) ic_X7_init_9 (fun _ => 0) ic_X7_init_11 (fun _ => 0) (fun _ => 0) (fun _ => 0) ov1 wg1 0 0 0 0 0 0 0 (fun _ => 0) (fun _ => 0) (fun _ => 0) (fun _ => 0) (fun _ => 0) sL1 sT1 sF1 sU1 (fun _ => 0) (fun _ => 0) (fun _ => 0) (fun _ => 0) (fun _ => 0) := ⟨by omega, by omega, by omega, by omega, Pl0, h1, h2, Fnd.zero, Or.inl rfl, Or.inl rfl, Or.inl rfl⟩
  exact law2 hL xs 70 0 0 1 0 0 0 0 0 0 0 0 0 0 0 0 0 0 0 0 0 0 0 0 0 0 0 (fun _ => 0) (fun _ => 0) (fun _ => 0) ic_X7_init_1 (fun _ => 0) (fun _ => 0) (fun _ => 0) (fun _ => 0) (fun _ => 0) (fun _ => 0) (fun _ => 0) ic_X7_init_9 (fun _ => 0) ic_X7_init_11 (fun _ => 0) (fun _ => 0) ov1 wg1 (fun _ => 0) (fun _ => 0) (fun _ => 0) (fun _ => 0) (fun _ => 0) (fun _ => 0) ic_X11_init_3 (fun _ => 0) (fun _ => 0) (fun _ => 0) (fun _ => 0) (fun _ => 0) (fun _ => 0) (fun _ => 0) sF1 sU1 (fun _ => 0) (fun _ => 0) (fun _ => 0) (fun _ => 0) (fun _ => 0) (fun _ => 0) (fun _ => 0) sL1 sT1 (Nat.zero_le _) (by omega) hC
