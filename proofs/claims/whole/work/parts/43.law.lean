/-! THE CLAIM OUT OF ONE WALK OF THE LAW'S BODY. Your part is whole_start (and what it stands on); all else here is the same for every law, but numbers. -/
def R_law : String := "UpDrainLaw"
def lw_P (b : Addr) (xs : List Int32) (args : Array Value) (s : State) : Prop := args = #[.ref b] ∧ s.IntsAt b xs ∧ xs.length ≤ 384 ∧ (Jvm.Cond.and given_1 narrow_1).before args s = true
def lw_Q (_ : Array Value) (s : State) (o : Outcome) (t : State) : Prop := o = .returned (some (.int 1)) ∧ Framed s o t [] 600000 7302250
def lw_Z (below : List Frame) (a : Array Value) (s : State) : State → Prop := fun t => ∃ o, t.status = .running ∧ Ended t below o ∧ lw_Q a s o t
/-- the law's own end, with 1 on the stack, nothing written that was there before, its room as the claim has it -/
theorem lw_ret {p : Program} {l : Launch} {e : Env} {s : State} {m : MethodId} {below : List Frame} {meth : Method} {c : Code} {b : Nat} (hx : p.tables.exec = Jvm.exec) (hb : c.code = code) (hr : meth.sig.returnType = ret) (hlocks : meth.locks = false) {pc : Nat} {H : Heap} {ls : Array Slot} (hdg : decode code pc = .ok (.ireturn, 1)) : W p l e room_1 s m #[Value.ref b] below meth c H [] 600000 7302250 (lw_Z below #[Value.ref b] s) (F0 m pc ls [.int 1]) := by
  intro T hT X
  obtain ⟨fs, hret, hrun, hended, hW, hframe⟩ := X.leave (v := some (.int 1)) (hlocks := hlocks) (fun h => by rw [hr] at h; cases h)
  have hmeth' : T.vm.method? m = some meth := X.method'
  refine ⟨T.setFrames fs, ?_, .returned (some (.int 1)), hrun, hended, rfl, ⟨_, rfl⟩, hW, hframe⟩
  jvm_step X.here [X.here.top, hx, hb, hdg, hmeth', hr, ret, narrow_b1]
  (try refine ⟨rfl, ?_⟩); (try refine ⟨rfl, ?_⟩)
  first | (intro acts; rw [hret _ acts rfl rfl rfl]) | rw [hret _ _ rfl rfl rfl]
  exact Steps.refl _
/-- what holds at the law's entry: the machine, the code, the tables' words (any of lw_tbl by 'hts w (by decide +kernel)'), the script of L ints xs at the cell b, what the Statement gives of the start (any of its parts by flat_of_before) -/
def lw_At (p : Program) (s : State) (m : MethodId) (meth : Method) (c : Code) (b L : Nat) (xs : Nat → Int32) : Prop :=
  p.tables.exec = Jvm.exec ∧ c.code = code ∧ meth.sig.returnType = ret ∧ c.maxLocals = 4 ∧ s.vm.findClass R_law = some m.cls ∧ (∀ w ∈ lw_tbl, w.before #[Value.ref b] s = true) ∧ va_X b L xs s s.heap ∧ b < s.heap.size ∧ meth.locks = false ∧ (Jvm.Cond.and given_1 narrow_1).before #[Value.ref b] s = true
theorem fit1 {a b : Nat} (h : a + b ≤ 600000) : a + b ≤ room_1.cells := h
theorem fit2 {a b : Nat} (h : a + b ≤ 7302250) : a + b ≤ room_1.slots := h
theorem fit3 {a n : Nat} (h : a + 57344 * (n + 1) ≤ 7000000) : a + 57344 ≤ room_1.slots := fit2 (Nat.le_trans (Nat.add_le_add_left (Nat.le_mul_of_pos_right 57344 (Nat.succ_pos n)) a) (Nat.le_trans h (Nat.le_of_ble_eq_true rfl)))
theorem fit4 {a n : Nat} (h : a + 57344 * (n + 1) ≤ 7000000) : a + 57344 + 0 ≤ room_1.slots := fit3 h
def LL_law (L : Nat) (xs : Nat → Int32) : Nat → Int32 → Int32 → Int32 → Int32 → Int32 → (Nat → Int32) → (Nat → Int32) → (Nat → Int32) → (Nat → Int32) → (Nat → Int32) → (Nat → Int32) → (Nat → Int32) → (Nat → Int32) → (Nat → Int32) → (Nat → Int32) → (Nat → Int32) → (Nat → Int32) → (Nat → Int32) → (Nat → Int32) → (Nat → Int32) → (Nat → Int32) → Int32 → Int32 → Int32 → Int32 → (Nat → Int32) → (Nat → Int32) → Int64 → Int64 → Int64 → Int32 → Int32 → Int32 → (Nat → Int64) → (Nat → Int64) → Int32 → (Nat → Int32) → (Nat → Int32) → (Nat → Int32) → Nat → Nat → Nat → (Nat → Int32) → (Nat → Int32) → Int32 → Int32 → Int32 → Int32 → Int32 → (Nat → Int32) → (Nat → Int32) → (Nat → Int32) → (Nat → Int32) → (Nat → Int32) → (Nat → Int32) → (Nat → Int32) → (Nat → Int32) → (Nat → Int32) → (Nat → Int32) → (Nat → Int32) → (Nat → Int32) → (Nat → Int32) → (Nat → Int32) → (Nat → Int32) → (Nat → Int32) → (Nat → Int32) → (Nat → Int32) → (Nat → Int32) → (Nat → Int32) → (Nat → Int32) → (Nat → Int32) → Int32 → Int32 → Int32 → Int32 → Int32 → Int32 → Int32 → Int32 → Int32 → Int32 → (Nat → Nat → Int32) → (Nat → Nat → Int32) → (Nat → Int32) → (Nat → Int32) → (Nat → Int32) → (Nat → Int32) → (Nat → Int32) → (Nat → Int32) → (Nat → Int32) → Option Int32
  | 0, _, _, _, _, _, _, _, _, _, _, _, _, _, _, _, _, _, _, _, _, _, _, _, _, _, _, _, _, _, _, _, _, _, _, _, _, _, _, _, _, _, _, _, _, _, _, _, _, _, _, _, _, _, _, _, _, _, _, _, _, _, _, _, _, _, _, _, _, _, _, _, _, _, _, _, _, _, _, _, _, _, _, _, _, _, _, _, _, _, _ => none
  | n + 1, x3, tx_len, tx_lines, tx_ts, tx_te, tx_b, tx_k, tx_n, t_down, t_min, t_pac, t_gone, t_infl, t_lik, t_str, t_from, t_unt, t_rain, t_tell, t_wy, t_wn, t_there, t_lift, t_none, w_src, w_over, wa_g, th_none, th_all1, th_all2, th_k1, th_k2, th_size, th_one, th_two, h_solved, h_few, h_sum, h_min, hn1, hn2, hn3, l_kinds, l_unl, d_seed, d_min, d_gue, d_src, d_lif, m_text, m_read, m_down, m_min, m_walk, m_gone, m_flow, m_lik, m_str, m_from, m_to, m_rain, m_tell, m_fy, m_fn, m_finds, m_abv, m_apart, m_few, m_mean, m_soon, m_kinds, m_len, m_rm, m_there, m_lift, m_blank, m_fm, m_at, m_pl, m_end, m_seed, sL, sT, sF, sU, fC, fS, fM, fT, fY =>
    if ((nI L) - 6) < x3 then
      some 1
    else
      ri xs L (x3) fun x2 =>
      lt ((x2 &&& 31) : Int32) fun x4 =>
      if x4 = 0 then
        ri xs L ((x3 + 1)) fun x6 =>
        ri xs L ((x3 + 2)) fun x8 =>
        ri xs L ((x3 + 3)) fun x10 =>
        (f_X10_write (((Int32.toInt64 x6) <<< (Int32.toInt64 32 &&& 63)) ||| ((Int32.toInt64 x8) &&& (4294967295 : Int64))) x10 tx_len tx_b).bind fun q12 =>
        ri xs L ((x3 + 1)) fun x13 =>
        ri xs L ((x3 + 2)) fun x15 =>
        ri xs L ((x3 + 3)) fun x17 =>
        (f_X11_write (((Int32.toInt64 x13) <<< (Int32.toInt64 32 &&& 63)) ||| ((Int32.toInt64 x15) &&& (4294967295 : Int64))) x17 m_text m_len).bind fun q19 =>
        if q12.1 = q19.1 then
          lt (x3 + 6 : Int32) fun x21 =>
          LL_law L xs n x21 q12.2.1 tx_lines tx_ts tx_te q12.2.2 tx_k tx_n t_down t_min t_pac t_gone t_infl t_lik t_str t_from t_unt t_rain t_tell t_wy t_wn t_there t_lift t_none w_src w_over wa_g th_none th_all1 th_all2 th_k1 th_k2 th_size th_one th_two h_solved h_few h_sum h_min hn1 hn2 hn3 l_kinds l_unl d_seed d_min d_gue d_src d_lif q19.2.1 m_read m_down m_min m_walk m_gone m_flow m_lik m_str m_from m_to m_rain m_tell m_fy m_fn m_finds m_abv m_apart m_few m_mean m_soon m_kinds q19.2.2 m_rm m_there m_lift m_blank m_fm m_at m_pl m_end m_seed sL sT sF sU fC fS fM fT fY
        else
          some 0
      else if x4 = 1 then
        (f_X10_erase tx_len).bind fun q23 =>
        (f_X11_erase m_len).bind fun q24 =>
        if q23.1 = q24.1 then
          lt (x3 + 6 : Int32) fun x26 =>
          LL_law L xs n x26 q23.2 tx_lines tx_ts tx_te tx_b tx_k tx_n t_down t_min t_pac t_gone t_infl t_lik t_str t_from t_unt t_rain t_tell t_wy t_wn t_there t_lift t_none w_src w_over wa_g th_none th_all1 th_all2 th_k1 th_k2 th_size th_one th_two h_solved h_few h_sum h_min hn1 hn2 hn3 l_kinds l_unl d_seed d_min d_gue d_src d_lif m_text m_read m_down m_min m_walk m_gone m_flow m_lik m_str m_from m_to m_rain m_tell m_fy m_fn m_finds m_abv m_apart m_few m_mean m_soon m_kinds q24.2 m_rm m_there m_lift m_blank m_fm m_at m_pl m_end m_seed sL sT sF sU fC fS fM fT fY
        else
          some 0
      else if x4 = 2 then
        (f_X10_fault tx_len tx_lines tx_ts tx_te tx_b tx_k tx_n).bind fun q28 =>
        (f_X11_fault m_text m_read m_len m_rm m_at m_pl m_end).bind fun q29 =>
        if q28.1 = q29.1 then
          lt (x3 + 6 : Int32) fun x31 =>
          LL_law L xs n x31 tx_len q28.2.1 q28.2.2.1 q28.2.2.2.1 tx_b q28.2.2.2.2.1 q28.2.2.2.2.2 t_down t_min t_pac t_gone t_infl t_lik t_str t_from t_unt t_rain t_tell t_wy t_wn t_there t_lift t_none w_src w_over wa_g th_none th_all1 th_all2 th_k1 th_k2 th_size th_one th_two h_solved h_few h_sum h_min hn1 hn2 hn3 l_kinds l_unl d_seed d_min d_gue d_src d_lif m_text q29.2.1 m_down m_min m_walk m_gone m_flow m_lik m_str m_from m_to m_rain m_tell m_fy m_fn m_finds m_abv m_apart m_few m_mean m_soon m_kinds m_len q29.2.2.1 m_there m_lift m_blank m_fm q29.2.2.2.1 q29.2.2.2.2.1 q29.2.2.2.2.2 m_seed sL sT sF sU fC fS fM fT fY
        else
          some 0
      else if x4 = 3 then
        (f_X10_town tx_len tx_lines tx_ts tx_te tx_b tx_k tx_n t_down t_min t_pac t_gone t_infl t_lik t_str t_from t_unt t_rain t_tell t_wy t_wn t_there t_lift t_none w_src w_over wa_g th_k1 th_k2 h_solved sL sT sF sU).bind fun q33 =>
        (f_X11_town m_text m_read m_down m_min m_walk m_gone m_flow m_lik m_str m_from m_to m_rain m_tell m_fy m_fn m_len m_rm m_there m_lift m_blank m_at m_pl m_end).bind fun q34 =>
        if q33.1 = q34.1 then
          lt (x3 + 6 : Int32) fun x36 =>
          LL_law L xs n x36 q33.2.1 q33.2.2.1 q33.2.2.2.1 q33.2.2.2.2.1 tx_b q33.2.2.2.2.2.1 q33.2.2.2.2.2.2.1 q33.2.2.2.2.2.2.2.1 q33.2.2.2.2.2.2.2.2.1 q33.2.2.2.2.2.2.2.2.2.1 q33.2.2.2.2.2.2.2.2.2.2.1 q33.2.2.2.2.2.2.2.2.2.2.2.1 q33.2.2.2.2.2.2.2.2.2.2.2.2.1 q33.2.2.2.2.2.2.2.2.2.2.2.2.2.1 q33.2.2.2.2.2.2.2.2.2.2.2.2.2.2.1 q33.2.2.2.2.2.2.2.2.2.2.2.2.2.2.2.1 q33.2.2.2.2.2.2.2.2.2.2.2.2.2.2.2.2.1 q33.2.2.2.2.2.2.2.2.2.2.2.2.2.2.2.2.2.1 q33.2.2.2.2.2.2.2.2.2.2.2.2.2.2.2.2.2.2.1 q33.2.2.2.2.2.2.2.2.2.2.2.2.2.2.2.2.2.2.2.1 q33.2.2.2.2.2.2.2.2.2.2.2.2.2.2.2.2.2.2.2.2.1 q33.2.2.2.2.2.2.2.2.2.2.2.2.2.2.2.2.2.2.2.2.2.1 q33.2.2.2.2.2.2.2.2.2.2.2.2.2.2.2.2.2.2.2.2.2.2.1 q33.2.2.2.2.2.2.2.2.2.2.2.2.2.2.2.2.2.2.2.2.2.2.2.1 q33.2.2.2.2.2.2.2.2.2.2.2.2.2.2.2.2.2.2.2.2.2.2.2.2.1 q33.2.2.2.2.2.2.2.2.2.2.2.2.2.2.2.2.2.2.2.2.2.2.2.2.2.1 th_none th_all1 th_all2 q33.2.2.2.2.2.2.2.2.2.2.2.2.2.2.2.2.2.2.2.2.2.2.2.2.2.2.1 q33.2.2.2.2.2.2.2.2.2.2.2.2.2.2.2.2.2.2.2.2.2.2.2.2.2.2.2.1 th_size th_one th_two q33.2.2.2.2.2.2.2.2.2.2.2.2.2.2.2.2.2.2.2.2.2.2.2.2.2.2.2.2.1 h_few h_sum h_min hn1 hn2 hn3 l_kinds l_unl d_seed d_min d_gue d_src d_lif m_text q34.2.1 q34.2.2.1 q34.2.2.2.1 q34.2.2.2.2.1 q34.2.2.2.2.2.1 q34.2.2.2.2.2.2.1 q34.2.2.2.2.2.2.2.1 q34.2.2.2.2.2.2.2.2.1 q34.2.2.2.2.2.2.2.2.2.1 q34.2.2.2.2.2.2.2.2.2.2.1 q34.2.2.2.2.2.2.2.2.2.2.2.1 q34.2.2.2.2.2.2.2.2.2.2.2.2.1 q34.2.2.2.2.2.2.2.2.2.2.2.2.2.1 q34.2.2.2.2.2.2.2.2.2.2.2.2.2.2.1 m_finds m_abv m_apart m_few m_mean m_soon m_kinds q34.2.2.2.2.2.2.2.2.2.2.2.2.2.2.2.1 q34.2.2.2.2.2.2.2.2.2.2.2.2.2.2.2.2.1 q34.2.2.2.2.2.2.2.2.2.2.2.2.2.2.2.2.2.1 q34.2.2.2.2.2.2.2.2.2.2.2.2.2.2.2.2.2.2.1 q34.2.2.2.2.2.2.2.2.2.2.2.2.2.2.2.2.2.2.2.1 m_fm q34.2.2.2.2.2.2.2.2.2.2.2.2.2.2.2.2.2.2.2.2.1 q34.2.2.2.2.2.2.2.2.2.2.2.2.2.2.2.2.2.2.2.2.2.1 q34.2.2.2.2.2.2.2.2.2.2.2.2.2.2.2.2.2.2.2.2.2.2 m_seed q33.2.2.2.2.2.2.2.2.2.2.2.2.2.2.2.2.2.2.2.2.2.2.2.2.2.2.2.2.2.1 q33.2.2.2.2.2.2.2.2.2.2.2.2.2.2.2.2.2.2.2.2.2.2.2.2.2.2.2.2.2.2.1 q33.2.2.2.2.2.2.2.2.2.2.2.2.2.2.2.2.2.2.2.2.2.2.2.2.2.2.2.2.2.2.2.1 q33.2.2.2.2.2.2.2.2.2.2.2.2.2.2.2.2.2.2.2.2.2.2.2.2.2.2.2.2.2.2.2.2 fC fS fM fT fY
        else
          some 0
      else if x4 = 4 then
        ri xs L ((x3 + 1)) fun x38 =>
        ri xs L ((x3 + 2)) fun x40 =>
        (f_X10_of x38 x40 t_down t_min t_pac t_gone t_infl t_lik t_str t_from t_unt t_there).bind fun q42 =>
        ri xs L ((x3 + 1)) fun x43 =>
        ri xs L ((x3 + 2)) fun x45 =>
        (f_X11_of x43 x45 m_down m_min m_walk m_gone m_flow m_lik m_str m_from m_to m_there).bind fun q47 =>
        if q42 = q47 then
          lt (x3 + 6 : Int32) fun x49 =>
          LL_law L xs n x49 tx_len tx_lines tx_ts tx_te tx_b tx_k tx_n t_down t_min t_pac t_gone t_infl t_lik t_str t_from t_unt t_rain t_tell t_wy t_wn t_there t_lift t_none w_src w_over wa_g th_none th_all1 th_all2 th_k1 th_k2 th_size th_one th_two h_solved h_few h_sum h_min hn1 hn2 hn3 l_kinds l_unl d_seed d_min d_gue d_src d_lif m_text m_read m_down m_min m_walk m_gone m_flow m_lik m_str m_from m_to m_rain m_tell m_fy m_fn m_finds m_abv m_apart m_few m_mean m_soon m_kinds m_len m_rm m_there m_lift m_blank m_fm m_at m_pl m_end m_seed sL sT sF sU fC fS fM fT fY
        else
          some 0
      else if x4 = 5 then
        ri xs L ((x3 + 1)) fun x51 =>
        ri xs L ((x3 + 2)) fun x53 =>
        (f_X10_cup x51 x53 t_tell t_wy t_wn).bind fun q55 =>
        ri xs L ((x3 + 1)) fun x56 =>
        ri xs L ((x3 + 2)) fun x58 =>
        (f_X11_cup x56 x58 m_tell m_fy m_fn).bind fun q60 =>
        if q55 = q60 then
          lt (x3 + 6 : Int32) fun x62 =>
          LL_law L xs n x62 tx_len tx_lines tx_ts tx_te tx_b tx_k tx_n t_down t_min t_pac t_gone t_infl t_lik t_str t_from t_unt t_rain t_tell t_wy t_wn t_there t_lift t_none w_src w_over wa_g th_none th_all1 th_all2 th_k1 th_k2 th_size th_one th_two h_solved h_few h_sum h_min hn1 hn2 hn3 l_kinds l_unl d_seed d_min d_gue d_src d_lif m_text m_read m_down m_min m_walk m_gone m_flow m_lik m_str m_from m_to m_rain m_tell m_fy m_fn m_finds m_abv m_apart m_few m_mean m_soon m_kinds m_len m_rm m_there m_lift m_blank m_fm m_at m_pl m_end m_seed sL sT sF sU fC fS fM fT fY
        else
          some 0
      else if x4 = 6 then
        ri xs L ((x3 + 1)) fun x64 =>
        (f_X10_above x64 t_there w_over).bind fun q66 =>
        ri xs L ((x3 + 1)) fun x67 =>
        (f_X11_above x67 m_down m_there).bind fun q69 =>
        if q66 = q69 then
          lt (x3 + 6 : Int32) fun x71 =>
          LL_law L xs n x71 tx_len tx_lines tx_ts tx_te tx_b tx_k tx_n t_down t_min t_pac t_gone t_infl t_lik t_str t_from t_unt t_rain t_tell t_wy t_wn t_there t_lift t_none w_src w_over wa_g th_none th_all1 th_all2 th_k1 th_k2 th_size th_one th_two h_solved h_few h_sum h_min hn1 hn2 hn3 l_kinds l_unl d_seed d_min d_gue d_src d_lif m_text m_read m_down m_min m_walk m_gone m_flow m_lik m_str m_from m_to m_rain m_tell m_fy m_fn m_finds m_abv m_apart m_few m_mean m_soon m_kinds m_len m_rm m_there m_lift m_blank m_fm m_at m_pl m_end m_seed sL sT sF sU fC fS fM fT fY
        else
          some 0
      else if x4 = 7 then
        ri xs L ((x3 + 1)) fun x73 =>
        ri xs L ((x3 + 2)) fun x75 =>
        (f_X10_walk x73 x75 t_down t_pac t_there).bind fun q77 =>
        ri xs L ((x3 + 1)) fun x78 =>
        ri xs L ((x3 + 2)) fun x80 =>
        (f_X11_walk x78 x80 m_down m_walk m_there).bind fun q82 =>
        if q77 = q82 then
          lt (x3 + 6 : Int32) fun x84 =>
          LL_law L xs n x84 tx_len tx_lines tx_ts tx_te tx_b tx_k tx_n t_down t_min t_pac t_gone t_infl t_lik t_str t_from t_unt t_rain t_tell t_wy t_wn t_there t_lift t_none w_src w_over wa_g th_none th_all1 th_all2 th_k1 th_k2 th_size th_one th_two h_solved h_few h_sum h_min hn1 hn2 hn3 l_kinds l_unl d_seed d_min d_gue d_src d_lif m_text m_read m_down m_min m_walk m_gone m_flow m_lik m_str m_from m_to m_rain m_tell m_fy m_fn m_finds m_abv m_apart m_few m_mean m_soon m_kinds m_len m_rm m_there m_lift m_blank m_fm m_at m_pl m_end m_seed sL sT sF sU fC fS fM fT fY
        else
          some 0
      else if x4 = 8 then
        ri xs L ((x3 + 1)) fun x86 =>
        ri xs L ((x3 + 2)) fun x88 =>
        (f_X10_flow x86 x88 t_rain t_there wa_g).bind fun q90 =>
        ri xs L ((x3 + 1)) fun x91 =>
        ri xs L ((x3 + 2)) fun x93 =>
        (f_X11_flow x91 x93 m_down m_flow m_rain m_there).bind fun q95 =>
        if q90 = q95 then
          lt (x3 + 6 : Int32) fun x97 =>
          LL_law L xs n x97 tx_len tx_lines tx_ts tx_te tx_b tx_k tx_n t_down t_min t_pac t_gone t_infl t_lik t_str t_from t_unt t_rain t_tell t_wy t_wn t_there t_lift t_none w_src w_over wa_g th_none th_all1 th_all2 th_k1 th_k2 th_size th_one th_two h_solved h_few h_sum h_min hn1 hn2 hn3 l_kinds l_unl d_seed d_min d_gue d_src d_lif m_text m_read m_down m_min m_walk m_gone m_flow m_lik m_str m_from m_to m_rain m_tell m_fy m_fn m_finds m_abv m_apart m_few m_mean m_soon m_kinds m_len m_rm m_there m_lift m_blank m_fm m_at m_pl m_end m_seed sL sT sF sU fC fS fM fT fY
        else
          some 0
      else if x4 = 9 then
        ri xs L ((x3 + 1)) fun x99 =>
        ri xs L ((x3 + 2)) fun x101 =>
        ri xs L ((x3 + 3)) fun x103 =>
        ri xs L ((x3 + 4)) fun x105 =>
        (f_X10_comes x99 x101 x103 x105 t_rain t_there wa_g sL sT sF sU).bind fun q107 =>
        ri xs L ((x3 + 1)) fun x108 =>
        ri xs L ((x3 + 2)) fun x110 =>
        ri xs L ((x3 + 3)) fun x112 =>
        ri xs L ((x3 + 4)) fun x114 =>
        (f_X11_comes x108 x110 x112 x114 m_down m_min m_gone m_flow m_str m_from m_to m_rain m_there).bind fun q116 =>
        if q107 = q116 then
          lt (x3 + 6 : Int32) fun x118 =>
          LL_law L xs n x118 tx_len tx_lines tx_ts tx_te tx_b tx_k tx_n t_down t_min t_pac t_gone t_infl t_lik t_str t_from t_unt t_rain t_tell t_wy t_wn t_there t_lift t_none w_src w_over wa_g th_none th_all1 th_all2 th_k1 th_k2 th_size th_one th_two h_solved h_few h_sum h_min hn1 hn2 hn3 l_kinds l_unl d_seed d_min d_gue d_src d_lif m_text m_read m_down m_min m_walk m_gone m_flow m_lik m_str m_from m_to m_rain m_tell m_fy m_fn m_finds m_abv m_apart m_few m_mean m_soon m_kinds m_len m_rm m_there m_lift m_blank m_fm m_at m_pl m_end m_seed sL sT sF sU fC fS fM fT fY
        else
          some 0
      else if x4 = 10 then
        ri xs L ((x3 + 1)) fun x120 =>
        ri xs L ((x3 + 2)) fun x122 =>
        ri xs L ((x3 + 3)) fun x124 =>
        ri xs L ((x3 + 4)) fun x126 =>
        ri xs L ((x3 + 5)) fun x128 =>
        (f_X10_should x120 x122 x124 x126 x128 t_rain t_tell t_there wa_g sL sT sF sU fC fS fM fT fY).bind fun q130 =>
        ri xs L ((x3 + 1)) fun x131 =>
        ri xs L ((x3 + 2)) fun x133 =>
        ri xs L ((x3 + 3)) fun x135 =>
        ri xs L ((x3 + 4)) fun x137 =>
        ri xs L ((x3 + 5)) fun x139 =>
        (f_X11_should x131 x133 x135 x137 x139 m_down m_min m_gone m_flow m_str m_from m_to m_rain m_tell m_there).bind fun q141 =>
        if q130.1 = q141 then
          lt (x3 + 6 : Int32) fun x143 =>
          LL_law L xs n x143 tx_len tx_lines tx_ts tx_te tx_b tx_k tx_n t_down t_min t_pac t_gone t_infl t_lik t_str t_from t_unt t_rain t_tell t_wy t_wn t_there t_lift t_none w_src w_over wa_g th_none th_all1 th_all2 th_k1 th_k2 th_size th_one th_two h_solved h_few h_sum h_min hn1 hn2 hn3 l_kinds l_unl d_seed d_min d_gue d_src d_lif m_text m_read m_down m_min m_walk m_gone m_flow m_lik m_str m_from m_to m_rain m_tell m_fy m_fn m_finds m_abv m_apart m_few m_mean m_soon m_kinds m_len m_rm m_there m_lift m_blank m_fm m_at m_pl m_end m_seed sL sT sF sU q130.2.1 q130.2.2.1 q130.2.2.2.1 q130.2.2.2.2.1 q130.2.2.2.2.2
        else
          some 0
      else if x4 = 11 then
        ri xs L ((x3 + 1)) fun x145 =>
        ri xs L ((x3 + 2)) fun x147 =>
        ri xs L ((x3 + 3)) fun x149 =>
        ri xs L ((x3 + 4)) fun x151 =>
        ri xs L ((x3 + 5)) fun x153 =>
        (if x153 = 0 then
          some (0)
        else
          some (1) : Option (Int32)).bind fun q155 =>
        bq (q155) <|
        (f_X10_found x145 x147 x149 x151 q155 t_there th_k1 th_k2 th_size fC fS fM fT fY).bind fun q156 =>
        ri xs L ((x3 + 1)) fun x158 =>
        ri xs L ((x3 + 2)) fun x160 =>
        ri xs L ((x3 + 3)) fun x162 =>
        ri xs L ((x3 + 4)) fun x164 =>
        ri xs L ((x3 + 5)) fun x166 =>
        (if x166 = 0 then
          some (0)
        else
          some (1) : Option (Int32)).bind fun q168 =>
        bq (q168) <|
        (f_X11_found x158 x160 x162 x164 q168 m_finds m_there m_fm).bind fun q169 =>
        if q156.1 = q169.1 then
          lt (x3 + 6 : Int32) fun x172 =>
          LL_law L xs n x172 tx_len tx_lines tx_ts tx_te tx_b tx_k tx_n t_down t_min t_pac t_gone t_infl t_lik t_str t_from t_unt t_rain t_tell t_wy t_wn t_there t_lift t_none w_src w_over wa_g th_none th_all1 th_all2 q156.2.1 q156.2.2.1 q156.2.2.2.1 th_one th_two h_solved h_few h_sum h_min hn1 hn2 hn3 l_kinds l_unl d_seed d_min d_gue d_src d_lif m_text m_read m_down m_min m_walk m_gone m_flow m_lik m_str m_from m_to m_rain m_tell m_fy m_fn q169.2.1 m_abv m_apart m_few m_mean m_soon m_kinds m_len m_rm m_there m_lift m_blank q169.2.2 m_at m_pl m_end m_seed sL sT sF sU q156.2.2.2.2.1 q156.2.2.2.2.2.1 q156.2.2.2.2.2.2.1 q156.2.2.2.2.2.2.2.1 q156.2.2.2.2.2.2.2.2
        else
          some 0
      else if x4 = 12 then
        (f_X10_forget th_k1 th_k2 th_size).bind fun q176 =>
        (f_X11_forget m_fm).bind fun q177 =>
        if q176.1 = q177.1 then
          lt (x3 + 6 : Int32) fun x179 =>
          LL_law L xs n x179 tx_len tx_lines tx_ts tx_te tx_b tx_k tx_n t_down t_min t_pac t_gone t_infl t_lik t_str t_from t_unt t_rain t_tell t_wy t_wn t_there t_lift t_none w_src w_over wa_g th_none th_all1 th_all2 q176.2.1 q176.2.2.1 q176.2.2.2 th_one th_two h_solved h_few h_sum h_min hn1 hn2 hn3 l_kinds l_unl d_seed d_min d_gue d_src d_lif m_text m_read m_down m_min m_walk m_gone m_flow m_lik m_str m_from m_to m_rain m_tell m_fy m_fn m_finds m_abv m_apart m_few m_mean m_soon m_kinds m_len m_rm m_there m_lift m_blank q177.2 m_at m_pl m_end m_seed sL sT sF sU fC fS fM fT fY
        else
          some 0
      else if x4 = 13 then
        ri xs L ((x3 + 1)) fun x181 =>
        ri xs L ((x3 + 2)) fun x183 =>
        (f_X10_chance x181 x183 t_lik t_rain t_tell t_wy t_wn t_there t_none w_src wa_g th_none th_all1 th_k1 th_size th_one sL sT sF sU fC fS fM fT fY).bind fun q185 =>
        ri xs L ((x3 + 1)) fun x186 =>
        ri xs L ((x3 + 2)) fun x188 =>
        (f_X11_chance x186 x188 m_down m_min m_gone m_flow m_lik m_str m_from m_to m_rain m_tell m_fy m_fn m_finds m_there m_blank m_fm).bind fun q190 =>
        if (lg_cmp q185.1 q190) = 0 then
          lt (x3 + 6 : Int32) fun x192 =>
          LL_law L xs n x192 tx_len tx_lines tx_ts tx_te tx_b tx_k tx_n t_down t_min t_pac t_gone t_infl t_lik t_str t_from t_unt t_rain t_tell t_wy t_wn t_there t_lift t_none w_src w_over wa_g q185.2.1 q185.2.2.1 th_all2 q185.2.2.2.1 th_k2 th_size q185.2.2.2.2 th_two h_solved h_few h_sum h_min hn1 hn2 hn3 l_kinds l_unl d_seed d_min d_gue d_src d_lif m_text m_read m_down m_min m_walk m_gone m_flow m_lik m_str m_from m_to m_rain m_tell m_fy m_fn m_finds m_abv m_apart m_few m_mean m_soon m_kinds m_len m_rm m_there m_lift m_blank m_fm m_at m_pl m_end m_seed sL sT sF sU fC fS fM fT fY
        else
          some 0
      else if x4 = 14 then
        ri xs L ((x3 + 1)) fun x194 =>
        ri xs L ((x3 + 2)) fun x196 =>
        ri xs L ((x3 + 3)) fun x198 =>
        (f_X10_two x194 x196 x198 t_lik t_rain t_tell t_wy t_wn t_there w_src wa_g th_all2 th_k2 th_size th_two sL sT sF sU fC fS fM fT fY).bind fun q200 =>
        ri xs L ((x3 + 1)) fun x201 =>
        ri xs L ((x3 + 2)) fun x203 =>
        ri xs L ((x3 + 3)) fun x205 =>
        (f_X11_two x201 x203 x205 m_down m_min m_gone m_flow m_lik m_str m_from m_to m_rain m_tell m_fy m_fn m_finds m_there m_fm).bind fun q207 =>
        if (lg_cmp q200.1 q207) = 0 then
          lt (x3 + 6 : Int32) fun x209 =>
          LL_law L xs n x209 tx_len tx_lines tx_ts tx_te tx_b tx_k tx_n t_down t_min t_pac t_gone t_infl t_lik t_str t_from t_unt t_rain t_tell t_wy t_wn t_there t_lift t_none w_src w_over wa_g th_none th_all1 q200.2.1 th_k1 q200.2.2.1 th_size th_one q200.2.2.2 h_solved h_few h_sum h_min hn1 hn2 hn3 l_kinds l_unl d_seed d_min d_gue d_src d_lif m_text m_read m_down m_min m_walk m_gone m_flow m_lik m_str m_from m_to m_rain m_tell m_fy m_fn m_finds m_abv m_apart m_few m_mean m_soon m_kinds m_len m_rm m_there m_lift m_blank m_fm m_at m_pl m_end m_seed sL sT sF sU fC fS fM fT fY
        else
          some 0
      else if x4 = 15 then
        ri xs L ((x3 + 1)) fun x211 =>
        ri xs L ((x3 + 2)) fun x213 =>
        ri xs L ((x3 + 3)) fun x215 =>
        ri xs L ((x3 + 4)) fun x217 =>
        ri xs L ((x3 + 5)) fun x219 =>
        (f_X10_worth x211 x213 x215 x217 x219 t_lik t_rain t_tell t_wy t_wn t_there t_none w_src wa_g th_none th_all1 th_k1 th_size th_one sL sT sF sU fC fS fM fT fY).bind fun q221 =>
        ri xs L ((x3 + 1)) fun x222 =>
        ri xs L ((x3 + 2)) fun x224 =>
        ri xs L ((x3 + 3)) fun x226 =>
        ri xs L ((x3 + 4)) fun x228 =>
        ri xs L ((x3 + 5)) fun x230 =>
        (f_X11_worth x222 x224 x226 x228 x230 m_down m_min m_gone m_flow m_lik m_str m_from m_to m_rain m_tell m_fy m_fn m_finds m_there m_blank m_fm).bind fun q232 =>
        if (lg_cmp q221.1 q232) = 0 then
          lt (x3 + 6 : Int32) fun x234 =>
          LL_law L xs n x234 tx_len tx_lines tx_ts tx_te tx_b tx_k tx_n t_down t_min t_pac t_gone t_infl t_lik t_str t_from t_unt t_rain t_tell t_wy t_wn t_there t_lift t_none w_src w_over wa_g q221.2.1 q221.2.2.1 th_all2 q221.2.2.2.1 th_k2 th_size q221.2.2.2.2.1 th_two h_solved h_few h_sum h_min hn1 hn2 hn3 l_kinds l_unl d_seed d_min d_gue d_src d_lif m_text m_read m_down m_min m_walk m_gone m_flow m_lik m_str m_from m_to m_rain m_tell m_fy m_fn m_finds m_abv m_apart m_few m_mean m_soon m_kinds m_len m_rm m_there m_lift m_blank m_fm m_at m_pl m_end m_seed sL sT sF sU q221.2.2.2.2.2.1 q221.2.2.2.2.2.2.1 q221.2.2.2.2.2.2.2.1 q221.2.2.2.2.2.2.2.2.1 q221.2.2.2.2.2.2.2.2.2
        else
          some 0
      else if x4 = 16 then
        (f_X10_likeliest t_lik t_rain t_tell t_wy t_wn t_none w_src wa_g th_none th_all1 th_k1 th_size th_one sL sT sF sU fC fS fM fT fY).bind fun q236 =>
        (f_X11_likeliest m_down m_min m_gone m_flow m_lik m_str m_from m_to m_rain m_tell m_fy m_fn m_finds m_there m_blank m_fm).bind fun q237 =>
        if q236.1 = q237 then
          lt (x3 + 6 : Int32) fun x239 =>
          LL_law L xs n x239 tx_len tx_lines tx_ts tx_te tx_b tx_k tx_n t_down t_min t_pac t_gone t_infl t_lik t_str t_from t_unt t_rain t_tell t_wy t_wn t_there t_lift t_none w_src w_over wa_g q236.2.1 q236.2.2.1 th_all2 q236.2.2.2.1 th_k2 th_size q236.2.2.2.2 th_two h_solved h_few h_sum h_min hn1 hn2 hn3 l_kinds l_unl d_seed d_min d_gue d_src d_lif m_text m_read m_down m_min m_walk m_gone m_flow m_lik m_str m_from m_to m_rain m_tell m_fy m_fn m_finds m_abv m_apart m_few m_mean m_soon m_kinds m_len m_rm m_there m_lift m_blank m_fm m_at m_pl m_end m_seed sL sT sF sU fC fS fM fT fY
        else
          some 0
      else if x4 = 17 then
        ri xs L ((x3 + 1)) fun x241 =>
        (f_X10_lacks x241 t_down t_min t_gone t_rain t_tell t_there wa_g th_size sL sT sF sU fC fS fM fT fY).bind fun q243 =>
        ri xs L ((x3 + 1)) fun x244 =>
        (f_X11_lacks x244 m_down m_min m_gone m_flow m_str m_from m_to m_rain m_tell m_finds m_there m_fm).bind fun q246 =>
        if q243.1 = q246 then
          lt (x3 + 6 : Int32) fun x248 =>
          LL_law L xs n x248 tx_len tx_lines tx_ts tx_te tx_b tx_k tx_n t_down t_min t_pac t_gone t_infl t_lik t_str t_from t_unt t_rain t_tell t_wy t_wn t_there t_lift t_none w_src w_over wa_g th_none th_all1 th_all2 th_k1 th_k2 th_size th_one th_two h_solved h_few h_sum h_min hn1 hn2 hn3 l_kinds l_unl d_seed d_min d_gue d_src d_lif m_text m_read m_down m_min m_walk m_gone m_flow m_lik m_str m_from m_to m_rain m_tell m_fy m_fn m_finds m_abv m_apart m_few m_mean m_soon m_kinds m_len m_rm m_there m_lift m_blank m_fm m_at m_pl m_end m_seed q243.2.1 q243.2.2.1 q243.2.2.2.1 q243.2.2.2.2 fC fS fM fT fY
        else
          some 0
      else if x4 = 18 then
        ri xs L ((x3 + 1)) fun x250 =>
        (f_X10_fewest x250 t_down t_pac t_lik t_lift w_src w_over h_solved h_few h_sum h_min hn1 hn2 hn3).bind fun q252 =>
        ri xs L ((x3 + 1)) fun x253 =>
        (f_X11_fewest x253 m_down m_walk m_lik m_abv m_apart m_few m_there).bind fun q255 =>
        if q252.1 = q255.1 then
          lt (x3 + 6 : Int32) fun x257 =>
          LL_law L xs n x257 tx_len tx_lines tx_ts tx_te tx_b tx_k tx_n t_down t_min t_pac t_gone t_infl t_lik t_str t_from t_unt t_rain t_tell t_wy t_wn t_there t_lift t_none w_src w_over wa_g th_none th_all1 th_all2 th_k1 th_k2 th_size th_one th_two q252.2.1 q252.2.2.1 q252.2.2.2.1 q252.2.2.2.2.1 q252.2.2.2.2.2.1 q252.2.2.2.2.2.2.1 q252.2.2.2.2.2.2.2 l_kinds l_unl d_seed d_min d_gue d_src d_lif m_text m_read m_down m_min m_walk m_gone m_flow m_lik m_str m_from m_to m_rain m_tell m_fy m_fn m_finds q255.2.1 q255.2.2.1 q255.2.2.2 m_mean m_soon m_kinds m_len m_rm m_there m_lift m_blank m_fm m_at m_pl m_end m_seed sL sT sF sU fC fS fM fT fY
        else
          some 0
      else if x4 = 19 then
        ri xs L ((x3 + 1)) fun x259 =>
        (f_X10_mean x259 t_down t_pac t_lik t_lift w_src w_over h_solved h_few h_sum h_min hn1 hn2 hn3).bind fun q261 =>
        ri xs L ((x3 + 1)) fun x262 =>
        (f_X11_mean x262 m_down m_walk m_lik m_abv m_apart m_mean m_there).bind fun q264 =>
        if q261.1 = q264.1 then
          lt (x3 + 6 : Int32) fun x266 =>
          LL_law L xs n x266 tx_len tx_lines tx_ts tx_te tx_b tx_k tx_n t_down t_min t_pac t_gone t_infl t_lik t_str t_from t_unt t_rain t_tell t_wy t_wn t_there t_lift t_none w_src w_over wa_g th_none th_all1 th_all2 th_k1 th_k2 th_size th_one th_two q261.2.1 q261.2.2.1 q261.2.2.2.1 q261.2.2.2.2.1 q261.2.2.2.2.2.1 q261.2.2.2.2.2.2.1 q261.2.2.2.2.2.2.2 l_kinds l_unl d_seed d_min d_gue d_src d_lif m_text m_read m_down m_min m_walk m_gone m_flow m_lik m_str m_from m_to m_rain m_tell m_fy m_fn m_finds q264.2.1 q264.2.2.1 m_few q264.2.2.2 m_soon m_kinds m_len m_rm m_there m_lift m_blank m_fm m_at m_pl m_end m_seed sL sT sF sU fC fS fM fT fY
        else
          some 0
      else if x4 = 20 then
        ri xs L ((x3 + 1)) fun x268 =>
        ri xs L ((x3 + 2)) fun x270 =>
        (f_X10_soon x268 x270 t_down t_pac t_lik t_there t_lift w_src w_over h_solved h_few h_sum h_min hn1 hn2 hn3).bind fun q272 =>
        ri xs L ((x3 + 1)) fun x273 =>
        ri xs L ((x3 + 2)) fun x275 =>
        (f_X11_soon x273 x275 m_down m_walk m_lik m_abv m_apart m_soon m_there m_lift).bind fun q277 =>
        if q272.1 = q277.1 then
          lt (x3 + 6 : Int32) fun x279 =>
          LL_law L xs n x279 tx_len tx_lines tx_ts tx_te tx_b tx_k tx_n t_down t_min t_pac t_gone t_infl t_lik t_str t_from t_unt t_rain t_tell t_wy t_wn t_there t_lift t_none w_src w_over wa_g th_none th_all1 th_all2 th_k1 th_k2 th_size th_one th_two q272.2.1 q272.2.2.1 q272.2.2.2.1 q272.2.2.2.2.1 q272.2.2.2.2.2.1 q272.2.2.2.2.2.2.1 q272.2.2.2.2.2.2.2 l_kinds l_unl d_seed d_min d_gue d_src d_lif m_text m_read m_down m_min m_walk m_gone m_flow m_lik m_str m_from m_to m_rain m_tell m_fy m_fn m_finds q277.2.1 q277.2.2.1 m_few m_mean q277.2.2.2 m_kinds m_len m_rm m_there m_lift m_blank m_fm m_at m_pl m_end m_seed sL sT sF sU fC fS fM fT fY
        else
          some 0
      else if x4 = 21 then
        ri xs L ((x3 + 1)) fun x281 =>
        ri xs L ((x3 + 2)) fun x283 =>
        ri xs L ((x3 + 3)) fun x285 =>
        ri xs L ((x3 + 4)) fun x287 =>
        (f_X10_row x281 x283 x285 x287 t_down t_pac t_there w_src w_over l_kinds).bind fun q289 =>
        ri xs L ((x3 + 1)) fun x290 =>
        ri xs L ((x3 + 2)) fun x292 =>
        ri xs L ((x3 + 3)) fun x294 =>
        ri xs L ((x3 + 4)) fun x296 =>
        (f_X11_row x290 x292 x294 x296 m_down m_walk m_lik m_kinds m_there).bind fun q298 =>
        if q289.1 = q298.1 then
          lt (x3 + 6 : Int32) fun x300 =>
          LL_law L xs n x300 tx_len tx_lines tx_ts tx_te tx_b tx_k tx_n t_down t_min t_pac t_gone t_infl t_lik t_str t_from t_unt t_rain t_tell t_wy t_wn t_there t_lift t_none w_src w_over wa_g th_none th_all1 th_all2 th_k1 th_k2 th_size th_one th_two h_solved h_few h_sum h_min hn1 hn2 hn3 q289.2 l_unl d_seed d_min d_gue d_src d_lif m_text m_read m_down m_min m_walk m_gone m_flow m_lik m_str m_from m_to m_rain m_tell m_fy m_fn m_finds m_abv m_apart m_few m_mean m_soon q298.2 m_len m_rm m_there m_lift m_blank m_fm m_at m_pl m_end m_seed sL sT sF sU fC fS fM fT fY
        else
          some 0
      else if x4 = 22 then
        ri xs L ((x3 + 1)) fun x302 =>
        ri xs L ((x3 + 2)) fun x304 =>
        ri xs L ((x3 + 3)) fun x306 =>
        ri xs L ((x3 + 4)) fun x308 =>
        (f_X10_answers x302 x304 x306 x308 t_down t_pac t_there w_src w_over).bind fun q310 =>
        ri xs L ((x3 + 1)) fun x311 =>
        ri xs L ((x3 + 2)) fun x313 =>
        ri xs L ((x3 + 3)) fun x315 =>
        ri xs L ((x3 + 4)) fun x317 =>
        (f_X11_answers x311 x313 x315 x317 m_down m_walk m_lik m_there).bind fun q319 =>
        if q310 = q319 then
          lt (x3 + 6 : Int32) fun x321 =>
          LL_law L xs n x321 tx_len tx_lines tx_ts tx_te tx_b tx_k tx_n t_down t_min t_pac t_gone t_infl t_lik t_str t_from t_unt t_rain t_tell t_wy t_wn t_there t_lift t_none w_src w_over wa_g th_none th_all1 th_all2 th_k1 th_k2 th_size th_one th_two h_solved h_few h_sum h_min hn1 hn2 hn3 l_kinds l_unl d_seed d_min d_gue d_src d_lif m_text m_read m_down m_min m_walk m_gone m_flow m_lik m_str m_from m_to m_rain m_tell m_fy m_fn m_finds m_abv m_apart m_few m_mean m_soon m_kinds m_len m_rm m_there m_lift m_blank m_fm m_at m_pl m_end m_seed sL sT sF sU fC fS fM fT fY
        else
          some 0
      else if x4 = 23 then
        ri xs L ((x3 + 1)) fun x323 =>
        (f_X10_hang x323 t_down t_pac t_there w_src w_over l_unl).bind fun q325 =>
        ri xs L ((x3 + 1)) fun x326 =>
        (f_X11_hang x326 m_down m_walk m_lik m_abv m_apart m_there).bind fun q328 =>
        if q325.1 = q328.1 then
          lt (x3 + 6 : Int32) fun x330 =>
          LL_law L xs n x330 tx_len tx_lines tx_ts tx_te tx_b tx_k tx_n t_down t_min t_pac t_gone t_infl t_lik t_str t_from t_unt t_rain t_tell t_wy t_wn t_there t_lift t_none w_src w_over wa_g th_none th_all1 th_all2 th_k1 th_k2 th_size th_one th_two h_solved h_few h_sum h_min hn1 hn2 hn3 l_kinds q325.2 d_seed d_min d_gue d_src d_lif m_text m_read m_down m_min m_walk m_gone m_flow m_lik m_str m_from m_to m_rain m_tell m_fy m_fn m_finds q328.2.1 q328.2.2 m_few m_mean m_soon m_kinds m_len m_rm m_there m_lift m_blank m_fm m_at m_pl m_end m_seed sL sT sF sU fC fS fM fT fY
        else
          some 0
      else if x4 = 24 then
        ri xs L ((x3 + 1)) fun x332 =>
        ri xs L ((x3 + 2)) fun x334 =>
        ri xs L ((x3 + 3)) fun x336 =>
        (f_X10_day x332 x334 x336 t_down t_pac t_lik t_wy t_wn t_lift w_src w_over h_solved h_few h_sum h_min hn1 hn2 hn3 d_seed d_min d_gue d_src d_lif).bind fun q338 =>
        ri xs L ((x3 + 1)) fun x339 =>
        ri xs L ((x3 + 2)) fun x341 =>
        ri xs L ((x3 + 3)) fun x343 =>
        (f_X11_day x339 x341 x343 m_down m_walk m_lik m_fy m_fn m_abv m_apart m_soon m_there m_lift m_seed).bind fun q345 =>
        if q338.1 = q345.1 then
          lt (x3 + 6 : Int32) fun x347 =>
          LL_law L xs n x347 tx_len tx_lines tx_ts tx_te tx_b tx_k tx_n t_down t_min t_pac t_gone t_infl t_lik t_str t_from t_unt t_rain t_tell t_wy t_wn t_there t_lift t_none w_src w_over wa_g th_none th_all1 th_all2 th_k1 th_k2 th_size th_one th_two q338.2.1 q338.2.2.1 q338.2.2.2.1 q338.2.2.2.2.1 q338.2.2.2.2.2.1 q338.2.2.2.2.2.2.1 q338.2.2.2.2.2.2.2.1 l_kinds l_unl q338.2.2.2.2.2.2.2.2.1 q338.2.2.2.2.2.2.2.2.2.1 q338.2.2.2.2.2.2.2.2.2.2.1 q338.2.2.2.2.2.2.2.2.2.2.2.1 q338.2.2.2.2.2.2.2.2.2.2.2.2 m_text m_read m_down m_min m_walk m_gone m_flow m_lik m_str m_from m_to m_rain m_tell m_fy m_fn m_finds q345.2.1 q345.2.2.1 m_few m_mean q345.2.2.2.1 m_kinds m_len m_rm m_there m_lift m_blank m_fm m_at m_pl m_end q345.2.2.2.2 sL sT sF sU fC fS fM fT fY
        else
          some 0
      else if x4 = 25 then
        ri xs L ((x3 + 1)) fun x349 =>
        (f_X10_count x349 tx_len t_pac t_there t_lift t_none w_src th_size).bind fun q351 =>
        ri xs L ((x3 + 1)) fun x352 =>
        (f_X11_count x352 m_walk m_lik m_len m_there m_lift m_blank m_fm).bind fun q354 =>
        if q351 = q354 then
          lt (x3 + 6 : Int32) fun x356 =>
          LL_law L xs n x356 tx_len tx_lines tx_ts tx_te tx_b tx_k tx_n t_down t_min t_pac t_gone t_infl t_lik t_str t_from t_unt t_rain t_tell t_wy t_wn t_there t_lift t_none w_src w_over wa_g th_none th_all1 th_all2 th_k1 th_k2 th_size th_one th_two h_solved h_few h_sum h_min hn1 hn2 hn3 l_kinds l_unl d_seed d_min d_gue d_src d_lif m_text m_read m_down m_min m_walk m_gone m_flow m_lik m_str m_from m_to m_rain m_tell m_fy m_fn m_finds m_abv m_apart m_few m_mean m_soon m_kinds m_len m_rm m_there m_lift m_blank m_fm m_at m_pl m_end m_seed sL sT sF sU fC fS fM fT fY
        else
          some 0
      else 
        lt (x3 + 6 : Int32) fun x357 =>
        LL_law L xs n x357 tx_len tx_lines tx_ts tx_te tx_b tx_k tx_n t_down t_min t_pac t_gone t_infl t_lik t_str t_from t_unt t_rain t_tell t_wy t_wn t_there t_lift t_none w_src w_over wa_g th_none th_all1 th_all2 th_k1 th_k2 th_size th_one th_two h_solved h_few h_sum h_min hn1 hn2 hn3 l_kinds l_unl d_seed d_min d_gue d_src d_lif m_text m_read m_down m_min m_walk m_gone m_flow m_lik m_str m_from m_to m_rain m_tell m_fy m_fn m_finds m_abv m_apart m_few m_mean m_soon m_kinds m_len m_rm m_there m_lift m_blank m_fm m_at m_pl m_end m_seed sL sT sF sU fC fS fM fT fY
theorem LL_law_s (L : Nat) (xs : Nat → Int32) (n : Nat) (x3 : Int32) (tx_len : Int32) (tx_lines : Int32) (tx_ts : Int32) (tx_te : Int32) (tx_b : Nat → Int32) (tx_k : Nat → Int32) (tx_n : Nat → Int32) (t_down : Nat → Int32) (t_min : Nat → Int32) (t_pac : Nat → Int32) (t_gone : Nat → Int32) (t_infl : Nat → Int32) (t_lik : Nat → Int32) (t_str : Nat → Int32) (t_from : Nat → Int32) (t_unt : Nat → Int32) (t_rain : Nat → Int32) (t_tell : Nat → Int32) (t_wy : Nat → Int32) (t_wn : Nat → Int32) (t_there : Int32) (t_lift : Int32) (t_none : Int32) (w_src : Int32) (w_over : Nat → Int32) (wa_g : Nat → Int32) (th_none : Int64) (th_all1 : Int64) (th_all2 : Int64) (th_k1 : Int32) (th_k2 : Int32) (th_size : Int32) (th_one : Nat → Int64) (th_two : Nat → Int64) (h_solved : Int32) (h_few : Nat → Int32) (h_sum : Nat → Int32) (h_min : Nat → Int32) (hn1 : Nat) (hn2 : Nat) (hn3 : Nat) (l_kinds : Nat → Int32) (l_unl : Nat → Int32) (d_seed : Int32) (d_min : Int32) (d_gue : Int32) (d_src : Int32) (d_lif : Int32) (m_text : Nat → Int32) (m_read : Nat → Int32) (m_down : Nat → Int32) (m_min : Nat → Int32) (m_walk : Nat → Int32) (m_gone : Nat → Int32) (m_flow : Nat → Int32) (m_lik : Nat → Int32) (m_str : Nat → Int32) (m_from : Nat → Int32) (m_to : Nat → Int32) (m_rain : Nat → Int32) (m_tell : Nat → Int32) (m_fy : Nat → Int32) (m_fn : Nat → Int32) (m_finds : Nat → Int32) (m_abv : Nat → Int32) (m_apart : Nat → Int32) (m_few : Nat → Int32) (m_mean : Nat → Int32) (m_soon : Nat → Int32) (m_kinds : Nat → Int32) (m_len : Int32) (m_rm : Int32) (m_there : Int32) (m_lift : Int32) (m_blank : Int32) (m_fm : Int32) (m_at : Int32) (m_pl : Int32) (m_end : Int32) (m_seed : Int32) (sL : Nat → Nat → Int32) (sT : Nat → Nat → Int32) (sF : Nat → Int32) (sU : Nat → Int32) (fC : Nat → Int32) (fS : Nat → Int32) (fM : Nat → Int32) (fT : Nat → Int32) (fY : Nat → Int32) : LL_law L xs (n + 1) x3 tx_len tx_lines tx_ts tx_te tx_b tx_k tx_n t_down t_min t_pac t_gone t_infl t_lik t_str t_from t_unt t_rain t_tell t_wy t_wn t_there t_lift t_none w_src w_over wa_g th_none th_all1 th_all2 th_k1 th_k2 th_size th_one th_two h_solved h_few h_sum h_min hn1 hn2 hn3 l_kinds l_unl d_seed d_min d_gue d_src d_lif m_text m_read m_down m_min m_walk m_gone m_flow m_lik m_str m_from m_to m_rain m_tell m_fy m_fn m_finds m_abv m_apart m_few m_mean m_soon m_kinds m_len m_rm m_there m_lift m_blank m_fm m_at m_pl m_end m_seed sL sT sF sU fC fS fM fT fY =
    if ((nI L) - 6) < x3 then
      some 1
    else
      ri xs L (x3) fun x2 =>
      lt ((x2 &&& 31) : Int32) fun x4 =>
      if x4 = 0 then
        ri xs L ((x3 + 1)) fun x6 =>
        ri xs L ((x3 + 2)) fun x8 =>
        ri xs L ((x3 + 3)) fun x10 =>
        (f_X10_write (((Int32.toInt64 x6) <<< (Int32.toInt64 32 &&& 63)) ||| ((Int32.toInt64 x8) &&& (4294967295 : Int64))) x10 tx_len tx_b).bind fun q12 =>
        ri xs L ((x3 + 1)) fun x13 =>
        ri xs L ((x3 + 2)) fun x15 =>
        ri xs L ((x3 + 3)) fun x17 =>
        (f_X11_write (((Int32.toInt64 x13) <<< (Int32.toInt64 32 &&& 63)) ||| ((Int32.toInt64 x15) &&& (4294967295 : Int64))) x17 m_text m_len).bind fun q19 =>
        if q12.1 = q19.1 then
          lt (x3 + 6 : Int32) fun x21 =>
          LL_law L xs n x21 q12.2.1 tx_lines tx_ts tx_te q12.2.2 tx_k tx_n t_down t_min t_pac t_gone t_infl t_lik t_str t_from t_unt t_rain t_tell t_wy t_wn t_there t_lift t_none w_src w_over wa_g th_none th_all1 th_all2 th_k1 th_k2 th_size th_one th_two h_solved h_few h_sum h_min hn1 hn2 hn3 l_kinds l_unl d_seed d_min d_gue d_src d_lif q19.2.1 m_read m_down m_min m_walk m_gone m_flow m_lik m_str m_from m_to m_rain m_tell m_fy m_fn m_finds m_abv m_apart m_few m_mean m_soon m_kinds q19.2.2 m_rm m_there m_lift m_blank m_fm m_at m_pl m_end m_seed sL sT sF sU fC fS fM fT fY
        else
          some 0
      else if x4 = 1 then
        (f_X10_erase tx_len).bind fun q23 =>
        (f_X11_erase m_len).bind fun q24 =>
        if q23.1 = q24.1 then
          lt (x3 + 6 : Int32) fun x26 =>
          LL_law L xs n x26 q23.2 tx_lines tx_ts tx_te tx_b tx_k tx_n t_down t_min t_pac t_gone t_infl t_lik t_str t_from t_unt t_rain t_tell t_wy t_wn t_there t_lift t_none w_src w_over wa_g th_none th_all1 th_all2 th_k1 th_k2 th_size th_one th_two h_solved h_few h_sum h_min hn1 hn2 hn3 l_kinds l_unl d_seed d_min d_gue d_src d_lif m_text m_read m_down m_min m_walk m_gone m_flow m_lik m_str m_from m_to m_rain m_tell m_fy m_fn m_finds m_abv m_apart m_few m_mean m_soon m_kinds q24.2 m_rm m_there m_lift m_blank m_fm m_at m_pl m_end m_seed sL sT sF sU fC fS fM fT fY
        else
          some 0
      else if x4 = 2 then
        (f_X10_fault tx_len tx_lines tx_ts tx_te tx_b tx_k tx_n).bind fun q28 =>
        (f_X11_fault m_text m_read m_len m_rm m_at m_pl m_end).bind fun q29 =>
        if q28.1 = q29.1 then
          lt (x3 + 6 : Int32) fun x31 =>
          LL_law L xs n x31 tx_len q28.2.1 q28.2.2.1 q28.2.2.2.1 tx_b q28.2.2.2.2.1 q28.2.2.2.2.2 t_down t_min t_pac t_gone t_infl t_lik t_str t_from t_unt t_rain t_tell t_wy t_wn t_there t_lift t_none w_src w_over wa_g th_none th_all1 th_all2 th_k1 th_k2 th_size th_one th_two h_solved h_few h_sum h_min hn1 hn2 hn3 l_kinds l_unl d_seed d_min d_gue d_src d_lif m_text q29.2.1 m_down m_min m_walk m_gone m_flow m_lik m_str m_from m_to m_rain m_tell m_fy m_fn m_finds m_abv m_apart m_few m_mean m_soon m_kinds m_len q29.2.2.1 m_there m_lift m_blank m_fm q29.2.2.2.1 q29.2.2.2.2.1 q29.2.2.2.2.2 m_seed sL sT sF sU fC fS fM fT fY
        else
          some 0
      else if x4 = 3 then
        (f_X10_town tx_len tx_lines tx_ts tx_te tx_b tx_k tx_n t_down t_min t_pac t_gone t_infl t_lik t_str t_from t_unt t_rain t_tell t_wy t_wn t_there t_lift t_none w_src w_over wa_g th_k1 th_k2 h_solved sL sT sF sU).bind fun q33 =>
        (f_X11_town m_text m_read m_down m_min m_walk m_gone m_flow m_lik m_str m_from m_to m_rain m_tell m_fy m_fn m_len m_rm m_there m_lift m_blank m_at m_pl m_end).bind fun q34 =>
        if q33.1 = q34.1 then
          lt (x3 + 6 : Int32) fun x36 =>
          LL_law L xs n x36 q33.2.1 q33.2.2.1 q33.2.2.2.1 q33.2.2.2.2.1 tx_b q33.2.2.2.2.2.1 q33.2.2.2.2.2.2.1 q33.2.2.2.2.2.2.2.1 q33.2.2.2.2.2.2.2.2.1 q33.2.2.2.2.2.2.2.2.2.1 q33.2.2.2.2.2.2.2.2.2.2.1 q33.2.2.2.2.2.2.2.2.2.2.2.1 q33.2.2.2.2.2.2.2.2.2.2.2.2.1 q33.2.2.2.2.2.2.2.2.2.2.2.2.2.1 q33.2.2.2.2.2.2.2.2.2.2.2.2.2.2.1 q33.2.2.2.2.2.2.2.2.2.2.2.2.2.2.2.1 q33.2.2.2.2.2.2.2.2.2.2.2.2.2.2.2.2.1 q33.2.2.2.2.2.2.2.2.2.2.2.2.2.2.2.2.2.1 q33.2.2.2.2.2.2.2.2.2.2.2.2.2.2.2.2.2.2.1 q33.2.2.2.2.2.2.2.2.2.2.2.2.2.2.2.2.2.2.2.1 q33.2.2.2.2.2.2.2.2.2.2.2.2.2.2.2.2.2.2.2.2.1 q33.2.2.2.2.2.2.2.2.2.2.2.2.2.2.2.2.2.2.2.2.2.1 q33.2.2.2.2.2.2.2.2.2.2.2.2.2.2.2.2.2.2.2.2.2.2.1 q33.2.2.2.2.2.2.2.2.2.2.2.2.2.2.2.2.2.2.2.2.2.2.2.1 q33.2.2.2.2.2.2.2.2.2.2.2.2.2.2.2.2.2.2.2.2.2.2.2.2.1 q33.2.2.2.2.2.2.2.2.2.2.2.2.2.2.2.2.2.2.2.2.2.2.2.2.2.1 th_none th_all1 th_all2 q33.2.2.2.2.2.2.2.2.2.2.2.2.2.2.2.2.2.2.2.2.2.2.2.2.2.2.1 q33.2.2.2.2.2.2.2.2.2.2.2.2.2.2.2.2.2.2.2.2.2.2.2.2.2.2.2.1 th_size th_one th_two q33.2.2.2.2.2.2.2.2.2.2.2.2.2.2.2.2.2.2.2.2.2.2.2.2.2.2.2.2.1 h_few h_sum h_min hn1 hn2 hn3 l_kinds l_unl d_seed d_min d_gue d_src d_lif m_text q34.2.1 q34.2.2.1 q34.2.2.2.1 q34.2.2.2.2.1 q34.2.2.2.2.2.1 q34.2.2.2.2.2.2.1 q34.2.2.2.2.2.2.2.1 q34.2.2.2.2.2.2.2.2.1 q34.2.2.2.2.2.2.2.2.2.1 q34.2.2.2.2.2.2.2.2.2.2.1 q34.2.2.2.2.2.2.2.2.2.2.2.1 q34.2.2.2.2.2.2.2.2.2.2.2.2.1 q34.2.2.2.2.2.2.2.2.2.2.2.2.2.1 q34.2.2.2.2.2.2.2.2.2.2.2.2.2.2.1 m_finds m_abv m_apart m_few m_mean m_soon m_kinds q34.2.2.2.2.2.2.2.2.2.2.2.2.2.2.2.1 q34.2.2.2.2.2.2.2.2.2.2.2.2.2.2.2.2.1 q34.2.2.2.2.2.2.2.2.2.2.2.2.2.2.2.2.2.1 q34.2.2.2.2.2.2.2.2.2.2.2.2.2.2.2.2.2.2.1 q34.2.2.2.2.2.2.2.2.2.2.2.2.2.2.2.2.2.2.2.1 m_fm q34.2.2.2.2.2.2.2.2.2.2.2.2.2.2.2.2.2.2.2.2.1 q34.2.2.2.2.2.2.2.2.2.2.2.2.2.2.2.2.2.2.2.2.2.1 q34.2.2.2.2.2.2.2.2.2.2.2.2.2.2.2.2.2.2.2.2.2.2 m_seed q33.2.2.2.2.2.2.2.2.2.2.2.2.2.2.2.2.2.2.2.2.2.2.2.2.2.2.2.2.2.1 q33.2.2.2.2.2.2.2.2.2.2.2.2.2.2.2.2.2.2.2.2.2.2.2.2.2.2.2.2.2.2.1 q33.2.2.2.2.2.2.2.2.2.2.2.2.2.2.2.2.2.2.2.2.2.2.2.2.2.2.2.2.2.2.2.1 q33.2.2.2.2.2.2.2.2.2.2.2.2.2.2.2.2.2.2.2.2.2.2.2.2.2.2.2.2.2.2.2.2 fC fS fM fT fY
        else
          some 0
      else if x4 = 4 then
        ri xs L ((x3 + 1)) fun x38 =>
        ri xs L ((x3 + 2)) fun x40 =>
        (f_X10_of x38 x40 t_down t_min t_pac t_gone t_infl t_lik t_str t_from t_unt t_there).bind fun q42 =>
        ri xs L ((x3 + 1)) fun x43 =>
        ri xs L ((x3 + 2)) fun x45 =>
        (f_X11_of x43 x45 m_down m_min m_walk m_gone m_flow m_lik m_str m_from m_to m_there).bind fun q47 =>
        if q42 = q47 then
          lt (x3 + 6 : Int32) fun x49 =>
          LL_law L xs n x49 tx_len tx_lines tx_ts tx_te tx_b tx_k tx_n t_down t_min t_pac t_gone t_infl t_lik t_str t_from t_unt t_rain t_tell t_wy t_wn t_there t_lift t_none w_src w_over wa_g th_none th_all1 th_all2 th_k1 th_k2 th_size th_one th_two h_solved h_few h_sum h_min hn1 hn2 hn3 l_kinds l_unl d_seed d_min d_gue d_src d_lif m_text m_read m_down m_min m_walk m_gone m_flow m_lik m_str m_from m_to m_rain m_tell m_fy m_fn m_finds m_abv m_apart m_few m_mean m_soon m_kinds m_len m_rm m_there m_lift m_blank m_fm m_at m_pl m_end m_seed sL sT sF sU fC fS fM fT fY
        else
          some 0
      else if x4 = 5 then
        ri xs L ((x3 + 1)) fun x51 =>
        ri xs L ((x3 + 2)) fun x53 =>
        (f_X10_cup x51 x53 t_tell t_wy t_wn).bind fun q55 =>
        ri xs L ((x3 + 1)) fun x56 =>
        ri xs L ((x3 + 2)) fun x58 =>
        (f_X11_cup x56 x58 m_tell m_fy m_fn).bind fun q60 =>
        if q55 = q60 then
          lt (x3 + 6 : Int32) fun x62 =>
          LL_law L xs n x62 tx_len tx_lines tx_ts tx_te tx_b tx_k tx_n t_down t_min t_pac t_gone t_infl t_lik t_str t_from t_unt t_rain t_tell t_wy t_wn t_there t_lift t_none w_src w_over wa_g th_none th_all1 th_all2 th_k1 th_k2 th_size th_one th_two h_solved h_few h_sum h_min hn1 hn2 hn3 l_kinds l_unl d_seed d_min d_gue d_src d_lif m_text m_read m_down m_min m_walk m_gone m_flow m_lik m_str m_from m_to m_rain m_tell m_fy m_fn m_finds m_abv m_apart m_few m_mean m_soon m_kinds m_len m_rm m_there m_lift m_blank m_fm m_at m_pl m_end m_seed sL sT sF sU fC fS fM fT fY
        else
          some 0
      else if x4 = 6 then
        ri xs L ((x3 + 1)) fun x64 =>
        (f_X10_above x64 t_there w_over).bind fun q66 =>
        ri xs L ((x3 + 1)) fun x67 =>
        (f_X11_above x67 m_down m_there).bind fun q69 =>
        if q66 = q69 then
          lt (x3 + 6 : Int32) fun x71 =>
          LL_law L xs n x71 tx_len tx_lines tx_ts tx_te tx_b tx_k tx_n t_down t_min t_pac t_gone t_infl t_lik t_str t_from t_unt t_rain t_tell t_wy t_wn t_there t_lift t_none w_src w_over wa_g th_none th_all1 th_all2 th_k1 th_k2 th_size th_one th_two h_solved h_few h_sum h_min hn1 hn2 hn3 l_kinds l_unl d_seed d_min d_gue d_src d_lif m_text m_read m_down m_min m_walk m_gone m_flow m_lik m_str m_from m_to m_rain m_tell m_fy m_fn m_finds m_abv m_apart m_few m_mean m_soon m_kinds m_len m_rm m_there m_lift m_blank m_fm m_at m_pl m_end m_seed sL sT sF sU fC fS fM fT fY
        else
          some 0
      else if x4 = 7 then
        ri xs L ((x3 + 1)) fun x73 =>
        ri xs L ((x3 + 2)) fun x75 =>
        (f_X10_walk x73 x75 t_down t_pac t_there).bind fun q77 =>
        ri xs L ((x3 + 1)) fun x78 =>
        ri xs L ((x3 + 2)) fun x80 =>
        (f_X11_walk x78 x80 m_down m_walk m_there).bind fun q82 =>
        if q77 = q82 then
          lt (x3 + 6 : Int32) fun x84 =>
          LL_law L xs n x84 tx_len tx_lines tx_ts tx_te tx_b tx_k tx_n t_down t_min t_pac t_gone t_infl t_lik t_str t_from t_unt t_rain t_tell t_wy t_wn t_there t_lift t_none w_src w_over wa_g th_none th_all1 th_all2 th_k1 th_k2 th_size th_one th_two h_solved h_few h_sum h_min hn1 hn2 hn3 l_kinds l_unl d_seed d_min d_gue d_src d_lif m_text m_read m_down m_min m_walk m_gone m_flow m_lik m_str m_from m_to m_rain m_tell m_fy m_fn m_finds m_abv m_apart m_few m_mean m_soon m_kinds m_len m_rm m_there m_lift m_blank m_fm m_at m_pl m_end m_seed sL sT sF sU fC fS fM fT fY
        else
          some 0
      else if x4 = 8 then
        ri xs L ((x3 + 1)) fun x86 =>
        ri xs L ((x3 + 2)) fun x88 =>
        (f_X10_flow x86 x88 t_rain t_there wa_g).bind fun q90 =>
        ri xs L ((x3 + 1)) fun x91 =>
        ri xs L ((x3 + 2)) fun x93 =>
        (f_X11_flow x91 x93 m_down m_flow m_rain m_there).bind fun q95 =>
        if q90 = q95 then
          lt (x3 + 6 : Int32) fun x97 =>
          LL_law L xs n x97 tx_len tx_lines tx_ts tx_te tx_b tx_k tx_n t_down t_min t_pac t_gone t_infl t_lik t_str t_from t_unt t_rain t_tell t_wy t_wn t_there t_lift t_none w_src w_over wa_g th_none th_all1 th_all2 th_k1 th_k2 th_size th_one th_two h_solved h_few h_sum h_min hn1 hn2 hn3 l_kinds l_unl d_seed d_min d_gue d_src d_lif m_text m_read m_down m_min m_walk m_gone m_flow m_lik m_str m_from m_to m_rain m_tell m_fy m_fn m_finds m_abv m_apart m_few m_mean m_soon m_kinds m_len m_rm m_there m_lift m_blank m_fm m_at m_pl m_end m_seed sL sT sF sU fC fS fM fT fY
        else
          some 0
      else if x4 = 9 then
        ri xs L ((x3 + 1)) fun x99 =>
        ri xs L ((x3 + 2)) fun x101 =>
        ri xs L ((x3 + 3)) fun x103 =>
        ri xs L ((x3 + 4)) fun x105 =>
        (f_X10_comes x99 x101 x103 x105 t_rain t_there wa_g sL sT sF sU).bind fun q107 =>
        ri xs L ((x3 + 1)) fun x108 =>
        ri xs L ((x3 + 2)) fun x110 =>
        ri xs L ((x3 + 3)) fun x112 =>
        ri xs L ((x3 + 4)) fun x114 =>
        (f_X11_comes x108 x110 x112 x114 m_down m_min m_gone m_flow m_str m_from m_to m_rain m_there).bind fun q116 =>
        if q107 = q116 then
          lt (x3 + 6 : Int32) fun x118 =>
          LL_law L xs n x118 tx_len tx_lines tx_ts tx_te tx_b tx_k tx_n t_down t_min t_pac t_gone t_infl t_lik t_str t_from t_unt t_rain t_tell t_wy t_wn t_there t_lift t_none w_src w_over wa_g th_none th_all1 th_all2 th_k1 th_k2 th_size th_one th_two h_solved h_few h_sum h_min hn1 hn2 hn3 l_kinds l_unl d_seed d_min d_gue d_src d_lif m_text m_read m_down m_min m_walk m_gone m_flow m_lik m_str m_from m_to m_rain m_tell m_fy m_fn m_finds m_abv m_apart m_few m_mean m_soon m_kinds m_len m_rm m_there m_lift m_blank m_fm m_at m_pl m_end m_seed sL sT sF sU fC fS fM fT fY
        else
          some 0
      else if x4 = 10 then
        ri xs L ((x3 + 1)) fun x120 =>
        ri xs L ((x3 + 2)) fun x122 =>
        ri xs L ((x3 + 3)) fun x124 =>
        ri xs L ((x3 + 4)) fun x126 =>
        ri xs L ((x3 + 5)) fun x128 =>
        (f_X10_should x120 x122 x124 x126 x128 t_rain t_tell t_there wa_g sL sT sF sU fC fS fM fT fY).bind fun q130 =>
        ri xs L ((x3 + 1)) fun x131 =>
        ri xs L ((x3 + 2)) fun x133 =>
        ri xs L ((x3 + 3)) fun x135 =>
        ri xs L ((x3 + 4)) fun x137 =>
        ri xs L ((x3 + 5)) fun x139 =>
        (f_X11_should x131 x133 x135 x137 x139 m_down m_min m_gone m_flow m_str m_from m_to m_rain m_tell m_there).bind fun q141 =>
        if q130.1 = q141 then
          lt (x3 + 6 : Int32) fun x143 =>
          LL_law L xs n x143 tx_len tx_lines tx_ts tx_te tx_b tx_k tx_n t_down t_min t_pac t_gone t_infl t_lik t_str t_from t_unt t_rain t_tell t_wy t_wn t_there t_lift t_none w_src w_over wa_g th_none th_all1 th_all2 th_k1 th_k2 th_size th_one th_two h_solved h_few h_sum h_min hn1 hn2 hn3 l_kinds l_unl d_seed d_min d_gue d_src d_lif m_text m_read m_down m_min m_walk m_gone m_flow m_lik m_str m_from m_to m_rain m_tell m_fy m_fn m_finds m_abv m_apart m_few m_mean m_soon m_kinds m_len m_rm m_there m_lift m_blank m_fm m_at m_pl m_end m_seed sL sT sF sU q130.2.1 q130.2.2.1 q130.2.2.2.1 q130.2.2.2.2.1 q130.2.2.2.2.2
        else
          some 0
      else if x4 = 11 then
        ri xs L ((x3 + 1)) fun x145 =>
        ri xs L ((x3 + 2)) fun x147 =>
        ri xs L ((x3 + 3)) fun x149 =>
        ri xs L ((x3 + 4)) fun x151 =>
        ri xs L ((x3 + 5)) fun x153 =>
        (if x153 = 0 then
          some (0)
        else
          some (1) : Option (Int32)).bind fun q155 =>
        bq (q155) <|
        (f_X10_found x145 x147 x149 x151 q155 t_there th_k1 th_k2 th_size fC fS fM fT fY).bind fun q156 =>
        ri xs L ((x3 + 1)) fun x158 =>
        ri xs L ((x3 + 2)) fun x160 =>
        ri xs L ((x3 + 3)) fun x162 =>
        ri xs L ((x3 + 4)) fun x164 =>
        ri xs L ((x3 + 5)) fun x166 =>
        (if x166 = 0 then
          some (0)
        else
          some (1) : Option (Int32)).bind fun q168 =>
        bq (q168) <|
        (f_X11_found x158 x160 x162 x164 q168 m_finds m_there m_fm).bind fun q169 =>
        if q156.1 = q169.1 then
          lt (x3 + 6 : Int32) fun x172 =>
          LL_law L xs n x172 tx_len tx_lines tx_ts tx_te tx_b tx_k tx_n t_down t_min t_pac t_gone t_infl t_lik t_str t_from t_unt t_rain t_tell t_wy t_wn t_there t_lift t_none w_src w_over wa_g th_none th_all1 th_all2 q156.2.1 q156.2.2.1 q156.2.2.2.1 th_one th_two h_solved h_few h_sum h_min hn1 hn2 hn3 l_kinds l_unl d_seed d_min d_gue d_src d_lif m_text m_read m_down m_min m_walk m_gone m_flow m_lik m_str m_from m_to m_rain m_tell m_fy m_fn q169.2.1 m_abv m_apart m_few m_mean m_soon m_kinds m_len m_rm m_there m_lift m_blank q169.2.2 m_at m_pl m_end m_seed sL sT sF sU q156.2.2.2.2.1 q156.2.2.2.2.2.1 q156.2.2.2.2.2.2.1 q156.2.2.2.2.2.2.2.1 q156.2.2.2.2.2.2.2.2
        else
          some 0
      else if x4 = 12 then
        (f_X10_forget th_k1 th_k2 th_size).bind fun q176 =>
        (f_X11_forget m_fm).bind fun q177 =>
        if q176.1 = q177.1 then
          lt (x3 + 6 : Int32) fun x179 =>
          LL_law L xs n x179 tx_len tx_lines tx_ts tx_te tx_b tx_k tx_n t_down t_min t_pac t_gone t_infl t_lik t_str t_from t_unt t_rain t_tell t_wy t_wn t_there t_lift t_none w_src w_over wa_g th_none th_all1 th_all2 q176.2.1 q176.2.2.1 q176.2.2.2 th_one th_two h_solved h_few h_sum h_min hn1 hn2 hn3 l_kinds l_unl d_seed d_min d_gue d_src d_lif m_text m_read m_down m_min m_walk m_gone m_flow m_lik m_str m_from m_to m_rain m_tell m_fy m_fn m_finds m_abv m_apart m_few m_mean m_soon m_kinds m_len m_rm m_there m_lift m_blank q177.2 m_at m_pl m_end m_seed sL sT sF sU fC fS fM fT fY
        else
          some 0
      else if x4 = 13 then
        ri xs L ((x3 + 1)) fun x181 =>
        ri xs L ((x3 + 2)) fun x183 =>
        (f_X10_chance x181 x183 t_lik t_rain t_tell t_wy t_wn t_there t_none w_src wa_g th_none th_all1 th_k1 th_size th_one sL sT sF sU fC fS fM fT fY).bind fun q185 =>
        ri xs L ((x3 + 1)) fun x186 =>
        ri xs L ((x3 + 2)) fun x188 =>
        (f_X11_chance x186 x188 m_down m_min m_gone m_flow m_lik m_str m_from m_to m_rain m_tell m_fy m_fn m_finds m_there m_blank m_fm).bind fun q190 =>
        if (lg_cmp q185.1 q190) = 0 then
          lt (x3 + 6 : Int32) fun x192 =>
          LL_law L xs n x192 tx_len tx_lines tx_ts tx_te tx_b tx_k tx_n t_down t_min t_pac t_gone t_infl t_lik t_str t_from t_unt t_rain t_tell t_wy t_wn t_there t_lift t_none w_src w_over wa_g q185.2.1 q185.2.2.1 th_all2 q185.2.2.2.1 th_k2 th_size q185.2.2.2.2 th_two h_solved h_few h_sum h_min hn1 hn2 hn3 l_kinds l_unl d_seed d_min d_gue d_src d_lif m_text m_read m_down m_min m_walk m_gone m_flow m_lik m_str m_from m_to m_rain m_tell m_fy m_fn m_finds m_abv m_apart m_few m_mean m_soon m_kinds m_len m_rm m_there m_lift m_blank m_fm m_at m_pl m_end m_seed sL sT sF sU fC fS fM fT fY
        else
          some 0
      else if x4 = 14 then
        ri xs L ((x3 + 1)) fun x194 =>
        ri xs L ((x3 + 2)) fun x196 =>
        ri xs L ((x3 + 3)) fun x198 =>
        (f_X10_two x194 x196 x198 t_lik t_rain t_tell t_wy t_wn t_there w_src wa_g th_all2 th_k2 th_size th_two sL sT sF sU fC fS fM fT fY).bind fun q200 =>
        ri xs L ((x3 + 1)) fun x201 =>
        ri xs L ((x3 + 2)) fun x203 =>
        ri xs L ((x3 + 3)) fun x205 =>
        (f_X11_two x201 x203 x205 m_down m_min m_gone m_flow m_lik m_str m_from m_to m_rain m_tell m_fy m_fn m_finds m_there m_fm).bind fun q207 =>
        if (lg_cmp q200.1 q207) = 0 then
          lt (x3 + 6 : Int32) fun x209 =>
          LL_law L xs n x209 tx_len tx_lines tx_ts tx_te tx_b tx_k tx_n t_down t_min t_pac t_gone t_infl t_lik t_str t_from t_unt t_rain t_tell t_wy t_wn t_there t_lift t_none w_src w_over wa_g th_none th_all1 q200.2.1 th_k1 q200.2.2.1 th_size th_one q200.2.2.2 h_solved h_few h_sum h_min hn1 hn2 hn3 l_kinds l_unl d_seed d_min d_gue d_src d_lif m_text m_read m_down m_min m_walk m_gone m_flow m_lik m_str m_from m_to m_rain m_tell m_fy m_fn m_finds m_abv m_apart m_few m_mean m_soon m_kinds m_len m_rm m_there m_lift m_blank m_fm m_at m_pl m_end m_seed sL sT sF sU fC fS fM fT fY
        else
          some 0
      else if x4 = 15 then
        ri xs L ((x3 + 1)) fun x211 =>
        ri xs L ((x3 + 2)) fun x213 =>
        ri xs L ((x3 + 3)) fun x215 =>
        ri xs L ((x3 + 4)) fun x217 =>
        ri xs L ((x3 + 5)) fun x219 =>
        (f_X10_worth x211 x213 x215 x217 x219 t_lik t_rain t_tell t_wy t_wn t_there t_none w_src wa_g th_none th_all1 th_k1 th_size th_one sL sT sF sU fC fS fM fT fY).bind fun q221 =>
        ri xs L ((x3 + 1)) fun x222 =>
        ri xs L ((x3 + 2)) fun x224 =>
        ri xs L ((x3 + 3)) fun x226 =>
        ri xs L ((x3 + 4)) fun x228 =>
        ri xs L ((x3 + 5)) fun x230 =>
        (f_X11_worth x222 x224 x226 x228 x230 m_down m_min m_gone m_flow m_lik m_str m_from m_to m_rain m_tell m_fy m_fn m_finds m_there m_blank m_fm).bind fun q232 =>
        if (lg_cmp q221.1 q232) = 0 then
          lt (x3 + 6 : Int32) fun x234 =>
          LL_law L xs n x234 tx_len tx_lines tx_ts tx_te tx_b tx_k tx_n t_down t_min t_pac t_gone t_infl t_lik t_str t_from t_unt t_rain t_tell t_wy t_wn t_there t_lift t_none w_src w_over wa_g q221.2.1 q221.2.2.1 th_all2 q221.2.2.2.1 th_k2 th_size q221.2.2.2.2.1 th_two h_solved h_few h_sum h_min hn1 hn2 hn3 l_kinds l_unl d_seed d_min d_gue d_src d_lif m_text m_read m_down m_min m_walk m_gone m_flow m_lik m_str m_from m_to m_rain m_tell m_fy m_fn m_finds m_abv m_apart m_few m_mean m_soon m_kinds m_len m_rm m_there m_lift m_blank m_fm m_at m_pl m_end m_seed sL sT sF sU q221.2.2.2.2.2.1 q221.2.2.2.2.2.2.1 q221.2.2.2.2.2.2.2.1 q221.2.2.2.2.2.2.2.2.1 q221.2.2.2.2.2.2.2.2.2
        else
          some 0
      else if x4 = 16 then
        (f_X10_likeliest t_lik t_rain t_tell t_wy t_wn t_none w_src wa_g th_none th_all1 th_k1 th_size th_one sL sT sF sU fC fS fM fT fY).bind fun q236 =>
        (f_X11_likeliest m_down m_min m_gone m_flow m_lik m_str m_from m_to m_rain m_tell m_fy m_fn m_finds m_there m_blank m_fm).bind fun q237 =>
        if q236.1 = q237 then
          lt (x3 + 6 : Int32) fun x239 =>
          LL_law L xs n x239 tx_len tx_lines tx_ts tx_te tx_b tx_k tx_n t_down t_min t_pac t_gone t_infl t_lik t_str t_from t_unt t_rain t_tell t_wy t_wn t_there t_lift t_none w_src w_over wa_g q236.2.1 q236.2.2.1 th_all2 q236.2.2.2.1 th_k2 th_size q236.2.2.2.2 th_two h_solved h_few h_sum h_min hn1 hn2 hn3 l_kinds l_unl d_seed d_min d_gue d_src d_lif m_text m_read m_down m_min m_walk m_gone m_flow m_lik m_str m_from m_to m_rain m_tell m_fy m_fn m_finds m_abv m_apart m_few m_mean m_soon m_kinds m_len m_rm m_there m_lift m_blank m_fm m_at m_pl m_end m_seed sL sT sF sU fC fS fM fT fY
        else
          some 0
      else if x4 = 17 then
        ri xs L ((x3 + 1)) fun x241 =>
        (f_X10_lacks x241 t_down t_min t_gone t_rain t_tell t_there wa_g th_size sL sT sF sU fC fS fM fT fY).bind fun q243 =>
        ri xs L ((x3 + 1)) fun x244 =>
        (f_X11_lacks x244 m_down m_min m_gone m_flow m_str m_from m_to m_rain m_tell m_finds m_there m_fm).bind fun q246 =>
        if q243.1 = q246 then
          lt (x3 + 6 : Int32) fun x248 =>
          LL_law L xs n x248 tx_len tx_lines tx_ts tx_te tx_b tx_k tx_n t_down t_min t_pac t_gone t_infl t_lik t_str t_from t_unt t_rain t_tell t_wy t_wn t_there t_lift t_none w_src w_over wa_g th_none th_all1 th_all2 th_k1 th_k2 th_size th_one th_two h_solved h_few h_sum h_min hn1 hn2 hn3 l_kinds l_unl d_seed d_min d_gue d_src d_lif m_text m_read m_down m_min m_walk m_gone m_flow m_lik m_str m_from m_to m_rain m_tell m_fy m_fn m_finds m_abv m_apart m_few m_mean m_soon m_kinds m_len m_rm m_there m_lift m_blank m_fm m_at m_pl m_end m_seed q243.2.1 q243.2.2.1 q243.2.2.2.1 q243.2.2.2.2 fC fS fM fT fY
        else
          some 0
      else if x4 = 18 then
        ri xs L ((x3 + 1)) fun x250 =>
        (f_X10_fewest x250 t_down t_pac t_lik t_lift w_src w_over h_solved h_few h_sum h_min hn1 hn2 hn3).bind fun q252 =>
        ri xs L ((x3 + 1)) fun x253 =>
        (f_X11_fewest x253 m_down m_walk m_lik m_abv m_apart m_few m_there).bind fun q255 =>
        if q252.1 = q255.1 then
          lt (x3 + 6 : Int32) fun x257 =>
          LL_law L xs n x257 tx_len tx_lines tx_ts tx_te tx_b tx_k tx_n t_down t_min t_pac t_gone t_infl t_lik t_str t_from t_unt t_rain t_tell t_wy t_wn t_there t_lift t_none w_src w_over wa_g th_none th_all1 th_all2 th_k1 th_k2 th_size th_one th_two q252.2.1 q252.2.2.1 q252.2.2.2.1 q252.2.2.2.2.1 q252.2.2.2.2.2.1 q252.2.2.2.2.2.2.1 q252.2.2.2.2.2.2.2 l_kinds l_unl d_seed d_min d_gue d_src d_lif m_text m_read m_down m_min m_walk m_gone m_flow m_lik m_str m_from m_to m_rain m_tell m_fy m_fn m_finds q255.2.1 q255.2.2.1 q255.2.2.2 m_mean m_soon m_kinds m_len m_rm m_there m_lift m_blank m_fm m_at m_pl m_end m_seed sL sT sF sU fC fS fM fT fY
        else
          some 0
      else if x4 = 19 then
        ri xs L ((x3 + 1)) fun x259 =>
        (f_X10_mean x259 t_down t_pac t_lik t_lift w_src w_over h_solved h_few h_sum h_min hn1 hn2 hn3).bind fun q261 =>
        ri xs L ((x3 + 1)) fun x262 =>
        (f_X11_mean x262 m_down m_walk m_lik m_abv m_apart m_mean m_there).bind fun q264 =>
        if q261.1 = q264.1 then
          lt (x3 + 6 : Int32) fun x266 =>
          LL_law L xs n x266 tx_len tx_lines tx_ts tx_te tx_b tx_k tx_n t_down t_min t_pac t_gone t_infl t_lik t_str t_from t_unt t_rain t_tell t_wy t_wn t_there t_lift t_none w_src w_over wa_g th_none th_all1 th_all2 th_k1 th_k2 th_size th_one th_two q261.2.1 q261.2.2.1 q261.2.2.2.1 q261.2.2.2.2.1 q261.2.2.2.2.2.1 q261.2.2.2.2.2.2.1 q261.2.2.2.2.2.2.2 l_kinds l_unl d_seed d_min d_gue d_src d_lif m_text m_read m_down m_min m_walk m_gone m_flow m_lik m_str m_from m_to m_rain m_tell m_fy m_fn m_finds q264.2.1 q264.2.2.1 m_few q264.2.2.2 m_soon m_kinds m_len m_rm m_there m_lift m_blank m_fm m_at m_pl m_end m_seed sL sT sF sU fC fS fM fT fY
        else
          some 0
      else if x4 = 20 then
        ri xs L ((x3 + 1)) fun x268 =>
        ri xs L ((x3 + 2)) fun x270 =>
        (f_X10_soon x268 x270 t_down t_pac t_lik t_there t_lift w_src w_over h_solved h_few h_sum h_min hn1 hn2 hn3).bind fun q272 =>
        ri xs L ((x3 + 1)) fun x273 =>
        ri xs L ((x3 + 2)) fun x275 =>
        (f_X11_soon x273 x275 m_down m_walk m_lik m_abv m_apart m_soon m_there m_lift).bind fun q277 =>
        if q272.1 = q277.1 then
          lt (x3 + 6 : Int32) fun x279 =>
          LL_law L xs n x279 tx_len tx_lines tx_ts tx_te tx_b tx_k tx_n t_down t_min t_pac t_gone t_infl t_lik t_str t_from t_unt t_rain t_tell t_wy t_wn t_there t_lift t_none w_src w_over wa_g th_none th_all1 th_all2 th_k1 th_k2 th_size th_one th_two q272.2.1 q272.2.2.1 q272.2.2.2.1 q272.2.2.2.2.1 q272.2.2.2.2.2.1 q272.2.2.2.2.2.2.1 q272.2.2.2.2.2.2.2 l_kinds l_unl d_seed d_min d_gue d_src d_lif m_text m_read m_down m_min m_walk m_gone m_flow m_lik m_str m_from m_to m_rain m_tell m_fy m_fn m_finds q277.2.1 q277.2.2.1 m_few m_mean q277.2.2.2 m_kinds m_len m_rm m_there m_lift m_blank m_fm m_at m_pl m_end m_seed sL sT sF sU fC fS fM fT fY
        else
          some 0
      else if x4 = 21 then
        ri xs L ((x3 + 1)) fun x281 =>
        ri xs L ((x3 + 2)) fun x283 =>
        ri xs L ((x3 + 3)) fun x285 =>
        ri xs L ((x3 + 4)) fun x287 =>
        (f_X10_row x281 x283 x285 x287 t_down t_pac t_there w_src w_over l_kinds).bind fun q289 =>
        ri xs L ((x3 + 1)) fun x290 =>
        ri xs L ((x3 + 2)) fun x292 =>
        ri xs L ((x3 + 3)) fun x294 =>
        ri xs L ((x3 + 4)) fun x296 =>
        (f_X11_row x290 x292 x294 x296 m_down m_walk m_lik m_kinds m_there).bind fun q298 =>
        if q289.1 = q298.1 then
          lt (x3 + 6 : Int32) fun x300 =>
          LL_law L xs n x300 tx_len tx_lines tx_ts tx_te tx_b tx_k tx_n t_down t_min t_pac t_gone t_infl t_lik t_str t_from t_unt t_rain t_tell t_wy t_wn t_there t_lift t_none w_src w_over wa_g th_none th_all1 th_all2 th_k1 th_k2 th_size th_one th_two h_solved h_few h_sum h_min hn1 hn2 hn3 q289.2 l_unl d_seed d_min d_gue d_src d_lif m_text m_read m_down m_min m_walk m_gone m_flow m_lik m_str m_from m_to m_rain m_tell m_fy m_fn m_finds m_abv m_apart m_few m_mean m_soon q298.2 m_len m_rm m_there m_lift m_blank m_fm m_at m_pl m_end m_seed sL sT sF sU fC fS fM fT fY
        else
          some 0
      else if x4 = 22 then
        ri xs L ((x3 + 1)) fun x302 =>
        ri xs L ((x3 + 2)) fun x304 =>
        ri xs L ((x3 + 3)) fun x306 =>
        ri xs L ((x3 + 4)) fun x308 =>
        (f_X10_answers x302 x304 x306 x308 t_down t_pac t_there w_src w_over).bind fun q310 =>
        ri xs L ((x3 + 1)) fun x311 =>
        ri xs L ((x3 + 2)) fun x313 =>
        ri xs L ((x3 + 3)) fun x315 =>
        ri xs L ((x3 + 4)) fun x317 =>
        (f_X11_answers x311 x313 x315 x317 m_down m_walk m_lik m_there).bind fun q319 =>
        if q310 = q319 then
          lt (x3 + 6 : Int32) fun x321 =>
          LL_law L xs n x321 tx_len tx_lines tx_ts tx_te tx_b tx_k tx_n t_down t_min t_pac t_gone t_infl t_lik t_str t_from t_unt t_rain t_tell t_wy t_wn t_there t_lift t_none w_src w_over wa_g th_none th_all1 th_all2 th_k1 th_k2 th_size th_one th_two h_solved h_few h_sum h_min hn1 hn2 hn3 l_kinds l_unl d_seed d_min d_gue d_src d_lif m_text m_read m_down m_min m_walk m_gone m_flow m_lik m_str m_from m_to m_rain m_tell m_fy m_fn m_finds m_abv m_apart m_few m_mean m_soon m_kinds m_len m_rm m_there m_lift m_blank m_fm m_at m_pl m_end m_seed sL sT sF sU fC fS fM fT fY
        else
          some 0
      else if x4 = 23 then
        ri xs L ((x3 + 1)) fun x323 =>
        (f_X10_hang x323 t_down t_pac t_there w_src w_over l_unl).bind fun q325 =>
        ri xs L ((x3 + 1)) fun x326 =>
        (f_X11_hang x326 m_down m_walk m_lik m_abv m_apart m_there).bind fun q328 =>
        if q325.1 = q328.1 then
          lt (x3 + 6 : Int32) fun x330 =>
          LL_law L xs n x330 tx_len tx_lines tx_ts tx_te tx_b tx_k tx_n t_down t_min t_pac t_gone t_infl t_lik t_str t_from t_unt t_rain t_tell t_wy t_wn t_there t_lift t_none w_src w_over wa_g th_none th_all1 th_all2 th_k1 th_k2 th_size th_one th_two h_solved h_few h_sum h_min hn1 hn2 hn3 l_kinds q325.2 d_seed d_min d_gue d_src d_lif m_text m_read m_down m_min m_walk m_gone m_flow m_lik m_str m_from m_to m_rain m_tell m_fy m_fn m_finds q328.2.1 q328.2.2 m_few m_mean m_soon m_kinds m_len m_rm m_there m_lift m_blank m_fm m_at m_pl m_end m_seed sL sT sF sU fC fS fM fT fY
        else
          some 0
      else if x4 = 24 then
        ri xs L ((x3 + 1)) fun x332 =>
        ri xs L ((x3 + 2)) fun x334 =>
        ri xs L ((x3 + 3)) fun x336 =>
        (f_X10_day x332 x334 x336 t_down t_pac t_lik t_wy t_wn t_lift w_src w_over h_solved h_few h_sum h_min hn1 hn2 hn3 d_seed d_min d_gue d_src d_lif).bind fun q338 =>
        ri xs L ((x3 + 1)) fun x339 =>
        ri xs L ((x3 + 2)) fun x341 =>
        ri xs L ((x3 + 3)) fun x343 =>
        (f_X11_day x339 x341 x343 m_down m_walk m_lik m_fy m_fn m_abv m_apart m_soon m_there m_lift m_seed).bind fun q345 =>
        if q338.1 = q345.1 then
          lt (x3 + 6 : Int32) fun x347 =>
          LL_law L xs n x347 tx_len tx_lines tx_ts tx_te tx_b tx_k tx_n t_down t_min t_pac t_gone t_infl t_lik t_str t_from t_unt t_rain t_tell t_wy t_wn t_there t_lift t_none w_src w_over wa_g th_none th_all1 th_all2 th_k1 th_k2 th_size th_one th_two q338.2.1 q338.2.2.1 q338.2.2.2.1 q338.2.2.2.2.1 q338.2.2.2.2.2.1 q338.2.2.2.2.2.2.1 q338.2.2.2.2.2.2.2.1 l_kinds l_unl q338.2.2.2.2.2.2.2.2.1 q338.2.2.2.2.2.2.2.2.2.1 q338.2.2.2.2.2.2.2.2.2.2.1 q338.2.2.2.2.2.2.2.2.2.2.2.1 q338.2.2.2.2.2.2.2.2.2.2.2.2 m_text m_read m_down m_min m_walk m_gone m_flow m_lik m_str m_from m_to m_rain m_tell m_fy m_fn m_finds q345.2.1 q345.2.2.1 m_few m_mean q345.2.2.2.1 m_kinds m_len m_rm m_there m_lift m_blank m_fm m_at m_pl m_end q345.2.2.2.2 sL sT sF sU fC fS fM fT fY
        else
          some 0
      else if x4 = 25 then
        ri xs L ((x3 + 1)) fun x349 =>
        (f_X10_count x349 tx_len t_pac t_there t_lift t_none w_src th_size).bind fun q351 =>
        ri xs L ((x3 + 1)) fun x352 =>
        (f_X11_count x352 m_walk m_lik m_len m_there m_lift m_blank m_fm).bind fun q354 =>
        if q351 = q354 then
          lt (x3 + 6 : Int32) fun x356 =>
          LL_law L xs n x356 tx_len tx_lines tx_ts tx_te tx_b tx_k tx_n t_down t_min t_pac t_gone t_infl t_lik t_str t_from t_unt t_rain t_tell t_wy t_wn t_there t_lift t_none w_src w_over wa_g th_none th_all1 th_all2 th_k1 th_k2 th_size th_one th_two h_solved h_few h_sum h_min hn1 hn2 hn3 l_kinds l_unl d_seed d_min d_gue d_src d_lif m_text m_read m_down m_min m_walk m_gone m_flow m_lik m_str m_from m_to m_rain m_tell m_fy m_fn m_finds m_abv m_apart m_few m_mean m_soon m_kinds m_len m_rm m_there m_lift m_blank m_fm m_at m_pl m_end m_seed sL sT sF sU fC fS fM fT fY
        else
          some 0
      else 
        lt (x3 + 6 : Int32) fun x357 =>
        LL_law L xs n x357 tx_len tx_lines tx_ts tx_te tx_b tx_k tx_n t_down t_min t_pac t_gone t_infl t_lik t_str t_from t_unt t_rain t_tell t_wy t_wn t_there t_lift t_none w_src w_over wa_g th_none th_all1 th_all2 th_k1 th_k2 th_size th_one th_two h_solved h_few h_sum h_min hn1 hn2 hn3 l_kinds l_unl d_seed d_min d_gue d_src d_lif m_text m_read m_down m_min m_walk m_gone m_flow m_lik m_str m_from m_to m_rain m_tell m_fy m_fn m_finds m_abv m_apart m_few m_mean m_soon m_kinds m_len m_rm m_there m_lift m_blank m_fm m_at m_pl m_end m_seed sL sT sF sU fC fS fM fT fY := rfl
set_option maxHeartbeats 40000000 in
set_option maxRecDepth 100000 in
theorem law_loop {p : Program} {l : Launch} {e : Env} {s : State} {m : MethodId} {below : List Frame} {meth : Method} {c : Code} {D : va_G} {g : Nat → ClassId} {adK adV tb : Nat → Nat} {N b L : Nat} {xs : Nat → Int32} (C0 : lw_At p s m meth c b L xs) (hN9 : 109 ≤ N) (hK : SC D g s) (hSD0 : SD adK adV tb (An s.heap.size) s s.heap) : ∀ (n : Nat) (x3 : Int32) (tx_len : Int32) (tx_lines : Int32) (tx_ts : Int32) (tx_te : Int32) (tx_b : Nat → Int32) (tx_k : Nat → Int32) (tx_n : Nat → Int32) (t_down : Nat → Int32) (t_min : Nat → Int32) (t_pac : Nat → Int32) (t_gone : Nat → Int32) (t_infl : Nat → Int32) (t_lik : Nat → Int32) (t_str : Nat → Int32) (t_from : Nat → Int32) (t_unt : Nat → Int32) (t_rain : Nat → Int32) (t_tell : Nat → Int32) (t_wy : Nat → Int32) (t_wn : Nat → Int32) (t_there : Int32) (t_lift : Int32) (t_none : Int32) (w_src : Int32) (w_over : Nat → Int32) (wa_g : Nat → Int32) (th_none : Int64) (th_all1 : Int64) (th_all2 : Int64) (th_k1 : Int32) (th_k2 : Int32) (th_size : Int32) (th_one : Nat → Int64) (th_two : Nat → Int64) (h_solved : Int32) (h_few : Nat → Int32) (h_sum : Nat → Int32) (h_min : Nat → Int32) (hn1 : Nat) (hn2 : Nat) (hn3 : Nat) (l_kinds : Nat → Int32) (l_unl : Nat → Int32) (d_seed : Int32) (d_min : Int32) (d_gue : Int32) (d_src : Int32) (d_lif : Int32) (m_text : Nat → Int32) (m_read : Nat → Int32) (m_down : Nat → Int32) (m_min : Nat → Int32) (m_walk : Nat → Int32) (m_gone : Nat → Int32) (m_flow : Nat → Int32) (m_lik : Nat → Int32) (m_str : Nat → Int32) (m_from : Nat → Int32) (m_to : Nat → Int32) (m_rain : Nat → Int32) (m_tell : Nat → Int32) (m_fy : Nat → Int32) (m_fn : Nat → Int32) (m_finds : Nat → Int32) (m_abv : Nat → Int32) (m_apart : Nat → Int32) (m_few : Nat → Int32) (m_mean : Nat → Int32) (m_soon : Nat → Int32) (m_kinds : Nat → Int32) (m_len : Int32) (m_rm : Int32) (m_there : Int32) (m_lift : Int32) (m_blank : Int32) (m_fm : Int32) (m_at : Int32) (m_pl : Int32) (m_end : Int32) (m_seed : Int32) (sL : Nat → Nat → Int32) (sT : Nat → Nat → Int32) (sF : Nat → Int32) (sU : Nat → Int32) (fC : Nat → Int32) (fS : Nat → Int32) (fM : Nat → Int32) (fT : Nat → Int32) (fY : Nat → Int32) (ad : Nat → Nat) (C : Nat → va_E) (H : Heap) (locs : List Loc) (ls : Array Slot) (cells slots : Nat), cells + 3 * n ≤ 5000 → slots + 57344 * n ≤ 7000000 → Inj N ad → (∀ j : Nat, j < N → An s.heap.size (ad j)) → va_P D vwCl (wd N ad C) H → va_S (An s.heap.size) s.heap H locs → C 0 = .inr (10, [.ref (ad 1), .ref (ad 5), .ref (ad 19), .ref (ad 21), .ref (ad 60), .ref (ad 77), .ref (ad 81), .ref (ad 84), .ref (ad 85)]) → C 1 = .inr (5, [.ref (ad 2), .ref (ad 3), .ref (ad 4), .int tx_len, .int tx_lines, .int tx_ts, .int tx_te]) → C 2 = aI g 200 tx_b → C 3 = aI g 9 tx_k → C 4 = aI g 45 tx_n → C 5 = .inr (7, [.ref (ad 6), .ref (ad 7), .ref (ad 8), .ref (ad 9), .ref (ad 10), .ref (ad 11), .ref (ad 12), .ref (ad 13), .ref (ad 14), .ref (ad 15), .ref (ad 16), .ref (ad 17), .ref (ad 18), .int t_there, .int t_lift, .int t_none]) → C 6 = aI g 12 t_down → C 7 = aI g 12 t_min → C 8 = aI g 12 t_pac → C 9 = aI g 12 t_gone → C 10 = aI g 12 t_infl → C 11 = aI g 12 t_lik → C 12 = aI g 12 t_str → C 13 = aI g 12 t_from → C 14 = aI g 12 t_unt → C 15 = aI g 24 t_rain → C 16 = aI g 4 t_tell → C 17 = aI g 4 t_wy → C 18 = aI g 4 t_wn → C 19 = .inr (9, [.ref (ad 5), .ref (ad 20), .int w_src]) → C 20 = aI g 12 w_over → C 21 = .inr (8, [.ref (ad 5), .ref (ad 19), .ref (ad 22), .ref (ad 23)]) → C 22 = aI g 12 wa_g → C 23 = aS g 12 (fun i => if i < 12 then some (ad (24 + 3 * i)) else none) → C 60 = .inr (6, [.ref (ad 5), .ref (ad 19), .ref (ad 21), .ref (ad 61), .ref (ad 62), .ref (ad 65), .ref (ad 66), .long th_none, .long th_all1, .long th_all2, .int th_k1, .int th_k2, .int th_size]) → C 61 = aF g 10 (fun i => if i < 10 then some (ad (67 + i)) else none) → C 65 = aL g 12 th_one → C 66 = aL g 144 th_two → C 77 = .inr (2, [.ref (ad 5), .ref (ad 19), .ref (ad 78), .ref (ad 79), .ref (ad 80), .int h_solved]) → C 78 = aI g hn1 h_few → C 79 = aI g hn2 h_sum → C 80 = aI g hn3 h_min → C 81 = .inr (3, [.ref (ad 5), .ref (ad 19), .ref (ad 82), .ref (ad 83)]) → C 82 = aI g 12 l_kinds → C 83 = aI g 66 l_unl → C 84 = .inr (0, [.ref (ad 5), .ref (ad 19), .ref (ad 77), .int d_seed, .int d_min, .int d_gue, .int d_src, .int d_lif]) → C 86 = .inr (11, [.ref (ad 87), .int m_len, .ref (ad 88), .int m_rm, .int m_there, .ref (ad 89), .ref (ad 90), .ref (ad 91), .ref (ad 92), .ref (ad 93), .ref (ad 94), .ref (ad 95), .ref (ad 96), .ref (ad 97), .ref (ad 98), .ref (ad 99), .ref (ad 100), .ref (ad 101), .int m_lift, .int m_blank, .ref (ad 102), .int m_fm, .int m_at, .int m_pl, .int m_end, .ref (ad 103), .ref (ad 104), .ref (ad 105), .ref (ad 106), .ref (ad 107), .ref (ad 108), .int m_seed]) → C 87 = aI g 200 m_text → C 88 = aI g 54 m_read → C 89 = aI g 12 m_down → C 90 = aI g 12 m_min → C 91 = aI g 12 m_walk → C 92 = aI g 12 m_gone → C 93 = aI g 12 m_flow → C 94 = aI g 12 m_lik → C 95 = aI g 12 m_str → C 96 = aI g 12 m_from → C 97 = aI g 12 m_to → C 98 = aI g 24 m_rain → C 99 = aI g 4 m_tell → C 100 = aI g 4 m_fy → C 101 = aI g 4 m_fn → C 102 = aI g 50 m_finds → C 103 = aI g 12 m_abv → C 104 = aI g 144 m_apart → C 105 = aI g 4096 m_few → C 106 = aI g 4096 m_mean → C 107 = aI g 49152 m_soon → C 108 = aI g 256 m_kinds → PoolF C fC fS fM fT fY → PoolS g ad C sL sT sF sU → lv_has ls 4 [(0, .ref b), (1, .ref (ad 0)), (2, .ref (ad 86)), (3, .int x3)] → LL_law L xs n x3 tx_len tx_lines tx_ts tx_te tx_b tx_k tx_n t_down t_min t_pac t_gone t_infl t_lik t_str t_from t_unt t_rain t_tell t_wy t_wn t_there t_lift t_none w_src w_over wa_g th_none th_all1 th_all2 th_k1 th_k2 th_size th_one th_two h_solved h_few h_sum h_min hn1 hn2 hn3 l_kinds l_unl d_seed d_min d_gue d_src d_lif m_text m_read m_down m_min m_walk m_gone m_flow m_lik m_str m_from m_to m_rain m_tell m_fy m_fn m_finds m_abv m_apart m_few m_mean m_soon m_kinds m_len m_rm m_there m_lift m_blank m_fm m_at m_pl m_end m_seed sL sT sF sU fC fS fM fT fY = some 1 → W p l e room_1 s m #[Value.ref b] below meth c H locs cells slots (lw_Z below #[Value.ref b] s) (F0 m 18 ls []) := by
  obtain ⟨hx, hb, hr, hml, hown, hts, hX, hbl, hlocks, hgv⟩ := id C0
  have hbA : ¬ An s.heap.size b := Nat.not_le.mpr hbl
  have hA : ∀ q, s.heap.size ≤ q → An s.heap.size q := fun _ h => h
  intro n
  induction n with
  | zero =>
    intro x3 tx_len tx_lines tx_ts tx_te tx_b tx_k tx_n t_down t_min t_pac t_gone t_infl t_lik t_str t_from t_unt t_rain t_tell t_wy t_wn t_there t_lift t_none w_src w_over wa_g th_none th_all1 th_all2 th_k1 th_k2 th_size th_one th_two h_solved h_few h_sum h_min hn1 hn2 hn3 l_kinds l_unl d_seed d_min d_gue d_src d_lif m_text m_read m_down m_min m_walk m_gone m_flow m_lik m_str m_from m_to m_rain m_tell m_fy m_fn m_finds m_abv m_apart m_few m_mean m_soon m_kinds m_len m_rm m_there m_lift m_blank m_fm m_at m_pl m_end m_seed sL sT sF sU fC fS fM fT fY ad C H locs ls cells slots hc1 hc2 hI hAd hP hS h0 h1 h2 h3 h4 h5 h6 h7 h8 h9 h10 h11 h12 h13 h14 h15 h16 h17 h18 h19 h20 h21 h22 h23 h60 h61 h65 h66 h77 h78 h79 h80 h81 h82 h83 h84 h86 h87 h88 h89 h90 h91 h92 h93 h94 h95 h96 h97 h98 h99 h100 h101 h102 h103 h104 h105 h106 h107 h108 hF_ hS_ hl hf
    cases hf
  | succ n ih =>
    intro x3 tx_len tx_lines tx_ts tx_te tx_b tx_k tx_n t_down t_min t_pac t_gone t_infl t_lik t_str t_from t_unt t_rain t_tell t_wy t_wn t_there t_lift t_none w_src w_over wa_g th_none th_all1 th_all2 th_k1 th_k2 th_size th_one th_two h_solved h_few h_sum h_min hn1 hn2 hn3 l_kinds l_unl d_seed d_min d_gue d_src d_lif m_text m_read m_down m_min m_walk m_gone m_flow m_lik m_str m_from m_to m_rain m_tell m_fy m_fn m_finds m_abv m_apart m_few m_mean m_soon m_kinds m_len m_rm m_there m_lift m_blank m_fm m_at m_pl m_end m_seed sL sT sF sU fC fS fM fT fY ad C H locs ls cells slots hc1 hc2 hI hAd hP hS h0 h1 h2 h3 h4 h5 h6 h7 h8 h9 h10 h11 h12 h13 h14 h15 h16 h17 h18 h19 h20 h21 h22 h23 h60 h61 h65 h66 h77 h78 h79 h80 h81 h82 h83 h84 h86 h87 h88 h89 h90 h91 h92 h93 h94 h95 h96 h97 h98 h99 h100 h101 h102 h103 h104 h105 h106 h107 h108 hF_ hS_ hl hf
    rw [LL_law_s] at hf
    refine lv_iload_n hx hb dL_law_18 rfl (lv_at hl 3 rfl) ?_
    refine lv_aload_n hx hb dL_law_19 rfl (lv_at hl 0 rfl) ?_
    refine va_slen hx hb hX hbl hbA hS dL_law_20 ?_
    refine lv_bipush (v := 6) hx hb dL_law_21 (by decide) ?_
    refine lv_isub hx hb dL_law_23 ?_
    refine lv_icmp_gt (tgt := 1075) hx hb dL_law_24 (by decide) (fun c1 => ?_) (fun c1 => ?_)
    · have hf := it_e c1 hf
      refine lv_iconst (v := 1) hx hb dL_law_1075 (by decide) ?_
      refine va_forget (fun q hq => hS.2.2 q hq) ?_
      refine W.widen (k := 600000) (n := 7302250) (by omega) (by omega) ?_
      exact lw_ret hx hb hr hlocks dL_law_1076
    · have hf := ie_e c1 hf
      refine lv_aload_n hx hb dL_law_27 rfl (lv_at hl 0 rfl) ?_
      refine lv_iload_n hx hb dL_law_28 rfl (lv_at hl 3 rfl) ?_
      obtain ⟨i3, x2, ex2, hf⟩ := ri_e hf
      refine va_sld hx hb hX hbl hbA hS i3 dL_law_29 ?_
      refine tp_i ex2 ?_
      refine lv_bipush (v := 31) hx hb dL_law_30 (by decide) ?_
      refine lv_iand hx hb dL_law_32 ?_
      obtain ⟨x4, ex4, hf⟩ := lt_e hf
      refine tp_i ex4 ?_
      by_cases c5 : x4 = 0
      · have hf := it_e c5 hf
        refine lv_tableIn (tgt := 152) hx hb dL_law_33 (by rw [c5]; decide) (by rw [c5]; decide) (by rw [c5]; rfl) (by decide) ?_
        refine lv_aload_n hx hb dL_law_152 rfl (lv_at hl 1 rfl) ?_
        refine lv_aload_n hx hb dL_law_153 rfl (lv_at hl 0 rfl) ?_
        refine lv_iload_n hx hb dL_law_154 rfl (lv_at hl 3 rfl) ?_
        refine lv_iconst (v := 1) hx hb dL_law_155 (by decide) ?_
        refine lv_iadd hx hb dL_law_156 ?_
        obtain ⟨i7, x6, ex6, hf⟩ := ri_e hf
        refine va_sld hx hb hX hbl hbA hS i7 dL_law_157 ?_
        refine tp_i ex6 ?_
        refine lv_i2l hx hb dL_law_158 rfl ?_
        refine lv_bipush (v := 32) hx hb dL_law_159 (by decide) ?_
        refine lv_lshl hx hb dL_law_161 rfl ?_
        refine lv_aload_n hx hb dL_law_162 rfl (lv_at hl 0 rfl) ?_
        refine lv_iload_n hx hb dL_law_163 rfl (lv_at hl 3 rfl) ?_
        refine lv_iconst (v := 2) hx hb dL_law_164 (by decide) ?_
        refine lv_iadd hx hb dL_law_165 ?_
        obtain ⟨i9, x8, ex8, hf⟩ := ri_e hf
        refine va_sld hx hb hX hbl hbA hS i9 dL_law_166 ?_
        refine tp_i ex8 ?_
        refine lv_i2l hx hb dL_law_167 rfl ?_
        refine lv_ldc2 (own := RL) hx hb hown (hts (.constantLong RL 13 (4294967295)) (List.mem_of_getElem? (i := 1430) (by decide +kernel))) dL_law_168 ?_
        refine lv_land hx hb dL_law_171 ?_
        refine lv_lor hx hb dL_law_172 ?_
        refine lv_aload_n hx hb dL_law_173 rfl (lv_at hl 0 rfl) ?_
        refine lv_iload_n hx hb dL_law_174 rfl (lv_at hl 3 rfl) ?_
        refine lv_iconst (v := 3) hx hb dL_law_175 (by decide) ?_
        refine lv_iadd hx hb dL_law_176 ?_
        obtain ⟨i11, x10, ex10, hf⟩ := ri_e hf
        refine va_sld hx hb hX hbl hbA hS i11 dL_law_177 ?_
        refine tp_i ex10 ?_
        obtain ⟨q12, hq12, hf⟩ := bd_e hf
        refine k_iW (va_runV (C := RX10) (As := [.long (((Int32.toInt64 x6) <<< (Int32.toInt64 32 &&& 63)) ||| ((Int32.toInt64 x8) &&& (4294967295 : Int64))), .int x10]) (rest := []) ⟨hx, hb, hml, hown, hts⟩ (c_X10_write (l := l) (sz := H.size) (p0 := (((Int32.toInt64 x6) <<< (Int32.toInt64 32 &&& 63)) ||| ((Int32.toInt64 x8) &&& (4294967295 : Int64)))) (p1 := x10) (by omega : 86 ≤ N) hI h0 h1 h2 hq12) (cwV 2 hts gLV_X10_write rfl rfl rfl (by decide +kernel) ⟨Nat.le_of_ble_eq_true rfl, Nat.le_of_ble_eq_true rfl⟩) (preV_of hK hP (by omega) h0 rfl) rfl rfl hl.1 rfl (lv_room (Nat.le_of_ble_eq_true rfl)) dL_law_178 ⟨fit1 (by omega), fit2 (by omega)⟩) hA hAd hS (fun C H locs hP hS hpo hbz_q12 => ?_)
        obtain ⟨he, h1, h2⟩ := hpo
        have h0 := (he 0 (by decide)).trans h0
        have h3 := (he 3 (by decide)).trans h3
        have h4 := (he 4 (by decide)).trans h4
        have h5 := (he 5 (by decide)).trans h5
        have h6 := (he 6 (by decide)).trans h6
        have h7 := (he 7 (by decide)).trans h7
        have h8 := (he 8 (by decide)).trans h8
        have h9 := (he 9 (by decide)).trans h9
        have h10 := (he 10 (by decide)).trans h10
        have h11 := (he 11 (by decide)).trans h11
        have h12 := (he 12 (by decide)).trans h12
        have h13 := (he 13 (by decide)).trans h13
        have h14 := (he 14 (by decide)).trans h14
        have h15 := (he 15 (by decide)).trans h15
        have h16 := (he 16 (by decide)).trans h16
        have h17 := (he 17 (by decide)).trans h17
        have h18 := (he 18 (by decide)).trans h18
        have h19 := (he 19 (by decide)).trans h19
        have h20 := (he 20 (by decide)).trans h20
        have h21 := (he 21 (by decide)).trans h21
        have h22 := (he 22 (by decide)).trans h22
        have h23 := (he 23 (by decide)).trans h23
        have h60 := (he 60 (by decide)).trans h60
        have h61 := (he 61 (by decide)).trans h61
        have h65 := (he 65 (by decide)).trans h65
        have h66 := (he 66 (by decide)).trans h66
        have h77 := (he 77 (by decide)).trans h77
        have h78 := (he 78 (by decide)).trans h78
        have h79 := (he 79 (by decide)).trans h79
        have h80 := (he 80 (by decide)).trans h80
        have h81 := (he 81 (by decide)).trans h81
        have h82 := (he 82 (by decide)).trans h82
        have h83 := (he 83 (by decide)).trans h83
        have h84 := (he 84 (by decide)).trans h84
        have h86 := (he 86 (by decide)).trans h86
        have h87 := (he 87 (by decide)).trans h87
        have h88 := (he 88 (by decide)).trans h88
        have h89 := (he 89 (by decide)).trans h89
        have h90 := (he 90 (by decide)).trans h90
        have h91 := (he 91 (by decide)).trans h91
        have h92 := (he 92 (by decide)).trans h92
        have h93 := (he 93 (by decide)).trans h93
        have h94 := (he 94 (by decide)).trans h94
        have h95 := (he 95 (by decide)).trans h95
        have h96 := (he 96 (by decide)).trans h96
        have h97 := (he 97 (by decide)).trans h97
        have h98 := (he 98 (by decide)).trans h98
        have h99 := (he 99 (by decide)).trans h99
        have h100 := (he 100 (by decide)).trans h100
        have h101 := (he 101 (by decide)).trans h101
        have h102 := (he 102 (by decide)).trans h102
        have h103 := (he 103 (by decide)).trans h103
        have h104 := (he 104 (by decide)).trans h104
        have h105 := (he 105 (by decide)).trans h105
        have h106 := (he 106 (by decide)).trans h106
        have h107 := (he 107 (by decide)).trans h107
        have h108 := (he 108 (by decide)).trans h108
        have hF_ := hF_.ne (fun i h1 => he i (by omega))
        have hS_ := hS_.ne (fun i h1 h2 => he i (by omega))
        refine lv_aload_n hx hb dL_law_181 rfl (lv_at hl 2 rfl) ?_
        refine lv_aload_n hx hb dL_law_182 rfl (lv_at hl 0 rfl) ?_
        refine lv_iload_n hx hb dL_law_183 rfl (lv_at hl 3 rfl) ?_
        refine lv_iconst (v := 1) hx hb dL_law_184 (by decide) ?_
        refine lv_iadd hx hb dL_law_185 ?_
        obtain ⟨i14, x13, ex13, hf⟩ := ri_e hf
        refine va_sld hx hb hX hbl hbA hS i14 dL_law_186 ?_
        refine tp_i ex13 ?_
        refine lv_i2l hx hb dL_law_187 rfl ?_
        refine lv_bipush (v := 32) hx hb dL_law_188 (by decide) ?_
        refine lv_lshl hx hb dL_law_190 rfl ?_
        refine lv_aload_n hx hb dL_law_191 rfl (lv_at hl 0 rfl) ?_
        refine lv_iload_n hx hb dL_law_192 rfl (lv_at hl 3 rfl) ?_
        refine lv_iconst (v := 2) hx hb dL_law_193 (by decide) ?_
        refine lv_iadd hx hb dL_law_194 ?_
        obtain ⟨i16, x15, ex15, hf⟩ := ri_e hf
        refine va_sld hx hb hX hbl hbA hS i16 dL_law_195 ?_
        refine tp_i ex15 ?_
        refine lv_i2l hx hb dL_law_196 rfl ?_
        refine lv_ldc2 (own := RL) hx hb hown (hts (.constantLong RL 13 (4294967295)) (List.mem_of_getElem? (i := 1430) (by decide +kernel))) dL_law_197 ?_
        refine lv_land hx hb dL_law_200 ?_
        refine lv_lor hx hb dL_law_201 ?_
        refine lv_aload_n hx hb dL_law_202 rfl (lv_at hl 0 rfl) ?_
        refine lv_iload_n hx hb dL_law_203 rfl (lv_at hl 3 rfl) ?_
        refine lv_iconst (v := 3) hx hb dL_law_204 (by decide) ?_
        refine lv_iadd hx hb dL_law_205 ?_
        obtain ⟨i18, x17, ex17, hf⟩ := ri_e hf
        refine va_sld hx hb hX hbl hbA hS i18 dL_law_206 ?_
        refine tp_i ex17 ?_
        obtain ⟨q19, hq19, hf⟩ := bd_e hf
        refine k_iW (va_runV (C := RX11) (As := [.long (((Int32.toInt64 x13) <<< (Int32.toInt64 32 &&& 63)) ||| ((Int32.toInt64 x15) &&& (4294967295 : Int64))), .int x17]) (rest := [.int q12.1]) ⟨hx, hb, hml, hown, hts⟩ (c_X11_write (l := l) (sz := H.size) (p0 := (((Int32.toInt64 x13) <<< (Int32.toInt64 32 &&& 63)) ||| ((Int32.toInt64 x15) &&& (4294967295 : Int64)))) (p1 := x17) (by omega : 109 ≤ N) hI h86 h87 hq19) (cwV 2 hts gLV_X11_write rfl rfl rfl (by decide +kernel) ⟨Nat.le_of_ble_eq_true rfl, Nat.le_of_ble_eq_true rfl⟩) (preV_of hK hP (by omega) h86 rfl) rfl rfl hl.1 rfl (lv_room (Nat.le_of_ble_eq_true rfl)) dL_law_207 ⟨fit1 (by omega), fit2 (by omega)⟩) hA hAd hS (fun C H locs hP hS hpo hbz_q19 => ?_)
        obtain ⟨he, h86, h87⟩ := hpo
        have h0 := (he 0 (by decide)).trans h0
        have h1 := (he 1 (by decide)).trans h1
        have h2 := (he 2 (by decide)).trans h2
        have h3 := (he 3 (by decide)).trans h3
        have h4 := (he 4 (by decide)).trans h4
        have h5 := (he 5 (by decide)).trans h5
        have h6 := (he 6 (by decide)).trans h6
        have h7 := (he 7 (by decide)).trans h7
        have h8 := (he 8 (by decide)).trans h8
        have h9 := (he 9 (by decide)).trans h9
        have h10 := (he 10 (by decide)).trans h10
        have h11 := (he 11 (by decide)).trans h11
        have h12 := (he 12 (by decide)).trans h12
        have h13 := (he 13 (by decide)).trans h13
        have h14 := (he 14 (by decide)).trans h14
        have h15 := (he 15 (by decide)).trans h15
        have h16 := (he 16 (by decide)).trans h16
        have h17 := (he 17 (by decide)).trans h17
        have h18 := (he 18 (by decide)).trans h18
        have h19 := (he 19 (by decide)).trans h19
        have h20 := (he 20 (by decide)).trans h20
        have h21 := (he 21 (by decide)).trans h21
        have h22 := (he 22 (by decide)).trans h22
        have h23 := (he 23 (by decide)).trans h23
        have h60 := (he 60 (by decide)).trans h60
        have h61 := (he 61 (by decide)).trans h61
        have h65 := (he 65 (by decide)).trans h65
        have h66 := (he 66 (by decide)).trans h66
        have h77 := (he 77 (by decide)).trans h77
        have h78 := (he 78 (by decide)).trans h78
        have h79 := (he 79 (by decide)).trans h79
        have h80 := (he 80 (by decide)).trans h80
        have h81 := (he 81 (by decide)).trans h81
        have h82 := (he 82 (by decide)).trans h82
        have h83 := (he 83 (by decide)).trans h83
        have h84 := (he 84 (by decide)).trans h84
        have h88 := (he 88 (by decide)).trans h88
        have h89 := (he 89 (by decide)).trans h89
        have h90 := (he 90 (by decide)).trans h90
        have h91 := (he 91 (by decide)).trans h91
        have h92 := (he 92 (by decide)).trans h92
        have h93 := (he 93 (by decide)).trans h93
        have h94 := (he 94 (by decide)).trans h94
        have h95 := (he 95 (by decide)).trans h95
        have h96 := (he 96 (by decide)).trans h96
        have h97 := (he 97 (by decide)).trans h97
        have h98 := (he 98 (by decide)).trans h98
        have h99 := (he 99 (by decide)).trans h99
        have h100 := (he 100 (by decide)).trans h100
        have h101 := (he 101 (by decide)).trans h101
        have h102 := (he 102 (by decide)).trans h102
        have h103 := (he 103 (by decide)).trans h103
        have h104 := (he 104 (by decide)).trans h104
        have h105 := (he 105 (by decide)).trans h105
        have h106 := (he 106 (by decide)).trans h106
        have h107 := (he 107 (by decide)).trans h107
        have h108 := (he 108 (by decide)).trans h108
        have hF_ := hF_.ne (fun i h1 => he i (by omega))
        have hS_ := hS_.ne (fun i h1 h2 => he i (by omega))
        refine lv_icmp_eq (tgt := 1069) hx hb dL_law_210 (by decide) (fun c20 => ?_) (fun c20 => ?_)
        · have hf := it_e c20 hf
          obtain ⟨x21, ex21, hf⟩ := lt_e hf
          refine lv_iinc (v := x21) (lv' := [(3, .int x21), (0, .ref b), (1, .ref (ad 0)), (2, .ref (ad 86))]) hx hb dL_law_1069 hl (k := 3) rfl (by rw [ex21]; rfl) (by decide) rfl (fun ls hl => ?_)
          refine lv_goto (tgt := 18) hx hb dL_law_1072 (by decide) ?_
          exact ih x21 q12.2.1 tx_lines tx_ts tx_te q12.2.2 tx_k tx_n t_down t_min t_pac t_gone t_infl t_lik t_str t_from t_unt t_rain t_tell t_wy t_wn t_there t_lift t_none w_src w_over wa_g th_none th_all1 th_all2 th_k1 th_k2 th_size th_one th_two h_solved h_few h_sum h_min hn1 hn2 hn3 l_kinds l_unl d_seed d_min d_gue d_src d_lif q19.2.1 m_read m_down m_min m_walk m_gone m_flow m_lik m_str m_from m_to m_rain m_tell m_fy m_fn m_finds m_abv m_apart m_few m_mean m_soon m_kinds q19.2.2 m_rm m_there m_lift m_blank m_fm m_at m_pl m_end m_seed sL sT sF sU fC fS fM fT fY ad C H locs ls cells slots (by omega) (by omega) hI hAd hP hS h0 h1 h2 h3 h4 h5 h6 h7 h8 h9 h10 h11 h12 h13 h14 h15 h16 h17 h18 h19 h20 h21 h22 h23 h60 h61 h65 h66 h77 h78 h79 h80 h81 h82 h83 h84 h86 h87 h88 h89 h90 h91 h92 h93 h94 h95 h96 h97 h98 h99 h100 h101 h102 h103 h104 h105 h106 h107 h108 hF_ hS_ (lv_sub hl [1, 2, 3, 0] rfl) hf
        · have hf := ie_e c20 hf
          refine lv_iconst (v := 0) hx hb dL_law_213 (by decide) ?_
          exact absurd (Option.some.inj hf) (by decide)
      have hf := ie_e c5 hf
      by_cases c22 : x4 = 1
      · have hf := it_e c22 hf
        refine lv_tableIn (tgt := 215) hx hb dL_law_33 (by rw [c22]; decide) (by rw [c22]; decide) (by rw [c22]; rfl) (by decide) ?_
        refine lv_aload_n hx hb dL_law_215 rfl (lv_at hl 1 rfl) ?_
        obtain ⟨q23, hq23, hf⟩ := bd_e hf
        refine k_iW (va_runV (C := RX10) (As := []) (rest := []) ⟨hx, hb, hml, hown, hts⟩ (c_X10_erase (l := l) (sz := H.size)  (by omega : 86 ≤ N) hI h0 h1 hq23) (cwV 0 hts gLV_X10_erase rfl rfl rfl (by decide +kernel) ⟨Nat.le_of_ble_eq_true rfl, Nat.le_of_ble_eq_true rfl⟩) (preV_of hK hP (by omega) h0 rfl) rfl rfl hl.1 rfl (lv_room (Nat.le_of_ble_eq_true rfl)) dL_law_216 ⟨fit1 (by omega), fit2 (by omega)⟩) hA hAd hS (fun C H locs hP hS hpo hbz_q23 => ?_)
        obtain ⟨he, h1⟩ := hpo
        have h0 := (he 0 (by decide)).trans h0
        have h2 := (he 2 (by decide)).trans h2
        have h3 := (he 3 (by decide)).trans h3
        have h4 := (he 4 (by decide)).trans h4
        have h5 := (he 5 (by decide)).trans h5
        have h6 := (he 6 (by decide)).trans h6
        have h7 := (he 7 (by decide)).trans h7
        have h8 := (he 8 (by decide)).trans h8
        have h9 := (he 9 (by decide)).trans h9
        have h10 := (he 10 (by decide)).trans h10
        have h11 := (he 11 (by decide)).trans h11
        have h12 := (he 12 (by decide)).trans h12
        have h13 := (he 13 (by decide)).trans h13
        have h14 := (he 14 (by decide)).trans h14
        have h15 := (he 15 (by decide)).trans h15
        have h16 := (he 16 (by decide)).trans h16
        have h17 := (he 17 (by decide)).trans h17
        have h18 := (he 18 (by decide)).trans h18
        have h19 := (he 19 (by decide)).trans h19
        have h20 := (he 20 (by decide)).trans h20
        have h21 := (he 21 (by decide)).trans h21
        have h22 := (he 22 (by decide)).trans h22
        have h23 := (he 23 (by decide)).trans h23
        have h60 := (he 60 (by decide)).trans h60
        have h61 := (he 61 (by decide)).trans h61
        have h65 := (he 65 (by decide)).trans h65
        have h66 := (he 66 (by decide)).trans h66
        have h77 := (he 77 (by decide)).trans h77
        have h78 := (he 78 (by decide)).trans h78
        have h79 := (he 79 (by decide)).trans h79
        have h80 := (he 80 (by decide)).trans h80
        have h81 := (he 81 (by decide)).trans h81
        have h82 := (he 82 (by decide)).trans h82
        have h83 := (he 83 (by decide)).trans h83
        have h84 := (he 84 (by decide)).trans h84
        have h86 := (he 86 (by decide)).trans h86
        have h87 := (he 87 (by decide)).trans h87
        have h88 := (he 88 (by decide)).trans h88
        have h89 := (he 89 (by decide)).trans h89
        have h90 := (he 90 (by decide)).trans h90
        have h91 := (he 91 (by decide)).trans h91
        have h92 := (he 92 (by decide)).trans h92
        have h93 := (he 93 (by decide)).trans h93
        have h94 := (he 94 (by decide)).trans h94
        have h95 := (he 95 (by decide)).trans h95
        have h96 := (he 96 (by decide)).trans h96
        have h97 := (he 97 (by decide)).trans h97
        have h98 := (he 98 (by decide)).trans h98
        have h99 := (he 99 (by decide)).trans h99
        have h100 := (he 100 (by decide)).trans h100
        have h101 := (he 101 (by decide)).trans h101
        have h102 := (he 102 (by decide)).trans h102
        have h103 := (he 103 (by decide)).trans h103
        have h104 := (he 104 (by decide)).trans h104
        have h105 := (he 105 (by decide)).trans h105
        have h106 := (he 106 (by decide)).trans h106
        have h107 := (he 107 (by decide)).trans h107
        have h108 := (he 108 (by decide)).trans h108
        have hF_ := hF_.ne (fun i h1 => he i (by omega))
        have hS_ := hS_.ne (fun i h1 h2 => he i (by omega))
        refine lv_aload_n hx hb dL_law_219 rfl (lv_at hl 2 rfl) ?_
        obtain ⟨q24, hq24, hf⟩ := bd_e hf
        refine k_iW (va_runV (C := RX11) (As := []) (rest := [.int q23.1]) ⟨hx, hb, hml, hown, hts⟩ (c_X11_erase (l := l) (sz := H.size)  (by omega : 109 ≤ N) hI h86 hq24) (cwV 0 hts gLV_X11_erase rfl rfl rfl (by decide +kernel) ⟨Nat.le_of_ble_eq_true rfl, Nat.le_of_ble_eq_true rfl⟩) (preV_of hK hP (by omega) h86 rfl) rfl rfl hl.1 rfl (lv_room (Nat.le_of_ble_eq_true rfl)) dL_law_220 ⟨fit1 (by omega), fit2 (by omega)⟩) hA hAd hS (fun C H locs hP hS hpo hbz_q24 => ?_)
        obtain ⟨he, h86⟩ := hpo
        have h0 := (he 0 (by decide)).trans h0
        have h1 := (he 1 (by decide)).trans h1
        have h2 := (he 2 (by decide)).trans h2
        have h3 := (he 3 (by decide)).trans h3
        have h4 := (he 4 (by decide)).trans h4
        have h5 := (he 5 (by decide)).trans h5
        have h6 := (he 6 (by decide)).trans h6
        have h7 := (he 7 (by decide)).trans h7
        have h8 := (he 8 (by decide)).trans h8
        have h9 := (he 9 (by decide)).trans h9
        have h10 := (he 10 (by decide)).trans h10
        have h11 := (he 11 (by decide)).trans h11
        have h12 := (he 12 (by decide)).trans h12
        have h13 := (he 13 (by decide)).trans h13
        have h14 := (he 14 (by decide)).trans h14
        have h15 := (he 15 (by decide)).trans h15
        have h16 := (he 16 (by decide)).trans h16
        have h17 := (he 17 (by decide)).trans h17
        have h18 := (he 18 (by decide)).trans h18
        have h19 := (he 19 (by decide)).trans h19
        have h20 := (he 20 (by decide)).trans h20
        have h21 := (he 21 (by decide)).trans h21
        have h22 := (he 22 (by decide)).trans h22
        have h23 := (he 23 (by decide)).trans h23
        have h60 := (he 60 (by decide)).trans h60
        have h61 := (he 61 (by decide)).trans h61
        have h65 := (he 65 (by decide)).trans h65
        have h66 := (he 66 (by decide)).trans h66
        have h77 := (he 77 (by decide)).trans h77
        have h78 := (he 78 (by decide)).trans h78
        have h79 := (he 79 (by decide)).trans h79
        have h80 := (he 80 (by decide)).trans h80
        have h81 := (he 81 (by decide)).trans h81
        have h82 := (he 82 (by decide)).trans h82
        have h83 := (he 83 (by decide)).trans h83
        have h84 := (he 84 (by decide)).trans h84
        have h87 := (he 87 (by decide)).trans h87
        have h88 := (he 88 (by decide)).trans h88
        have h89 := (he 89 (by decide)).trans h89
        have h90 := (he 90 (by decide)).trans h90
        have h91 := (he 91 (by decide)).trans h91
        have h92 := (he 92 (by decide)).trans h92
        have h93 := (he 93 (by decide)).trans h93
        have h94 := (he 94 (by decide)).trans h94
        have h95 := (he 95 (by decide)).trans h95
        have h96 := (he 96 (by decide)).trans h96
        have h97 := (he 97 (by decide)).trans h97
        have h98 := (he 98 (by decide)).trans h98
        have h99 := (he 99 (by decide)).trans h99
        have h100 := (he 100 (by decide)).trans h100
        have h101 := (he 101 (by decide)).trans h101
        have h102 := (he 102 (by decide)).trans h102
        have h103 := (he 103 (by decide)).trans h103
        have h104 := (he 104 (by decide)).trans h104
        have h105 := (he 105 (by decide)).trans h105
        have h106 := (he 106 (by decide)).trans h106
        have h107 := (he 107 (by decide)).trans h107
        have h108 := (he 108 (by decide)).trans h108
        have hF_ := hF_.ne (fun i h1 => he i (by omega))
        have hS_ := hS_.ne (fun i h1 h2 => he i (by omega))
        refine lv_icmp_eq (tgt := 1069) hx hb dL_law_223 (by decide) (fun c25 => ?_) (fun c25 => ?_)
        · have hf := it_e c25 hf
          obtain ⟨x26, ex26, hf⟩ := lt_e hf
          refine lv_iinc (v := x26) (lv' := [(3, .int x26), (0, .ref b), (1, .ref (ad 0)), (2, .ref (ad 86))]) hx hb dL_law_1069 hl (k := 3) rfl (by rw [ex26]; rfl) (by decide) rfl (fun ls hl => ?_)
          refine lv_goto (tgt := 18) hx hb dL_law_1072 (by decide) ?_
          exact ih x26 q23.2 tx_lines tx_ts tx_te tx_b tx_k tx_n t_down t_min t_pac t_gone t_infl t_lik t_str t_from t_unt t_rain t_tell t_wy t_wn t_there t_lift t_none w_src w_over wa_g th_none th_all1 th_all2 th_k1 th_k2 th_size th_one th_two h_solved h_few h_sum h_min hn1 hn2 hn3 l_kinds l_unl d_seed d_min d_gue d_src d_lif m_text m_read m_down m_min m_walk m_gone m_flow m_lik m_str m_from m_to m_rain m_tell m_fy m_fn m_finds m_abv m_apart m_few m_mean m_soon m_kinds q24.2 m_rm m_there m_lift m_blank m_fm m_at m_pl m_end m_seed sL sT sF sU fC fS fM fT fY ad C H locs ls cells slots (by omega) (by omega) hI hAd hP hS h0 h1 h2 h3 h4 h5 h6 h7 h8 h9 h10 h11 h12 h13 h14 h15 h16 h17 h18 h19 h20 h21 h22 h23 h60 h61 h65 h66 h77 h78 h79 h80 h81 h82 h83 h84 h86 h87 h88 h89 h90 h91 h92 h93 h94 h95 h96 h97 h98 h99 h100 h101 h102 h103 h104 h105 h106 h107 h108 hF_ hS_ (lv_sub hl [1, 2, 3, 0] rfl) hf
        · have hf := ie_e c25 hf
          refine lv_iconst (v := 0) hx hb dL_law_226 (by decide) ?_
          exact absurd (Option.some.inj hf) (by decide)
      have hf := ie_e c22 hf
      by_cases c27 : x4 = 2
      · have hf := it_e c27 hf
        refine lv_tableIn (tgt := 228) hx hb dL_law_33 (by rw [c27]; decide) (by rw [c27]; decide) (by rw [c27]; rfl) (by decide) ?_
        refine lv_aload_n hx hb dL_law_228 rfl (lv_at hl 1 rfl) ?_
        obtain ⟨q28, hq28, hf⟩ := bd_e hf
        have hSDw : SD adK adV tb (Aw N ad s.heap.size) s s.heap := hSD0.narrow (fun q h => Aw_to (fun _ h => h) hAd (Nat.le_refl _) h)
        have hAB : ∀ q, An s.heap.size q → Aw N ad s.heap.size q := fun q h => Or.inr h
        refine k_iW (va_runV (C := RX10) (As := []) (rest := []) ⟨hx, hb, hml, hown, hts⟩ (c_X10_fault (l := l) (sz := H.size) (adK := adK) (adV := adV) (tb := tb) (by omega : 86 ≤ N) hI h0 h1 h2 h3 h4 hq28) (cwV 0 hts gLV_X10_fault rfl rfl rfl (by decide +kernel) ⟨Nat.le_of_ble_eq_true rfl, Nat.le_of_ble_eq_true rfl⟩) (preT_of hK hSDw hS hAB hP (by omega) h0 rfl) rfl rfl hl.1 rfl (lv_room (Nat.le_of_ble_eq_true rfl)) dL_law_229 ⟨fit1 (by omega), fit2 (by omega)⟩) hA hAd hS (fun C H locs hP hS hpo hbz_q28 => ?_)
        obtain ⟨he, h1, h3, h4⟩ := hpo
        have h0 := (he 0 (by decide)).trans h0
        have h2 := (he 2 (by decide)).trans h2
        have h5 := (he 5 (by decide)).trans h5
        have h6 := (he 6 (by decide)).trans h6
        have h7 := (he 7 (by decide)).trans h7
        have h8 := (he 8 (by decide)).trans h8
        have h9 := (he 9 (by decide)).trans h9
        have h10 := (he 10 (by decide)).trans h10
        have h11 := (he 11 (by decide)).trans h11
        have h12 := (he 12 (by decide)).trans h12
        have h13 := (he 13 (by decide)).trans h13
        have h14 := (he 14 (by decide)).trans h14
        have h15 := (he 15 (by decide)).trans h15
        have h16 := (he 16 (by decide)).trans h16
        have h17 := (he 17 (by decide)).trans h17
        have h18 := (he 18 (by decide)).trans h18
        have h19 := (he 19 (by decide)).trans h19
        have h20 := (he 20 (by decide)).trans h20
        have h21 := (he 21 (by decide)).trans h21
        have h22 := (he 22 (by decide)).trans h22
        have h23 := (he 23 (by decide)).trans h23
        have h60 := (he 60 (by decide)).trans h60
        have h61 := (he 61 (by decide)).trans h61
        have h65 := (he 65 (by decide)).trans h65
        have h66 := (he 66 (by decide)).trans h66
        have h77 := (he 77 (by decide)).trans h77
        have h78 := (he 78 (by decide)).trans h78
        have h79 := (he 79 (by decide)).trans h79
        have h80 := (he 80 (by decide)).trans h80
        have h81 := (he 81 (by decide)).trans h81
        have h82 := (he 82 (by decide)).trans h82
        have h83 := (he 83 (by decide)).trans h83
        have h84 := (he 84 (by decide)).trans h84
        have h86 := (he 86 (by decide)).trans h86
        have h87 := (he 87 (by decide)).trans h87
        have h88 := (he 88 (by decide)).trans h88
        have h89 := (he 89 (by decide)).trans h89
        have h90 := (he 90 (by decide)).trans h90
        have h91 := (he 91 (by decide)).trans h91
        have h92 := (he 92 (by decide)).trans h92
        have h93 := (he 93 (by decide)).trans h93
        have h94 := (he 94 (by decide)).trans h94
        have h95 := (he 95 (by decide)).trans h95
        have h96 := (he 96 (by decide)).trans h96
        have h97 := (he 97 (by decide)).trans h97
        have h98 := (he 98 (by decide)).trans h98
        have h99 := (he 99 (by decide)).trans h99
        have h100 := (he 100 (by decide)).trans h100
        have h101 := (he 101 (by decide)).trans h101
        have h102 := (he 102 (by decide)).trans h102
        have h103 := (he 103 (by decide)).trans h103
        have h104 := (he 104 (by decide)).trans h104
        have h105 := (he 105 (by decide)).trans h105
        have h106 := (he 106 (by decide)).trans h106
        have h107 := (he 107 (by decide)).trans h107
        have h108 := (he 108 (by decide)).trans h108
        have hF_ := hF_.ne (fun i h1 => he i (by omega))
        have hS_ := hS_.ne (fun i h1 h2 => he i (by omega))
        refine lv_aload_n hx hb dL_law_232 rfl (lv_at hl 2 rfl) ?_
        obtain ⟨q29, hq29, hf⟩ := bd_e hf
        refine k_iW (va_runV (C := RX11) (As := []) (rest := [.int q28.1]) ⟨hx, hb, hml, hown, hts⟩ (c_X11_fault (l := l) (sz := H.size)  (by omega : 109 ≤ N) hI h86 h87 h88 hq29) (cwV 0 hts gLV_X11_fault rfl rfl rfl (by decide +kernel) ⟨Nat.le_of_ble_eq_true rfl, Nat.le_of_ble_eq_true rfl⟩) (preV_of hK hP (by omega) h86 rfl) rfl rfl hl.1 rfl (lv_room (Nat.le_of_ble_eq_true rfl)) dL_law_233 ⟨fit1 (by omega), fit2 (by omega)⟩) hA hAd hS (fun C H locs hP hS hpo hbz_q29 => ?_)
        obtain ⟨he, h86, h88⟩ := hpo
        have h0 := (he 0 (by decide)).trans h0
        have h1 := (he 1 (by decide)).trans h1
        have h2 := (he 2 (by decide)).trans h2
        have h3 := (he 3 (by decide)).trans h3
        have h4 := (he 4 (by decide)).trans h4
        have h5 := (he 5 (by decide)).trans h5
        have h6 := (he 6 (by decide)).trans h6
        have h7 := (he 7 (by decide)).trans h7
        have h8 := (he 8 (by decide)).trans h8
        have h9 := (he 9 (by decide)).trans h9
        have h10 := (he 10 (by decide)).trans h10
        have h11 := (he 11 (by decide)).trans h11
        have h12 := (he 12 (by decide)).trans h12
        have h13 := (he 13 (by decide)).trans h13
        have h14 := (he 14 (by decide)).trans h14
        have h15 := (he 15 (by decide)).trans h15
        have h16 := (he 16 (by decide)).trans h16
        have h17 := (he 17 (by decide)).trans h17
        have h18 := (he 18 (by decide)).trans h18
        have h19 := (he 19 (by decide)).trans h19
        have h20 := (he 20 (by decide)).trans h20
        have h21 := (he 21 (by decide)).trans h21
        have h22 := (he 22 (by decide)).trans h22
        have h23 := (he 23 (by decide)).trans h23
        have h60 := (he 60 (by decide)).trans h60
        have h61 := (he 61 (by decide)).trans h61
        have h65 := (he 65 (by decide)).trans h65
        have h66 := (he 66 (by decide)).trans h66
        have h77 := (he 77 (by decide)).trans h77
        have h78 := (he 78 (by decide)).trans h78
        have h79 := (he 79 (by decide)).trans h79
        have h80 := (he 80 (by decide)).trans h80
        have h81 := (he 81 (by decide)).trans h81
        have h82 := (he 82 (by decide)).trans h82
        have h83 := (he 83 (by decide)).trans h83
        have h84 := (he 84 (by decide)).trans h84
        have h87 := (he 87 (by decide)).trans h87
        have h89 := (he 89 (by decide)).trans h89
        have h90 := (he 90 (by decide)).trans h90
        have h91 := (he 91 (by decide)).trans h91
        have h92 := (he 92 (by decide)).trans h92
        have h93 := (he 93 (by decide)).trans h93
        have h94 := (he 94 (by decide)).trans h94
        have h95 := (he 95 (by decide)).trans h95
        have h96 := (he 96 (by decide)).trans h96
        have h97 := (he 97 (by decide)).trans h97
        have h98 := (he 98 (by decide)).trans h98
        have h99 := (he 99 (by decide)).trans h99
        have h100 := (he 100 (by decide)).trans h100
        have h101 := (he 101 (by decide)).trans h101
        have h102 := (he 102 (by decide)).trans h102
        have h103 := (he 103 (by decide)).trans h103
        have h104 := (he 104 (by decide)).trans h104
        have h105 := (he 105 (by decide)).trans h105
        have h106 := (he 106 (by decide)).trans h106
        have h107 := (he 107 (by decide)).trans h107
        have h108 := (he 108 (by decide)).trans h108
        have hF_ := hF_.ne (fun i h1 => he i (by omega))
        have hS_ := hS_.ne (fun i h1 h2 => he i (by omega))
        refine lv_icmp_eq (tgt := 1069) hx hb dL_law_236 (by decide) (fun c30 => ?_) (fun c30 => ?_)
        · have hf := it_e c30 hf
          obtain ⟨x31, ex31, hf⟩ := lt_e hf
          refine lv_iinc (v := x31) (lv' := [(3, .int x31), (0, .ref b), (1, .ref (ad 0)), (2, .ref (ad 86))]) hx hb dL_law_1069 hl (k := 3) rfl (by rw [ex31]; rfl) (by decide) rfl (fun ls hl => ?_)
          refine lv_goto (tgt := 18) hx hb dL_law_1072 (by decide) ?_
          exact ih x31 tx_len q28.2.1 q28.2.2.1 q28.2.2.2.1 tx_b q28.2.2.2.2.1 q28.2.2.2.2.2 t_down t_min t_pac t_gone t_infl t_lik t_str t_from t_unt t_rain t_tell t_wy t_wn t_there t_lift t_none w_src w_over wa_g th_none th_all1 th_all2 th_k1 th_k2 th_size th_one th_two h_solved h_few h_sum h_min hn1 hn2 hn3 l_kinds l_unl d_seed d_min d_gue d_src d_lif m_text q29.2.1 m_down m_min m_walk m_gone m_flow m_lik m_str m_from m_to m_rain m_tell m_fy m_fn m_finds m_abv m_apart m_few m_mean m_soon m_kinds m_len q29.2.2.1 m_there m_lift m_blank m_fm q29.2.2.2.1 q29.2.2.2.2.1 q29.2.2.2.2.2 m_seed sL sT sF sU fC fS fM fT fY ad C H locs ls cells slots (by omega) (by omega) hI hAd hP hS h0 h1 h2 h3 h4 h5 h6 h7 h8 h9 h10 h11 h12 h13 h14 h15 h16 h17 h18 h19 h20 h21 h22 h23 h60 h61 h65 h66 h77 h78 h79 h80 h81 h82 h83 h84 h86 h87 h88 h89 h90 h91 h92 h93 h94 h95 h96 h97 h98 h99 h100 h101 h102 h103 h104 h105 h106 h107 h108 hF_ hS_ (lv_sub hl [1, 2, 3, 0] rfl) hf
        · have hf := ie_e c30 hf
          refine lv_iconst (v := 0) hx hb dL_law_239 (by decide) ?_
          exact absurd (Option.some.inj hf) (by decide)
      have hf := ie_e c27 hf
      by_cases c32 : x4 = 3
      · have hf := it_e c32 hf
        refine lv_tableIn (tgt := 241) hx hb dL_law_33 (by rw [c32]; decide) (by rw [c32]; decide) (by rw [c32]; rfl) (by decide) ?_
        refine lv_aload_n hx hb dL_law_241 rfl (lv_at hl 1 rfl) ?_
        obtain ⟨q33, hq33, hf⟩ := bd_e hf
        have hSDw : SD adK adV tb (Aw N ad s.heap.size) s s.heap := hSD0.narrow (fun q h => Aw_to (fun _ h => h) hAd (Nat.le_refl _) h)
        have hAB : ∀ q, An s.heap.size q → Aw N ad s.heap.size q := fun q h => Or.inr h
        refine k_iW (va_runV (C := RX10) (As := []) (rest := []) ⟨hx, hb, hml, hown, hts⟩ (c_X10_town (l := l) (sz := H.size) (adK := adK) (adV := adV) (tb := tb) (by omega : 86 ≤ N) hI h0 h1 h2 h3 h4 h5 h6 h7 h8 h9 h10 h11 h12 h13 h14 h15 h16 h17 h18 h19 h20 h21 h22 h23 h60 h77 hS_ hq33) (cwV 0 hts gLV_X10_town rfl rfl rfl (by decide +kernel) ⟨Nat.le_of_ble_eq_true rfl, Nat.le_of_ble_eq_true rfl⟩) (preT_of hK hSDw hS hAB hP (by omega) h0 rfl) rfl rfl hl.1 rfl (lv_room (Nat.le_of_ble_eq_true rfl)) dL_law_242 ⟨fit1 (by omega), fit2 (by omega)⟩) hA hAd hS (fun C H locs hP hS hpo hbz_q33 => ?_)
        obtain ⟨he, h1, h10, h11, h12, h13, h14, h15, h16, h17, h18, h19, h20, h22, h3, h4, h5, h6, h60, h7, h77, h8, h9, hS_⟩ := hpo
        have h0 := (he 0 (by decide)).trans h0
        have h2 := (he 2 (by decide)).trans h2
        have h21 := (he 21 (by decide)).trans h21
        have h23 := (he 23 (by decide)).trans h23
        have h61 := (he 61 (by decide)).trans h61
        have h65 := (he 65 (by decide)).trans h65
        have h66 := (he 66 (by decide)).trans h66
        have h78 := (he 78 (by decide)).trans h78
        have h79 := (he 79 (by decide)).trans h79
        have h80 := (he 80 (by decide)).trans h80
        have h81 := (he 81 (by decide)).trans h81
        have h82 := (he 82 (by decide)).trans h82
        have h83 := (he 83 (by decide)).trans h83
        have h84 := (he 84 (by decide)).trans h84
        have h86 := (he 86 (by decide)).trans h86
        have h87 := (he 87 (by decide)).trans h87
        have h88 := (he 88 (by decide)).trans h88
        have h89 := (he 89 (by decide)).trans h89
        have h90 := (he 90 (by decide)).trans h90
        have h91 := (he 91 (by decide)).trans h91
        have h92 := (he 92 (by decide)).trans h92
        have h93 := (he 93 (by decide)).trans h93
        have h94 := (he 94 (by decide)).trans h94
        have h95 := (he 95 (by decide)).trans h95
        have h96 := (he 96 (by decide)).trans h96
        have h97 := (he 97 (by decide)).trans h97
        have h98 := (he 98 (by decide)).trans h98
        have h99 := (he 99 (by decide)).trans h99
        have h100 := (he 100 (by decide)).trans h100
        have h101 := (he 101 (by decide)).trans h101
        have h102 := (he 102 (by decide)).trans h102
        have h103 := (he 103 (by decide)).trans h103
        have h104 := (he 104 (by decide)).trans h104
        have h105 := (he 105 (by decide)).trans h105
        have h106 := (he 106 (by decide)).trans h106
        have h107 := (he 107 (by decide)).trans h107
        have h108 := (he 108 (by decide)).trans h108
        have hF_ := hF_.ne (fun i h1 => he i (by omega))
        refine lv_aload_n hx hb dL_law_245 rfl (lv_at hl 2 rfl) ?_
        obtain ⟨q34, hq34, hf⟩ := bd_e hf
        refine k_iW (va_runV (C := RX11) (As := []) (rest := [.int q33.1]) ⟨hx, hb, hml, hown, hts⟩ (c_X11_town (l := l) (sz := H.size)  (by omega : 109 ≤ N) hI h86 h87 h88 h89 h90 h91 h92 h93 h94 h95 h96 h97 h98 h99 h100 h101 hq34) (cwV 0 hts gLV_X11_town rfl rfl rfl (by decide +kernel) ⟨Nat.le_of_ble_eq_true rfl, Nat.le_of_ble_eq_true rfl⟩) (preV_of hK hP (by omega) h86 rfl) rfl rfl hl.1 rfl (lv_room (Nat.le_of_ble_eq_true rfl)) dL_law_246 ⟨fit1 (by omega), fit2 (by omega)⟩) hA hAd hS (fun C H locs hP hS hpo hbz_q34 => ?_)
        obtain ⟨he, h100, h101, h86, h88, h89, h90, h91, h92, h93, h94, h95, h96, h97, h98, h99⟩ := hpo
        have h0 := (he 0 (by decide)).trans h0
        have h1 := (he 1 (by decide)).trans h1
        have h2 := (he 2 (by decide)).trans h2
        have h3 := (he 3 (by decide)).trans h3
        have h4 := (he 4 (by decide)).trans h4
        have h5 := (he 5 (by decide)).trans h5
        have h6 := (he 6 (by decide)).trans h6
        have h7 := (he 7 (by decide)).trans h7
        have h8 := (he 8 (by decide)).trans h8
        have h9 := (he 9 (by decide)).trans h9
        have h10 := (he 10 (by decide)).trans h10
        have h11 := (he 11 (by decide)).trans h11
        have h12 := (he 12 (by decide)).trans h12
        have h13 := (he 13 (by decide)).trans h13
        have h14 := (he 14 (by decide)).trans h14
        have h15 := (he 15 (by decide)).trans h15
        have h16 := (he 16 (by decide)).trans h16
        have h17 := (he 17 (by decide)).trans h17
        have h18 := (he 18 (by decide)).trans h18
        have h19 := (he 19 (by decide)).trans h19
        have h20 := (he 20 (by decide)).trans h20
        have h21 := (he 21 (by decide)).trans h21
        have h22 := (he 22 (by decide)).trans h22
        have h23 := (he 23 (by decide)).trans h23
        have h60 := (he 60 (by decide)).trans h60
        have h61 := (he 61 (by decide)).trans h61
        have h65 := (he 65 (by decide)).trans h65
        have h66 := (he 66 (by decide)).trans h66
        have h77 := (he 77 (by decide)).trans h77
        have h78 := (he 78 (by decide)).trans h78
        have h79 := (he 79 (by decide)).trans h79
        have h80 := (he 80 (by decide)).trans h80
        have h81 := (he 81 (by decide)).trans h81
        have h82 := (he 82 (by decide)).trans h82
        have h83 := (he 83 (by decide)).trans h83
        have h84 := (he 84 (by decide)).trans h84
        have h87 := (he 87 (by decide)).trans h87
        have h102 := (he 102 (by decide)).trans h102
        have h103 := (he 103 (by decide)).trans h103
        have h104 := (he 104 (by decide)).trans h104
        have h105 := (he 105 (by decide)).trans h105
        have h106 := (he 106 (by decide)).trans h106
        have h107 := (he 107 (by decide)).trans h107
        have h108 := (he 108 (by decide)).trans h108
        have hF_ := hF_.ne (fun i h1 => he i (by omega))
        have hS_ := hS_.ne (fun i h1 h2 => he i (by omega))
        refine lv_icmp_eq (tgt := 1069) hx hb dL_law_249 (by decide) (fun c35 => ?_) (fun c35 => ?_)
        · have hf := it_e c35 hf
          obtain ⟨x36, ex36, hf⟩ := lt_e hf
          refine lv_iinc (v := x36) (lv' := [(3, .int x36), (0, .ref b), (1, .ref (ad 0)), (2, .ref (ad 86))]) hx hb dL_law_1069 hl (k := 3) rfl (by rw [ex36]; rfl) (by decide) rfl (fun ls hl => ?_)
          refine lv_goto (tgt := 18) hx hb dL_law_1072 (by decide) ?_
          exact ih x36 q33.2.1 q33.2.2.1 q33.2.2.2.1 q33.2.2.2.2.1 tx_b q33.2.2.2.2.2.1 q33.2.2.2.2.2.2.1 q33.2.2.2.2.2.2.2.1 q33.2.2.2.2.2.2.2.2.1 q33.2.2.2.2.2.2.2.2.2.1 q33.2.2.2.2.2.2.2.2.2.2.1 q33.2.2.2.2.2.2.2.2.2.2.2.1 q33.2.2.2.2.2.2.2.2.2.2.2.2.1 q33.2.2.2.2.2.2.2.2.2.2.2.2.2.1 q33.2.2.2.2.2.2.2.2.2.2.2.2.2.2.1 q33.2.2.2.2.2.2.2.2.2.2.2.2.2.2.2.1 q33.2.2.2.2.2.2.2.2.2.2.2.2.2.2.2.2.1 q33.2.2.2.2.2.2.2.2.2.2.2.2.2.2.2.2.2.1 q33.2.2.2.2.2.2.2.2.2.2.2.2.2.2.2.2.2.2.1 q33.2.2.2.2.2.2.2.2.2.2.2.2.2.2.2.2.2.2.2.1 q33.2.2.2.2.2.2.2.2.2.2.2.2.2.2.2.2.2.2.2.2.1 q33.2.2.2.2.2.2.2.2.2.2.2.2.2.2.2.2.2.2.2.2.2.1 q33.2.2.2.2.2.2.2.2.2.2.2.2.2.2.2.2.2.2.2.2.2.2.1 q33.2.2.2.2.2.2.2.2.2.2.2.2.2.2.2.2.2.2.2.2.2.2.2.1 q33.2.2.2.2.2.2.2.2.2.2.2.2.2.2.2.2.2.2.2.2.2.2.2.2.1 q33.2.2.2.2.2.2.2.2.2.2.2.2.2.2.2.2.2.2.2.2.2.2.2.2.2.1 th_none th_all1 th_all2 q33.2.2.2.2.2.2.2.2.2.2.2.2.2.2.2.2.2.2.2.2.2.2.2.2.2.2.1 q33.2.2.2.2.2.2.2.2.2.2.2.2.2.2.2.2.2.2.2.2.2.2.2.2.2.2.2.1 th_size th_one th_two q33.2.2.2.2.2.2.2.2.2.2.2.2.2.2.2.2.2.2.2.2.2.2.2.2.2.2.2.2.1 h_few h_sum h_min hn1 hn2 hn3 l_kinds l_unl d_seed d_min d_gue d_src d_lif m_text q34.2.1 q34.2.2.1 q34.2.2.2.1 q34.2.2.2.2.1 q34.2.2.2.2.2.1 q34.2.2.2.2.2.2.1 q34.2.2.2.2.2.2.2.1 q34.2.2.2.2.2.2.2.2.1 q34.2.2.2.2.2.2.2.2.2.1 q34.2.2.2.2.2.2.2.2.2.2.1 q34.2.2.2.2.2.2.2.2.2.2.2.1 q34.2.2.2.2.2.2.2.2.2.2.2.2.1 q34.2.2.2.2.2.2.2.2.2.2.2.2.2.1 q34.2.2.2.2.2.2.2.2.2.2.2.2.2.2.1 m_finds m_abv m_apart m_few m_mean m_soon m_kinds q34.2.2.2.2.2.2.2.2.2.2.2.2.2.2.2.1 q34.2.2.2.2.2.2.2.2.2.2.2.2.2.2.2.2.1 q34.2.2.2.2.2.2.2.2.2.2.2.2.2.2.2.2.2.1 q34.2.2.2.2.2.2.2.2.2.2.2.2.2.2.2.2.2.2.1 q34.2.2.2.2.2.2.2.2.2.2.2.2.2.2.2.2.2.2.2.1 m_fm q34.2.2.2.2.2.2.2.2.2.2.2.2.2.2.2.2.2.2.2.2.1 q34.2.2.2.2.2.2.2.2.2.2.2.2.2.2.2.2.2.2.2.2.2.1 q34.2.2.2.2.2.2.2.2.2.2.2.2.2.2.2.2.2.2.2.2.2.2 m_seed q33.2.2.2.2.2.2.2.2.2.2.2.2.2.2.2.2.2.2.2.2.2.2.2.2.2.2.2.2.2.1 q33.2.2.2.2.2.2.2.2.2.2.2.2.2.2.2.2.2.2.2.2.2.2.2.2.2.2.2.2.2.2.1 q33.2.2.2.2.2.2.2.2.2.2.2.2.2.2.2.2.2.2.2.2.2.2.2.2.2.2.2.2.2.2.2.1 q33.2.2.2.2.2.2.2.2.2.2.2.2.2.2.2.2.2.2.2.2.2.2.2.2.2.2.2.2.2.2.2.2 fC fS fM fT fY ad C H locs ls cells slots (by omega) (by omega) hI hAd hP hS h0 h1 h2 h3 h4 h5 h6 h7 h8 h9 h10 h11 h12 h13 h14 h15 h16 h17 h18 h19 h20 h21 h22 h23 h60 h61 h65 h66 h77 h78 h79 h80 h81 h82 h83 h84 h86 h87 h88 h89 h90 h91 h92 h93 h94 h95 h96 h97 h98 h99 h100 h101 h102 h103 h104 h105 h106 h107 h108 hF_ hS_ (lv_sub hl [1, 2, 3, 0] rfl) hf
        · have hf := ie_e c35 hf
          refine lv_iconst (v := 0) hx hb dL_law_252 (by decide) ?_
          exact absurd (Option.some.inj hf) (by decide)
      have hf := ie_e c32 hf
      by_cases c37 : x4 = 4
      · have hf := it_e c37 hf
        refine lv_tableIn (tgt := 254) hx hb dL_law_33 (by rw [c37]; decide) (by rw [c37]; decide) (by rw [c37]; rfl) (by decide) ?_
        refine lv_aload_n hx hb dL_law_254 rfl (lv_at hl 1 rfl) ?_
        refine lv_aload_n hx hb dL_law_255 rfl (lv_at hl 0 rfl) ?_
        refine lv_iload_n hx hb dL_law_256 rfl (lv_at hl 3 rfl) ?_
        refine lv_iconst (v := 1) hx hb dL_law_257 (by decide) ?_
        refine lv_iadd hx hb dL_law_258 ?_
        obtain ⟨i39, x38, ex38, hf⟩ := ri_e hf
        refine va_sld hx hb hX hbl hbA hS i39 dL_law_259 ?_
        refine tp_i ex38 ?_
        refine lv_aload_n hx hb dL_law_260 rfl (lv_at hl 0 rfl) ?_
        refine lv_iload_n hx hb dL_law_261 rfl (lv_at hl 3 rfl) ?_
        refine lv_iconst (v := 2) hx hb dL_law_262 (by decide) ?_
        refine lv_iadd hx hb dL_law_263 ?_
        obtain ⟨i41, x40, ex40, hf⟩ := ri_e hf
        refine va_sld hx hb hX hbl hbA hS i41 dL_law_264 ?_
        refine tp_i ex40 ?_
        obtain ⟨q42, hq42, hf⟩ := bd_e hf
        refine k_iR (va_runV (C := RX10) (As := [.int x38, .int x40]) (rest := []) ⟨hx, hb, hml, hown, hts⟩ (c_X10_of (l := l) (sz := H.size) (p0 := x38) (p1 := x40) (by omega : 86 ≤ N) h0 h5 h6 h7 h8 h9 h10 h11 h12 h13 h14 hq42) (cwV 2 hts gLV_X10_of rfl rfl rfl (by decide +kernel) ⟨Nat.le_of_ble_eq_true rfl, Nat.le_of_ble_eq_true rfl⟩) (preV_of hK hP (by omega) h0 rfl) rfl rfl hl.1 rfl (lv_room (Nat.le_of_ble_eq_true rfl)) dL_law_265 ⟨fit1 (by omega), fit2 (by omega)⟩) hA hP hS (fun H locs hP hS hbz_q42 => ?_)
        refine lv_aload_n hx hb dL_law_268 rfl (lv_at hl 2 rfl) ?_
        refine lv_aload_n hx hb dL_law_269 rfl (lv_at hl 0 rfl) ?_
        refine lv_iload_n hx hb dL_law_270 rfl (lv_at hl 3 rfl) ?_
        refine lv_iconst (v := 1) hx hb dL_law_271 (by decide) ?_
        refine lv_iadd hx hb dL_law_272 ?_
        obtain ⟨i44, x43, ex43, hf⟩ := ri_e hf
        refine va_sld hx hb hX hbl hbA hS i44 dL_law_273 ?_
        refine tp_i ex43 ?_
        refine lv_aload_n hx hb dL_law_274 rfl (lv_at hl 0 rfl) ?_
        refine lv_iload_n hx hb dL_law_275 rfl (lv_at hl 3 rfl) ?_
        refine lv_iconst (v := 2) hx hb dL_law_276 (by decide) ?_
        refine lv_iadd hx hb dL_law_277 ?_
        obtain ⟨i46, x45, ex45, hf⟩ := ri_e hf
        refine va_sld hx hb hX hbl hbA hS i46 dL_law_278 ?_
        refine tp_i ex45 ?_
        obtain ⟨q47, hq47, hf⟩ := bd_e hf
        refine k_iR (va_runV (C := RX11) (As := [.int x43, .int x45]) (rest := [.int q42]) ⟨hx, hb, hml, hown, hts⟩ (c_X11_of (l := l) (sz := H.size) (p0 := x43) (p1 := x45) (by omega : 109 ≤ N) h86 h89 h90 h91 h92 h93 h94 h95 h96 h97 hq47) (cwV 2 hts gLV_X11_of rfl rfl rfl (by decide +kernel) ⟨Nat.le_of_ble_eq_true rfl, Nat.le_of_ble_eq_true rfl⟩) (preV_of hK hP (by omega) h86 rfl) rfl rfl hl.1 rfl (lv_room (Nat.le_of_ble_eq_true rfl)) dL_law_279 ⟨fit1 (by omega), fit2 (by omega)⟩) hA hP hS (fun H locs hP hS hbz_q47 => ?_)
        refine lv_icmp_eq (tgt := 1069) hx hb dL_law_282 (by decide) (fun c48 => ?_) (fun c48 => ?_)
        · have hf := it_e c48 hf
          obtain ⟨x49, ex49, hf⟩ := lt_e hf
          refine lv_iinc (v := x49) (lv' := [(3, .int x49), (0, .ref b), (1, .ref (ad 0)), (2, .ref (ad 86))]) hx hb dL_law_1069 hl (k := 3) rfl (by rw [ex49]; rfl) (by decide) rfl (fun ls hl => ?_)
          refine lv_goto (tgt := 18) hx hb dL_law_1072 (by decide) ?_
          exact ih x49 tx_len tx_lines tx_ts tx_te tx_b tx_k tx_n t_down t_min t_pac t_gone t_infl t_lik t_str t_from t_unt t_rain t_tell t_wy t_wn t_there t_lift t_none w_src w_over wa_g th_none th_all1 th_all2 th_k1 th_k2 th_size th_one th_two h_solved h_few h_sum h_min hn1 hn2 hn3 l_kinds l_unl d_seed d_min d_gue d_src d_lif m_text m_read m_down m_min m_walk m_gone m_flow m_lik m_str m_from m_to m_rain m_tell m_fy m_fn m_finds m_abv m_apart m_few m_mean m_soon m_kinds m_len m_rm m_there m_lift m_blank m_fm m_at m_pl m_end m_seed sL sT sF sU fC fS fM fT fY ad C H locs ls cells slots (by omega) (by omega) hI hAd hP hS h0 h1 h2 h3 h4 h5 h6 h7 h8 h9 h10 h11 h12 h13 h14 h15 h16 h17 h18 h19 h20 h21 h22 h23 h60 h61 h65 h66 h77 h78 h79 h80 h81 h82 h83 h84 h86 h87 h88 h89 h90 h91 h92 h93 h94 h95 h96 h97 h98 h99 h100 h101 h102 h103 h104 h105 h106 h107 h108 hF_ hS_ (lv_sub hl [1, 2, 3, 0] rfl) hf
        · have hf := ie_e c48 hf
          refine lv_iconst (v := 0) hx hb dL_law_285 (by decide) ?_
          exact absurd (Option.some.inj hf) (by decide)
      have hf := ie_e c37 hf
      by_cases c50 : x4 = 5
      · have hf := it_e c50 hf
        refine lv_tableIn (tgt := 287) hx hb dL_law_33 (by rw [c50]; decide) (by rw [c50]; decide) (by rw [c50]; rfl) (by decide) ?_
        refine lv_aload_n hx hb dL_law_287 rfl (lv_at hl 1 rfl) ?_
        refine lv_aload_n hx hb dL_law_288 rfl (lv_at hl 0 rfl) ?_
        refine lv_iload_n hx hb dL_law_289 rfl (lv_at hl 3 rfl) ?_
        refine lv_iconst (v := 1) hx hb dL_law_290 (by decide) ?_
        refine lv_iadd hx hb dL_law_291 ?_
        obtain ⟨i52, x51, ex51, hf⟩ := ri_e hf
        refine va_sld hx hb hX hbl hbA hS i52 dL_law_292 ?_
        refine tp_i ex51 ?_
        refine lv_aload_n hx hb dL_law_293 rfl (lv_at hl 0 rfl) ?_
        refine lv_iload_n hx hb dL_law_294 rfl (lv_at hl 3 rfl) ?_
        refine lv_iconst (v := 2) hx hb dL_law_295 (by decide) ?_
        refine lv_iadd hx hb dL_law_296 ?_
        obtain ⟨i54, x53, ex53, hf⟩ := ri_e hf
        refine va_sld hx hb hX hbl hbA hS i54 dL_law_297 ?_
        refine tp_i ex53 ?_
        obtain ⟨q55, hq55, hf⟩ := bd_e hf
        refine k_iR (va_runV (C := RX10) (As := [.int x51, .int x53]) (rest := []) ⟨hx, hb, hml, hown, hts⟩ (c_X10_cup (l := l) (sz := H.size) (p0 := x51) (p1 := x53) (by omega : 86 ≤ N) h0 h5 h16 h17 h18 hq55) (cwV 2 hts gLV_X10_cup rfl rfl rfl (by decide +kernel) ⟨Nat.le_of_ble_eq_true rfl, Nat.le_of_ble_eq_true rfl⟩) (preV_of hK hP (by omega) h0 rfl) rfl rfl hl.1 rfl (lv_room (Nat.le_of_ble_eq_true rfl)) dL_law_298 ⟨fit1 (by omega), fit2 (by omega)⟩) hA hP hS (fun H locs hP hS hbz_q55 => ?_)
        refine lv_aload_n hx hb dL_law_301 rfl (lv_at hl 2 rfl) ?_
        refine lv_aload_n hx hb dL_law_302 rfl (lv_at hl 0 rfl) ?_
        refine lv_iload_n hx hb dL_law_303 rfl (lv_at hl 3 rfl) ?_
        refine lv_iconst (v := 1) hx hb dL_law_304 (by decide) ?_
        refine lv_iadd hx hb dL_law_305 ?_
        obtain ⟨i57, x56, ex56, hf⟩ := ri_e hf
        refine va_sld hx hb hX hbl hbA hS i57 dL_law_306 ?_
        refine tp_i ex56 ?_
        refine lv_aload_n hx hb dL_law_307 rfl (lv_at hl 0 rfl) ?_
        refine lv_iload_n hx hb dL_law_308 rfl (lv_at hl 3 rfl) ?_
        refine lv_iconst (v := 2) hx hb dL_law_309 (by decide) ?_
        refine lv_iadd hx hb dL_law_310 ?_
        obtain ⟨i59, x58, ex58, hf⟩ := ri_e hf
        refine va_sld hx hb hX hbl hbA hS i59 dL_law_311 ?_
        refine tp_i ex58 ?_
        obtain ⟨q60, hq60, hf⟩ := bd_e hf
        refine k_iR (va_runV (C := RX11) (As := [.int x56, .int x58]) (rest := [.int q55]) ⟨hx, hb, hml, hown, hts⟩ (c_X11_cup (l := l) (sz := H.size) (p0 := x56) (p1 := x58) (by omega : 109 ≤ N) h86 h99 h100 h101 hq60) (cwV 2 hts gLV_X11_cup rfl rfl rfl (by decide +kernel) ⟨Nat.le_of_ble_eq_true rfl, Nat.le_of_ble_eq_true rfl⟩) (preV_of hK hP (by omega) h86 rfl) rfl rfl hl.1 rfl (lv_room (Nat.le_of_ble_eq_true rfl)) dL_law_312 ⟨fit1 (by omega), fit2 (by omega)⟩) hA hP hS (fun H locs hP hS hbz_q60 => ?_)
        refine lv_icmp_eq (tgt := 1069) hx hb dL_law_315 (by decide) (fun c61 => ?_) (fun c61 => ?_)
        · have hf := it_e c61 hf
          obtain ⟨x62, ex62, hf⟩ := lt_e hf
          refine lv_iinc (v := x62) (lv' := [(3, .int x62), (0, .ref b), (1, .ref (ad 0)), (2, .ref (ad 86))]) hx hb dL_law_1069 hl (k := 3) rfl (by rw [ex62]; rfl) (by decide) rfl (fun ls hl => ?_)
          refine lv_goto (tgt := 18) hx hb dL_law_1072 (by decide) ?_
          exact ih x62 tx_len tx_lines tx_ts tx_te tx_b tx_k tx_n t_down t_min t_pac t_gone t_infl t_lik t_str t_from t_unt t_rain t_tell t_wy t_wn t_there t_lift t_none w_src w_over wa_g th_none th_all1 th_all2 th_k1 th_k2 th_size th_one th_two h_solved h_few h_sum h_min hn1 hn2 hn3 l_kinds l_unl d_seed d_min d_gue d_src d_lif m_text m_read m_down m_min m_walk m_gone m_flow m_lik m_str m_from m_to m_rain m_tell m_fy m_fn m_finds m_abv m_apart m_few m_mean m_soon m_kinds m_len m_rm m_there m_lift m_blank m_fm m_at m_pl m_end m_seed sL sT sF sU fC fS fM fT fY ad C H locs ls cells slots (by omega) (by omega) hI hAd hP hS h0 h1 h2 h3 h4 h5 h6 h7 h8 h9 h10 h11 h12 h13 h14 h15 h16 h17 h18 h19 h20 h21 h22 h23 h60 h61 h65 h66 h77 h78 h79 h80 h81 h82 h83 h84 h86 h87 h88 h89 h90 h91 h92 h93 h94 h95 h96 h97 h98 h99 h100 h101 h102 h103 h104 h105 h106 h107 h108 hF_ hS_ (lv_sub hl [1, 2, 3, 0] rfl) hf
        · have hf := ie_e c61 hf
          refine lv_iconst (v := 0) hx hb dL_law_318 (by decide) ?_
          exact absurd (Option.some.inj hf) (by decide)
      have hf := ie_e c50 hf
      by_cases c63 : x4 = 6
      · have hf := it_e c63 hf
        refine lv_tableIn (tgt := 320) hx hb dL_law_33 (by rw [c63]; decide) (by rw [c63]; decide) (by rw [c63]; rfl) (by decide) ?_
        refine lv_aload_n hx hb dL_law_320 rfl (lv_at hl 1 rfl) ?_
        refine lv_aload_n hx hb dL_law_321 rfl (lv_at hl 0 rfl) ?_
        refine lv_iload_n hx hb dL_law_322 rfl (lv_at hl 3 rfl) ?_
        refine lv_iconst (v := 1) hx hb dL_law_323 (by decide) ?_
        refine lv_iadd hx hb dL_law_324 ?_
        obtain ⟨i65, x64, ex64, hf⟩ := ri_e hf
        refine va_sld hx hb hX hbl hbA hS i65 dL_law_325 ?_
        refine tp_i ex64 ?_
        obtain ⟨q66, hq66, hf⟩ := bd_e hf
        refine k_iR (va_runV (C := RX10) (As := [.int x64]) (rest := []) ⟨hx, hb, hml, hown, hts⟩ (c_X10_above (l := l) (sz := H.size) (p0 := x64) (by omega : 86 ≤ N) h0 h5 h19 h20 hq66) (cwV 1 hts gLV_X10_above rfl rfl rfl (by decide +kernel) ⟨Nat.le_of_ble_eq_true rfl, Nat.le_of_ble_eq_true rfl⟩) (preV_of hK hP (by omega) h0 rfl) rfl rfl hl.1 rfl (lv_room (Nat.le_of_ble_eq_true rfl)) dL_law_326 ⟨fit1 (by omega), fit2 (by omega)⟩) hA hP hS (fun H locs hP hS hbz_q66 => ?_)
        refine lv_aload_n hx hb dL_law_329 rfl (lv_at hl 2 rfl) ?_
        refine lv_aload_n hx hb dL_law_330 rfl (lv_at hl 0 rfl) ?_
        refine lv_iload_n hx hb dL_law_331 rfl (lv_at hl 3 rfl) ?_
        refine lv_iconst (v := 1) hx hb dL_law_332 (by decide) ?_
        refine lv_iadd hx hb dL_law_333 ?_
        obtain ⟨i68, x67, ex67, hf⟩ := ri_e hf
        refine va_sld hx hb hX hbl hbA hS i68 dL_law_334 ?_
        refine tp_i ex67 ?_
        obtain ⟨q69, hq69, hf⟩ := bd_e hf
        refine k_iR (va_runV (C := RX11) (As := [.int x67]) (rest := [.int q66]) ⟨hx, hb, hml, hown, hts⟩ (c_X11_above (l := l) (sz := H.size) (p0 := x67) (by omega : 109 ≤ N) h86 h89 hq69) (cwV 1 hts gLV_X11_above rfl rfl rfl (by decide +kernel) ⟨Nat.le_of_ble_eq_true rfl, Nat.le_of_ble_eq_true rfl⟩) (preV_of hK hP (by omega) h86 rfl) rfl rfl hl.1 rfl (lv_room (Nat.le_of_ble_eq_true rfl)) dL_law_335 ⟨fit1 (by omega), fit2 (by omega)⟩) hA hP hS (fun H locs hP hS hbz_q69 => ?_)
        refine lv_icmp_eq (tgt := 1069) hx hb dL_law_338 (by decide) (fun c70 => ?_) (fun c70 => ?_)
        · have hf := it_e c70 hf
          obtain ⟨x71, ex71, hf⟩ := lt_e hf
          refine lv_iinc (v := x71) (lv' := [(3, .int x71), (0, .ref b), (1, .ref (ad 0)), (2, .ref (ad 86))]) hx hb dL_law_1069 hl (k := 3) rfl (by rw [ex71]; rfl) (by decide) rfl (fun ls hl => ?_)
          refine lv_goto (tgt := 18) hx hb dL_law_1072 (by decide) ?_
          exact ih x71 tx_len tx_lines tx_ts tx_te tx_b tx_k tx_n t_down t_min t_pac t_gone t_infl t_lik t_str t_from t_unt t_rain t_tell t_wy t_wn t_there t_lift t_none w_src w_over wa_g th_none th_all1 th_all2 th_k1 th_k2 th_size th_one th_two h_solved h_few h_sum h_min hn1 hn2 hn3 l_kinds l_unl d_seed d_min d_gue d_src d_lif m_text m_read m_down m_min m_walk m_gone m_flow m_lik m_str m_from m_to m_rain m_tell m_fy m_fn m_finds m_abv m_apart m_few m_mean m_soon m_kinds m_len m_rm m_there m_lift m_blank m_fm m_at m_pl m_end m_seed sL sT sF sU fC fS fM fT fY ad C H locs ls cells slots (by omega) (by omega) hI hAd hP hS h0 h1 h2 h3 h4 h5 h6 h7 h8 h9 h10 h11 h12 h13 h14 h15 h16 h17 h18 h19 h20 h21 h22 h23 h60 h61 h65 h66 h77 h78 h79 h80 h81 h82 h83 h84 h86 h87 h88 h89 h90 h91 h92 h93 h94 h95 h96 h97 h98 h99 h100 h101 h102 h103 h104 h105 h106 h107 h108 hF_ hS_ (lv_sub hl [1, 2, 3, 0] rfl) hf
        · have hf := ie_e c70 hf
          refine lv_iconst (v := 0) hx hb dL_law_341 (by decide) ?_
          exact absurd (Option.some.inj hf) (by decide)
      have hf := ie_e c63 hf
      by_cases c72 : x4 = 7
      · have hf := it_e c72 hf
        refine lv_tableIn (tgt := 343) hx hb dL_law_33 (by rw [c72]; decide) (by rw [c72]; decide) (by rw [c72]; rfl) (by decide) ?_
        refine lv_aload_n hx hb dL_law_343 rfl (lv_at hl 1 rfl) ?_
        refine lv_aload_n hx hb dL_law_344 rfl (lv_at hl 0 rfl) ?_
        refine lv_iload_n hx hb dL_law_345 rfl (lv_at hl 3 rfl) ?_
        refine lv_iconst (v := 1) hx hb dL_law_346 (by decide) ?_
        refine lv_iadd hx hb dL_law_347 ?_
        obtain ⟨i74, x73, ex73, hf⟩ := ri_e hf
        refine va_sld hx hb hX hbl hbA hS i74 dL_law_348 ?_
        refine tp_i ex73 ?_
        refine lv_aload_n hx hb dL_law_349 rfl (lv_at hl 0 rfl) ?_
        refine lv_iload_n hx hb dL_law_350 rfl (lv_at hl 3 rfl) ?_
        refine lv_iconst (v := 2) hx hb dL_law_351 (by decide) ?_
        refine lv_iadd hx hb dL_law_352 ?_
        obtain ⟨i76, x75, ex75, hf⟩ := ri_e hf
        refine va_sld hx hb hX hbl hbA hS i76 dL_law_353 ?_
        refine tp_i ex75 ?_
        obtain ⟨q77, hq77, hf⟩ := bd_e hf
        refine k_iR (va_runV (C := RX10) (As := [.int x73, .int x75]) (rest := []) ⟨hx, hb, hml, hown, hts⟩ (c_X10_walk (l := l) (sz := H.size) (p0 := x73) (p1 := x75) (by omega : 86 ≤ N) h0 h5 h6 h8 h19 hq77) (cwV 2 hts gLV_X10_walk rfl rfl rfl (by decide +kernel) ⟨Nat.le_of_ble_eq_true rfl, Nat.le_of_ble_eq_true rfl⟩) (preV_of hK hP (by omega) h0 rfl) rfl rfl hl.1 rfl (lv_room (Nat.le_of_ble_eq_true rfl)) dL_law_354 ⟨fit1 (by omega), fit2 (by omega)⟩) hA hP hS (fun H locs hP hS hbz_q77 => ?_)
        refine lv_aload_n hx hb dL_law_357 rfl (lv_at hl 2 rfl) ?_
        refine lv_aload_n hx hb dL_law_358 rfl (lv_at hl 0 rfl) ?_
        refine lv_iload_n hx hb dL_law_359 rfl (lv_at hl 3 rfl) ?_
        refine lv_iconst (v := 1) hx hb dL_law_360 (by decide) ?_
        refine lv_iadd hx hb dL_law_361 ?_
        obtain ⟨i79, x78, ex78, hf⟩ := ri_e hf
        refine va_sld hx hb hX hbl hbA hS i79 dL_law_362 ?_
        refine tp_i ex78 ?_
        refine lv_aload_n hx hb dL_law_363 rfl (lv_at hl 0 rfl) ?_
        refine lv_iload_n hx hb dL_law_364 rfl (lv_at hl 3 rfl) ?_
        refine lv_iconst (v := 2) hx hb dL_law_365 (by decide) ?_
        refine lv_iadd hx hb dL_law_366 ?_
        obtain ⟨i81, x80, ex80, hf⟩ := ri_e hf
        refine va_sld hx hb hX hbl hbA hS i81 dL_law_367 ?_
        refine tp_i ex80 ?_
        obtain ⟨q82, hq82, hf⟩ := bd_e hf
        refine k_iR (va_runV (C := RX11) (As := [.int x78, .int x80]) (rest := [.int q77]) ⟨hx, hb, hml, hown, hts⟩ (c_X11_walk (l := l) (sz := H.size) (p0 := x78) (p1 := x80) (by omega : 109 ≤ N) h86 h89 h91 hq82) (cwV 2 hts gLV_X11_walk rfl rfl rfl (by decide +kernel) ⟨Nat.le_of_ble_eq_true rfl, Nat.le_of_ble_eq_true rfl⟩) (preV_of hK hP (by omega) h86 rfl) rfl rfl hl.1 rfl (lv_room (Nat.le_of_ble_eq_true rfl)) dL_law_368 ⟨fit1 (by omega), fit2 (by omega)⟩) hA hP hS (fun H locs hP hS hbz_q82 => ?_)
        refine lv_icmp_eq (tgt := 1069) hx hb dL_law_371 (by decide) (fun c83 => ?_) (fun c83 => ?_)
        · have hf := it_e c83 hf
          obtain ⟨x84, ex84, hf⟩ := lt_e hf
          refine lv_iinc (v := x84) (lv' := [(3, .int x84), (0, .ref b), (1, .ref (ad 0)), (2, .ref (ad 86))]) hx hb dL_law_1069 hl (k := 3) rfl (by rw [ex84]; rfl) (by decide) rfl (fun ls hl => ?_)
          refine lv_goto (tgt := 18) hx hb dL_law_1072 (by decide) ?_
          exact ih x84 tx_len tx_lines tx_ts tx_te tx_b tx_k tx_n t_down t_min t_pac t_gone t_infl t_lik t_str t_from t_unt t_rain t_tell t_wy t_wn t_there t_lift t_none w_src w_over wa_g th_none th_all1 th_all2 th_k1 th_k2 th_size th_one th_two h_solved h_few h_sum h_min hn1 hn2 hn3 l_kinds l_unl d_seed d_min d_gue d_src d_lif m_text m_read m_down m_min m_walk m_gone m_flow m_lik m_str m_from m_to m_rain m_tell m_fy m_fn m_finds m_abv m_apart m_few m_mean m_soon m_kinds m_len m_rm m_there m_lift m_blank m_fm m_at m_pl m_end m_seed sL sT sF sU fC fS fM fT fY ad C H locs ls cells slots (by omega) (by omega) hI hAd hP hS h0 h1 h2 h3 h4 h5 h6 h7 h8 h9 h10 h11 h12 h13 h14 h15 h16 h17 h18 h19 h20 h21 h22 h23 h60 h61 h65 h66 h77 h78 h79 h80 h81 h82 h83 h84 h86 h87 h88 h89 h90 h91 h92 h93 h94 h95 h96 h97 h98 h99 h100 h101 h102 h103 h104 h105 h106 h107 h108 hF_ hS_ (lv_sub hl [1, 2, 3, 0] rfl) hf
        · have hf := ie_e c83 hf
          refine lv_iconst (v := 0) hx hb dL_law_374 (by decide) ?_
          exact absurd (Option.some.inj hf) (by decide)
      have hf := ie_e c72 hf
      by_cases c85 : x4 = 8
      · have hf := it_e c85 hf
        refine lv_tableIn (tgt := 376) hx hb dL_law_33 (by rw [c85]; decide) (by rw [c85]; decide) (by rw [c85]; rfl) (by decide) ?_
        refine lv_aload_n hx hb dL_law_376 rfl (lv_at hl 1 rfl) ?_
        refine lv_aload_n hx hb dL_law_377 rfl (lv_at hl 0 rfl) ?_
        refine lv_iload_n hx hb dL_law_378 rfl (lv_at hl 3 rfl) ?_
        refine lv_iconst (v := 1) hx hb dL_law_379 (by decide) ?_
        refine lv_iadd hx hb dL_law_380 ?_
        obtain ⟨i87, x86, ex86, hf⟩ := ri_e hf
        refine va_sld hx hb hX hbl hbA hS i87 dL_law_381 ?_
        refine tp_i ex86 ?_
        refine lv_aload_n hx hb dL_law_382 rfl (lv_at hl 0 rfl) ?_
        refine lv_iload_n hx hb dL_law_383 rfl (lv_at hl 3 rfl) ?_
        refine lv_iconst (v := 2) hx hb dL_law_384 (by decide) ?_
        refine lv_iadd hx hb dL_law_385 ?_
        obtain ⟨i89, x88, ex88, hf⟩ := ri_e hf
        refine va_sld hx hb hX hbl hbA hS i89 dL_law_386 ?_
        refine tp_i ex88 ?_
        obtain ⟨q90, hq90, hf⟩ := bd_e hf
        refine k_iR (va_runV (C := RX10) (As := [.int x86, .int x88]) (rest := []) ⟨hx, hb, hml, hown, hts⟩ (c_X10_flow (l := l) (sz := H.size) (p0 := x86) (p1 := x88) (by omega : 86 ≤ N) h0 h5 h15 h21 h22 hq90) (cwV 2 hts gLV_X10_flow rfl rfl rfl (by decide +kernel) ⟨Nat.le_of_ble_eq_true rfl, Nat.le_of_ble_eq_true rfl⟩) (preV_of hK hP (by omega) h0 rfl) rfl rfl hl.1 rfl (lv_room (Nat.le_of_ble_eq_true rfl)) dL_law_387 ⟨fit1 (by omega), fit2 (by omega)⟩) hA hP hS (fun H locs hP hS hbz_q90 => ?_)
        refine lv_aload_n hx hb dL_law_390 rfl (lv_at hl 2 rfl) ?_
        refine lv_aload_n hx hb dL_law_391 rfl (lv_at hl 0 rfl) ?_
        refine lv_iload_n hx hb dL_law_392 rfl (lv_at hl 3 rfl) ?_
        refine lv_iconst (v := 1) hx hb dL_law_393 (by decide) ?_
        refine lv_iadd hx hb dL_law_394 ?_
        obtain ⟨i92, x91, ex91, hf⟩ := ri_e hf
        refine va_sld hx hb hX hbl hbA hS i92 dL_law_395 ?_
        refine tp_i ex91 ?_
        refine lv_aload_n hx hb dL_law_396 rfl (lv_at hl 0 rfl) ?_
        refine lv_iload_n hx hb dL_law_397 rfl (lv_at hl 3 rfl) ?_
        refine lv_iconst (v := 2) hx hb dL_law_398 (by decide) ?_
        refine lv_iadd hx hb dL_law_399 ?_
        obtain ⟨i94, x93, ex93, hf⟩ := ri_e hf
        refine va_sld hx hb hX hbl hbA hS i94 dL_law_400 ?_
        refine tp_i ex93 ?_
        obtain ⟨q95, hq95, hf⟩ := bd_e hf
        refine k_iR (va_runV (C := RX11) (As := [.int x91, .int x93]) (rest := [.int q90]) ⟨hx, hb, hml, hown, hts⟩ (c_X11_flow (l := l) (sz := H.size) (p0 := x91) (p1 := x93) (by omega : 109 ≤ N) h86 h89 h93 h98 hq95) (cwV 2 hts gLV_X11_flow rfl rfl rfl (by decide +kernel) ⟨Nat.le_of_ble_eq_true rfl, Nat.le_of_ble_eq_true rfl⟩) (preV_of hK hP (by omega) h86 rfl) rfl rfl hl.1 rfl (lv_room (Nat.le_of_ble_eq_true rfl)) dL_law_401 ⟨fit1 (by omega), fit2 (by omega)⟩) hA hP hS (fun H locs hP hS hbz_q95 => ?_)
        refine lv_icmp_eq (tgt := 1069) hx hb dL_law_404 (by decide) (fun c96 => ?_) (fun c96 => ?_)
        · have hf := it_e c96 hf
          obtain ⟨x97, ex97, hf⟩ := lt_e hf
          refine lv_iinc (v := x97) (lv' := [(3, .int x97), (0, .ref b), (1, .ref (ad 0)), (2, .ref (ad 86))]) hx hb dL_law_1069 hl (k := 3) rfl (by rw [ex97]; rfl) (by decide) rfl (fun ls hl => ?_)
          refine lv_goto (tgt := 18) hx hb dL_law_1072 (by decide) ?_
          exact ih x97 tx_len tx_lines tx_ts tx_te tx_b tx_k tx_n t_down t_min t_pac t_gone t_infl t_lik t_str t_from t_unt t_rain t_tell t_wy t_wn t_there t_lift t_none w_src w_over wa_g th_none th_all1 th_all2 th_k1 th_k2 th_size th_one th_two h_solved h_few h_sum h_min hn1 hn2 hn3 l_kinds l_unl d_seed d_min d_gue d_src d_lif m_text m_read m_down m_min m_walk m_gone m_flow m_lik m_str m_from m_to m_rain m_tell m_fy m_fn m_finds m_abv m_apart m_few m_mean m_soon m_kinds m_len m_rm m_there m_lift m_blank m_fm m_at m_pl m_end m_seed sL sT sF sU fC fS fM fT fY ad C H locs ls cells slots (by omega) (by omega) hI hAd hP hS h0 h1 h2 h3 h4 h5 h6 h7 h8 h9 h10 h11 h12 h13 h14 h15 h16 h17 h18 h19 h20 h21 h22 h23 h60 h61 h65 h66 h77 h78 h79 h80 h81 h82 h83 h84 h86 h87 h88 h89 h90 h91 h92 h93 h94 h95 h96 h97 h98 h99 h100 h101 h102 h103 h104 h105 h106 h107 h108 hF_ hS_ (lv_sub hl [1, 2, 3, 0] rfl) hf
        · have hf := ie_e c96 hf
          refine lv_iconst (v := 0) hx hb dL_law_407 (by decide) ?_
          exact absurd (Option.some.inj hf) (by decide)
      have hf := ie_e c85 hf
      by_cases c98 : x4 = 9
      · have hf := it_e c98 hf
        refine lv_tableIn (tgt := 409) hx hb dL_law_33 (by rw [c98]; decide) (by rw [c98]; decide) (by rw [c98]; rfl) (by decide) ?_
        refine lv_aload_n hx hb dL_law_409 rfl (lv_at hl 1 rfl) ?_
        refine lv_aload_n hx hb dL_law_410 rfl (lv_at hl 0 rfl) ?_
        refine lv_iload_n hx hb dL_law_411 rfl (lv_at hl 3 rfl) ?_
        refine lv_iconst (v := 1) hx hb dL_law_412 (by decide) ?_
        refine lv_iadd hx hb dL_law_413 ?_
        obtain ⟨i100, x99, ex99, hf⟩ := ri_e hf
        refine va_sld hx hb hX hbl hbA hS i100 dL_law_414 ?_
        refine tp_i ex99 ?_
        refine lv_aload_n hx hb dL_law_415 rfl (lv_at hl 0 rfl) ?_
        refine lv_iload_n hx hb dL_law_416 rfl (lv_at hl 3 rfl) ?_
        refine lv_iconst (v := 2) hx hb dL_law_417 (by decide) ?_
        refine lv_iadd hx hb dL_law_418 ?_
        obtain ⟨i102, x101, ex101, hf⟩ := ri_e hf
        refine va_sld hx hb hX hbl hbA hS i102 dL_law_419 ?_
        refine tp_i ex101 ?_
        refine lv_aload_n hx hb dL_law_420 rfl (lv_at hl 0 rfl) ?_
        refine lv_iload_n hx hb dL_law_421 rfl (lv_at hl 3 rfl) ?_
        refine lv_iconst (v := 3) hx hb dL_law_422 (by decide) ?_
        refine lv_iadd hx hb dL_law_423 ?_
        obtain ⟨i104, x103, ex103, hf⟩ := ri_e hf
        refine va_sld hx hb hX hbl hbA hS i104 dL_law_424 ?_
        refine tp_i ex103 ?_
        refine lv_aload_n hx hb dL_law_425 rfl (lv_at hl 0 rfl) ?_
        refine lv_iload_n hx hb dL_law_426 rfl (lv_at hl 3 rfl) ?_
        refine lv_iconst (v := 4) hx hb dL_law_427 (by decide) ?_
        refine lv_iadd hx hb dL_law_428 ?_
        obtain ⟨i106, x105, ex105, hf⟩ := ri_e hf
        refine va_sld hx hb hX hbl hbA hS i106 dL_law_429 ?_
        refine tp_i ex105 ?_
        obtain ⟨q107, hq107, hf⟩ := bd_e hf
        refine k_iR (va_runV (C := RX10) (As := [.int x99, .int x101, .int x103, .int x105]) (rest := []) ⟨hx, hb, hml, hown, hts⟩ (c_X10_comes (l := l) (sz := H.size) (p0 := x99) (p1 := x101) (p2 := x103) (p3 := x105) (by omega : 86 ≤ N) h0 h5 h15 h21 h22 h23 hS_ hq107) (cwV 4 hts gLV_X10_comes rfl rfl rfl (by decide +kernel) ⟨Nat.le_of_ble_eq_true rfl, Nat.le_of_ble_eq_true rfl⟩) (preV_of hK hP (by omega) h0 rfl) rfl rfl hl.1 rfl (lv_room (Nat.le_of_ble_eq_true rfl)) dL_law_430 ⟨fit1 (by omega), fit2 (by omega)⟩) hA hP hS (fun H locs hP hS hbz_q107 => ?_)
        refine lv_aload_n hx hb dL_law_433 rfl (lv_at hl 2 rfl) ?_
        refine lv_aload_n hx hb dL_law_434 rfl (lv_at hl 0 rfl) ?_
        refine lv_iload_n hx hb dL_law_435 rfl (lv_at hl 3 rfl) ?_
        refine lv_iconst (v := 1) hx hb dL_law_436 (by decide) ?_
        refine lv_iadd hx hb dL_law_437 ?_
        obtain ⟨i109, x108, ex108, hf⟩ := ri_e hf
        refine va_sld hx hb hX hbl hbA hS i109 dL_law_438 ?_
        refine tp_i ex108 ?_
        refine lv_aload_n hx hb dL_law_439 rfl (lv_at hl 0 rfl) ?_
        refine lv_iload_n hx hb dL_law_440 rfl (lv_at hl 3 rfl) ?_
        refine lv_iconst (v := 2) hx hb dL_law_441 (by decide) ?_
        refine lv_iadd hx hb dL_law_442 ?_
        obtain ⟨i111, x110, ex110, hf⟩ := ri_e hf
        refine va_sld hx hb hX hbl hbA hS i111 dL_law_443 ?_
        refine tp_i ex110 ?_
        refine lv_aload_n hx hb dL_law_444 rfl (lv_at hl 0 rfl) ?_
        refine lv_iload_n hx hb dL_law_445 rfl (lv_at hl 3 rfl) ?_
        refine lv_iconst (v := 3) hx hb dL_law_446 (by decide) ?_
        refine lv_iadd hx hb dL_law_447 ?_
        obtain ⟨i113, x112, ex112, hf⟩ := ri_e hf
        refine va_sld hx hb hX hbl hbA hS i113 dL_law_448 ?_
        refine tp_i ex112 ?_
        refine lv_aload_n hx hb dL_law_449 rfl (lv_at hl 0 rfl) ?_
        refine lv_iload_n hx hb dL_law_450 rfl (lv_at hl 3 rfl) ?_
        refine lv_iconst (v := 4) hx hb dL_law_451 (by decide) ?_
        refine lv_iadd hx hb dL_law_452 ?_
        obtain ⟨i115, x114, ex114, hf⟩ := ri_e hf
        refine va_sld hx hb hX hbl hbA hS i115 dL_law_453 ?_
        refine tp_i ex114 ?_
        obtain ⟨q116, hq116, hf⟩ := bd_e hf
        refine k_iR (va_runV (C := RX11) (As := [.int x108, .int x110, .int x112, .int x114]) (rest := [.int q107]) ⟨hx, hb, hml, hown, hts⟩ (c_X11_comes (l := l) (sz := H.size) (p0 := x108) (p1 := x110) (p2 := x112) (p3 := x114) (by omega : 109 ≤ N) h86 h89 h90 h92 h93 h95 h96 h97 h98 hq116) (cwV 4 hts gLV_X11_comes rfl rfl rfl (by decide +kernel) ⟨Nat.le_of_ble_eq_true rfl, Nat.le_of_ble_eq_true rfl⟩) (preV_of hK hP (by omega) h86 rfl) rfl rfl hl.1 rfl (lv_room (Nat.le_of_ble_eq_true rfl)) dL_law_454 ⟨fit1 (by omega), fit2 (by omega)⟩) hA hP hS (fun H locs hP hS hbz_q116 => ?_)
        refine lv_icmp_eq (tgt := 1069) hx hb dL_law_457 (by decide) (fun c117 => ?_) (fun c117 => ?_)
        · have hf := it_e c117 hf
          obtain ⟨x118, ex118, hf⟩ := lt_e hf
          refine lv_iinc (v := x118) (lv' := [(3, .int x118), (0, .ref b), (1, .ref (ad 0)), (2, .ref (ad 86))]) hx hb dL_law_1069 hl (k := 3) rfl (by rw [ex118]; rfl) (by decide) rfl (fun ls hl => ?_)
          refine lv_goto (tgt := 18) hx hb dL_law_1072 (by decide) ?_
          exact ih x118 tx_len tx_lines tx_ts tx_te tx_b tx_k tx_n t_down t_min t_pac t_gone t_infl t_lik t_str t_from t_unt t_rain t_tell t_wy t_wn t_there t_lift t_none w_src w_over wa_g th_none th_all1 th_all2 th_k1 th_k2 th_size th_one th_two h_solved h_few h_sum h_min hn1 hn2 hn3 l_kinds l_unl d_seed d_min d_gue d_src d_lif m_text m_read m_down m_min m_walk m_gone m_flow m_lik m_str m_from m_to m_rain m_tell m_fy m_fn m_finds m_abv m_apart m_few m_mean m_soon m_kinds m_len m_rm m_there m_lift m_blank m_fm m_at m_pl m_end m_seed sL sT sF sU fC fS fM fT fY ad C H locs ls cells slots (by omega) (by omega) hI hAd hP hS h0 h1 h2 h3 h4 h5 h6 h7 h8 h9 h10 h11 h12 h13 h14 h15 h16 h17 h18 h19 h20 h21 h22 h23 h60 h61 h65 h66 h77 h78 h79 h80 h81 h82 h83 h84 h86 h87 h88 h89 h90 h91 h92 h93 h94 h95 h96 h97 h98 h99 h100 h101 h102 h103 h104 h105 h106 h107 h108 hF_ hS_ (lv_sub hl [1, 2, 3, 0] rfl) hf
        · have hf := ie_e c117 hf
          refine lv_iconst (v := 0) hx hb dL_law_460 (by decide) ?_
          exact absurd (Option.some.inj hf) (by decide)
      have hf := ie_e c98 hf
      by_cases c119 : x4 = 10
      · have hf := it_e c119 hf
        refine lv_tableIn (tgt := 462) hx hb dL_law_33 (by rw [c119]; decide) (by rw [c119]; decide) (by rw [c119]; rfl) (by decide) ?_
        refine lv_aload_n hx hb dL_law_462 rfl (lv_at hl 1 rfl) ?_
        refine lv_aload_n hx hb dL_law_463 rfl (lv_at hl 0 rfl) ?_
        refine lv_iload_n hx hb dL_law_464 rfl (lv_at hl 3 rfl) ?_
        refine lv_iconst (v := 1) hx hb dL_law_465 (by decide) ?_
        refine lv_iadd hx hb dL_law_466 ?_
        obtain ⟨i121, x120, ex120, hf⟩ := ri_e hf
        refine va_sld hx hb hX hbl hbA hS i121 dL_law_467 ?_
        refine tp_i ex120 ?_
        refine lv_aload_n hx hb dL_law_468 rfl (lv_at hl 0 rfl) ?_
        refine lv_iload_n hx hb dL_law_469 rfl (lv_at hl 3 rfl) ?_
        refine lv_iconst (v := 2) hx hb dL_law_470 (by decide) ?_
        refine lv_iadd hx hb dL_law_471 ?_
        obtain ⟨i123, x122, ex122, hf⟩ := ri_e hf
        refine va_sld hx hb hX hbl hbA hS i123 dL_law_472 ?_
        refine tp_i ex122 ?_
        refine lv_aload_n hx hb dL_law_473 rfl (lv_at hl 0 rfl) ?_
        refine lv_iload_n hx hb dL_law_474 rfl (lv_at hl 3 rfl) ?_
        refine lv_iconst (v := 3) hx hb dL_law_475 (by decide) ?_
        refine lv_iadd hx hb dL_law_476 ?_
        obtain ⟨i125, x124, ex124, hf⟩ := ri_e hf
        refine va_sld hx hb hX hbl hbA hS i125 dL_law_477 ?_
        refine tp_i ex124 ?_
        refine lv_aload_n hx hb dL_law_478 rfl (lv_at hl 0 rfl) ?_
        refine lv_iload_n hx hb dL_law_479 rfl (lv_at hl 3 rfl) ?_
        refine lv_iconst (v := 4) hx hb dL_law_480 (by decide) ?_
        refine lv_iadd hx hb dL_law_481 ?_
        obtain ⟨i127, x126, ex126, hf⟩ := ri_e hf
        refine va_sld hx hb hX hbl hbA hS i127 dL_law_482 ?_
        refine tp_i ex126 ?_
        refine lv_aload_n hx hb dL_law_483 rfl (lv_at hl 0 rfl) ?_
        refine lv_iload_n hx hb dL_law_484 rfl (lv_at hl 3 rfl) ?_
        refine lv_iconst (v := 5) hx hb dL_law_485 (by decide) ?_
        refine lv_iadd hx hb dL_law_486 ?_
        obtain ⟨i129, x128, ex128, hf⟩ := ri_e hf
        refine va_sld hx hb hX hbl hbA hS i129 dL_law_487 ?_
        refine tp_i ex128 ?_
        obtain ⟨q130, hq130, hf⟩ := bd_e hf
        refine k_iW (va_runV (C := RX10) (As := [.int x120, .int x122, .int x124, .int x126, .int x128]) (rest := []) ⟨hx, hb, hml, hown, hts⟩ (c_X10_should (l := l) (sz := H.size) (p0 := x120) (p1 := x122) (p2 := x124) (p3 := x126) (p4 := x128) (by omega : 86 ≤ N) hI h0 h5 h15 h16 h21 h22 h23 hF_ hS_ hq130) (cwV 5 hts gLV_X10_should rfl rfl rfl (by decide +kernel) ⟨Nat.le_of_ble_eq_true rfl, Nat.le_of_ble_eq_true rfl⟩) (preV_of hK hP (by omega) h0 rfl) rfl rfl hl.1 rfl (lv_room (Nat.le_of_ble_eq_true rfl)) dL_law_488 ⟨fit1 (by omega), fit2 (by omega)⟩) hA hAd hS (fun C H locs hP hS hpo hbz_q130 => ?_)
        obtain ⟨he, hF_⟩ := hpo
        have h0 := (he 0 (by decide)).trans h0
        have h1 := (he 1 (by decide)).trans h1
        have h2 := (he 2 (by decide)).trans h2
        have h3 := (he 3 (by decide)).trans h3
        have h4 := (he 4 (by decide)).trans h4
        have h5 := (he 5 (by decide)).trans h5
        have h6 := (he 6 (by decide)).trans h6
        have h7 := (he 7 (by decide)).trans h7
        have h8 := (he 8 (by decide)).trans h8
        have h9 := (he 9 (by decide)).trans h9
        have h10 := (he 10 (by decide)).trans h10
        have h11 := (he 11 (by decide)).trans h11
        have h12 := (he 12 (by decide)).trans h12
        have h13 := (he 13 (by decide)).trans h13
        have h14 := (he 14 (by decide)).trans h14
        have h15 := (he 15 (by decide)).trans h15
        have h16 := (he 16 (by decide)).trans h16
        have h17 := (he 17 (by decide)).trans h17
        have h18 := (he 18 (by decide)).trans h18
        have h19 := (he 19 (by decide)).trans h19
        have h20 := (he 20 (by decide)).trans h20
        have h21 := (he 21 (by decide)).trans h21
        have h22 := (he 22 (by decide)).trans h22
        have h23 := (he 23 (by decide)).trans h23
        have h60 := (he 60 (by decide)).trans h60
        have h61 := (he 61 (by decide)).trans h61
        have h65 := (he 65 (by decide)).trans h65
        have h66 := (he 66 (by decide)).trans h66
        have h77 := (he 77 (by decide)).trans h77
        have h78 := (he 78 (by decide)).trans h78
        have h79 := (he 79 (by decide)).trans h79
        have h80 := (he 80 (by decide)).trans h80
        have h81 := (he 81 (by decide)).trans h81
        have h82 := (he 82 (by decide)).trans h82
        have h83 := (he 83 (by decide)).trans h83
        have h84 := (he 84 (by decide)).trans h84
        have h86 := (he 86 (by decide)).trans h86
        have h87 := (he 87 (by decide)).trans h87
        have h88 := (he 88 (by decide)).trans h88
        have h89 := (he 89 (by decide)).trans h89
        have h90 := (he 90 (by decide)).trans h90
        have h91 := (he 91 (by decide)).trans h91
        have h92 := (he 92 (by decide)).trans h92
        have h93 := (he 93 (by decide)).trans h93
        have h94 := (he 94 (by decide)).trans h94
        have h95 := (he 95 (by decide)).trans h95
        have h96 := (he 96 (by decide)).trans h96
        have h97 := (he 97 (by decide)).trans h97
        have h98 := (he 98 (by decide)).trans h98
        have h99 := (he 99 (by decide)).trans h99
        have h100 := (he 100 (by decide)).trans h100
        have h101 := (he 101 (by decide)).trans h101
        have h102 := (he 102 (by decide)).trans h102
        have h103 := (he 103 (by decide)).trans h103
        have h104 := (he 104 (by decide)).trans h104
        have h105 := (he 105 (by decide)).trans h105
        have h106 := (he 106 (by decide)).trans h106
        have h107 := (he 107 (by decide)).trans h107
        have h108 := (he 108 (by decide)).trans h108
        have hS_ := hS_.ne (fun i h1 h2 => he i (by omega))
        refine lv_aload_n hx hb dL_law_491 rfl (lv_at hl 2 rfl) ?_
        refine lv_aload_n hx hb dL_law_492 rfl (lv_at hl 0 rfl) ?_
        refine lv_iload_n hx hb dL_law_493 rfl (lv_at hl 3 rfl) ?_
        refine lv_iconst (v := 1) hx hb dL_law_494 (by decide) ?_
        refine lv_iadd hx hb dL_law_495 ?_
        obtain ⟨i132, x131, ex131, hf⟩ := ri_e hf
        refine va_sld hx hb hX hbl hbA hS i132 dL_law_496 ?_
        refine tp_i ex131 ?_
        refine lv_aload_n hx hb dL_law_497 rfl (lv_at hl 0 rfl) ?_
        refine lv_iload_n hx hb dL_law_498 rfl (lv_at hl 3 rfl) ?_
        refine lv_iconst (v := 2) hx hb dL_law_499 (by decide) ?_
        refine lv_iadd hx hb dL_law_500 ?_
        obtain ⟨i134, x133, ex133, hf⟩ := ri_e hf
        refine va_sld hx hb hX hbl hbA hS i134 dL_law_501 ?_
        refine tp_i ex133 ?_
        refine lv_aload_n hx hb dL_law_502 rfl (lv_at hl 0 rfl) ?_
        refine lv_iload_n hx hb dL_law_503 rfl (lv_at hl 3 rfl) ?_
        refine lv_iconst (v := 3) hx hb dL_law_504 (by decide) ?_
        refine lv_iadd hx hb dL_law_505 ?_
        obtain ⟨i136, x135, ex135, hf⟩ := ri_e hf
        refine va_sld hx hb hX hbl hbA hS i136 dL_law_506 ?_
        refine tp_i ex135 ?_
        refine lv_aload_n hx hb dL_law_507 rfl (lv_at hl 0 rfl) ?_
        refine lv_iload_n hx hb dL_law_508 rfl (lv_at hl 3 rfl) ?_
        refine lv_iconst (v := 4) hx hb dL_law_509 (by decide) ?_
        refine lv_iadd hx hb dL_law_510 ?_
        obtain ⟨i138, x137, ex137, hf⟩ := ri_e hf
        refine va_sld hx hb hX hbl hbA hS i138 dL_law_511 ?_
        refine tp_i ex137 ?_
        refine lv_aload_n hx hb dL_law_512 rfl (lv_at hl 0 rfl) ?_
        refine lv_iload_n hx hb dL_law_513 rfl (lv_at hl 3 rfl) ?_
        refine lv_iconst (v := 5) hx hb dL_law_514 (by decide) ?_
        refine lv_iadd hx hb dL_law_515 ?_
        obtain ⟨i140, x139, ex139, hf⟩ := ri_e hf
        refine va_sld hx hb hX hbl hbA hS i140 dL_law_516 ?_
        refine tp_i ex139 ?_
        obtain ⟨q141, hq141, hf⟩ := bd_e hf
        refine k_iR (va_runV (C := RX11) (As := [.int x131, .int x133, .int x135, .int x137, .int x139]) (rest := [.int q130.1]) ⟨hx, hb, hml, hown, hts⟩ (c_X11_should (l := l) (sz := H.size) (p0 := x131) (p1 := x133) (p2 := x135) (p3 := x137) (p4 := x139) (by omega : 109 ≤ N) h86 h89 h90 h92 h93 h95 h96 h97 h98 h99 hq141) (cwV 5 hts gLV_X11_should rfl rfl rfl (by decide +kernel) ⟨Nat.le_of_ble_eq_true rfl, Nat.le_of_ble_eq_true rfl⟩) (preV_of hK hP (by omega) h86 rfl) rfl rfl hl.1 rfl (lv_room (Nat.le_of_ble_eq_true rfl)) dL_law_517 ⟨fit1 (by omega), fit2 (by omega)⟩) hA hP hS (fun H locs hP hS hbz_q141 => ?_)
        refine lv_icmp_eq (tgt := 1069) hx hb dL_law_520 (by decide) (fun c142 => ?_) (fun c142 => ?_)
        · have hf := it_e c142 hf
          obtain ⟨x143, ex143, hf⟩ := lt_e hf
          refine lv_iinc (v := x143) (lv' := [(3, .int x143), (0, .ref b), (1, .ref (ad 0)), (2, .ref (ad 86))]) hx hb dL_law_1069 hl (k := 3) rfl (by rw [ex143]; rfl) (by decide) rfl (fun ls hl => ?_)
          refine lv_goto (tgt := 18) hx hb dL_law_1072 (by decide) ?_
          exact ih x143 tx_len tx_lines tx_ts tx_te tx_b tx_k tx_n t_down t_min t_pac t_gone t_infl t_lik t_str t_from t_unt t_rain t_tell t_wy t_wn t_there t_lift t_none w_src w_over wa_g th_none th_all1 th_all2 th_k1 th_k2 th_size th_one th_two h_solved h_few h_sum h_min hn1 hn2 hn3 l_kinds l_unl d_seed d_min d_gue d_src d_lif m_text m_read m_down m_min m_walk m_gone m_flow m_lik m_str m_from m_to m_rain m_tell m_fy m_fn m_finds m_abv m_apart m_few m_mean m_soon m_kinds m_len m_rm m_there m_lift m_blank m_fm m_at m_pl m_end m_seed sL sT sF sU q130.2.1 q130.2.2.1 q130.2.2.2.1 q130.2.2.2.2.1 q130.2.2.2.2.2 ad C H locs ls cells slots (by omega) (by omega) hI hAd hP hS h0 h1 h2 h3 h4 h5 h6 h7 h8 h9 h10 h11 h12 h13 h14 h15 h16 h17 h18 h19 h20 h21 h22 h23 h60 h61 h65 h66 h77 h78 h79 h80 h81 h82 h83 h84 h86 h87 h88 h89 h90 h91 h92 h93 h94 h95 h96 h97 h98 h99 h100 h101 h102 h103 h104 h105 h106 h107 h108 hF_ hS_ (lv_sub hl [1, 2, 3, 0] rfl) hf
        · have hf := ie_e c142 hf
          refine lv_iconst (v := 0) hx hb dL_law_523 (by decide) ?_
          exact absurd (Option.some.inj hf) (by decide)
      have hf := ie_e c119 hf
      by_cases c144 : x4 = 11
      · have hf := it_e c144 hf
        refine lv_tableIn (tgt := 525) hx hb dL_law_33 (by rw [c144]; decide) (by rw [c144]; decide) (by rw [c144]; rfl) (by decide) ?_
        refine lv_aload_n hx hb dL_law_525 rfl (lv_at hl 1 rfl) ?_
        refine lv_aload_n hx hb dL_law_526 rfl (lv_at hl 0 rfl) ?_
        refine lv_iload_n hx hb dL_law_527 rfl (lv_at hl 3 rfl) ?_
        refine lv_iconst (v := 1) hx hb dL_law_528 (by decide) ?_
        refine lv_iadd hx hb dL_law_529 ?_
        obtain ⟨i146, x145, ex145, hf⟩ := ri_e hf
        refine va_sld hx hb hX hbl hbA hS i146 dL_law_530 ?_
        refine tp_i ex145 ?_
        refine lv_aload_n hx hb dL_law_531 rfl (lv_at hl 0 rfl) ?_
        refine lv_iload_n hx hb dL_law_532 rfl (lv_at hl 3 rfl) ?_
        refine lv_iconst (v := 2) hx hb dL_law_533 (by decide) ?_
        refine lv_iadd hx hb dL_law_534 ?_
        obtain ⟨i148, x147, ex147, hf⟩ := ri_e hf
        refine va_sld hx hb hX hbl hbA hS i148 dL_law_535 ?_
        refine tp_i ex147 ?_
        refine lv_aload_n hx hb dL_law_536 rfl (lv_at hl 0 rfl) ?_
        refine lv_iload_n hx hb dL_law_537 rfl (lv_at hl 3 rfl) ?_
        refine lv_iconst (v := 3) hx hb dL_law_538 (by decide) ?_
        refine lv_iadd hx hb dL_law_539 ?_
        obtain ⟨i150, x149, ex149, hf⟩ := ri_e hf
        refine va_sld hx hb hX hbl hbA hS i150 dL_law_540 ?_
        refine tp_i ex149 ?_
        refine lv_aload_n hx hb dL_law_541 rfl (lv_at hl 0 rfl) ?_
        refine lv_iload_n hx hb dL_law_542 rfl (lv_at hl 3 rfl) ?_
        refine lv_iconst (v := 4) hx hb dL_law_543 (by decide) ?_
        refine lv_iadd hx hb dL_law_544 ?_
        obtain ⟨i152, x151, ex151, hf⟩ := ri_e hf
        refine va_sld hx hb hX hbl hbA hS i152 dL_law_545 ?_
        refine tp_i ex151 ?_
        refine lv_aload_n hx hb dL_law_546 rfl (lv_at hl 0 rfl) ?_
        refine lv_iload_n hx hb dL_law_547 rfl (lv_at hl 3 rfl) ?_
        refine lv_iconst (v := 5) hx hb dL_law_548 (by decide) ?_
        refine lv_iadd hx hb dL_law_549 ?_
        obtain ⟨i154, x153, ex153, hf⟩ := ri_e hf
        refine va_sld hx hb hX hbl hbA hS i154 dL_law_550 ?_
        refine tp_i ex153 ?_
        obtain ⟨q155, htq155, hf⟩ := bd_e hf
        have jnq155 : ∀ (ad : Nat → Nat) (C : Nat → va_E) (H : Heap) (locs : List Loc) (ls : Array Slot), Inj N ad → (∀ j : Nat, j < N → An s.heap.size (ad j)) → va_P D vwCl (wd N ad C) H → va_S (An s.heap.size) s.heap H locs → C 0 = .inr (10, [.ref (ad 1), .ref (ad 5), .ref (ad 19), .ref (ad 21), .ref (ad 60), .ref (ad 77), .ref (ad 81), .ref (ad 84), .ref (ad 85)]) → C 1 = .inr (5, [.ref (ad 2), .ref (ad 3), .ref (ad 4), .int tx_len, .int tx_lines, .int tx_ts, .int tx_te]) → C 2 = aI g 200 tx_b → C 3 = aI g 9 tx_k → C 4 = aI g 45 tx_n → C 5 = .inr (7, [.ref (ad 6), .ref (ad 7), .ref (ad 8), .ref (ad 9), .ref (ad 10), .ref (ad 11), .ref (ad 12), .ref (ad 13), .ref (ad 14), .ref (ad 15), .ref (ad 16), .ref (ad 17), .ref (ad 18), .int t_there, .int t_lift, .int t_none]) → C 6 = aI g 12 t_down → C 7 = aI g 12 t_min → C 8 = aI g 12 t_pac → C 9 = aI g 12 t_gone → C 10 = aI g 12 t_infl → C 11 = aI g 12 t_lik → C 12 = aI g 12 t_str → C 13 = aI g 12 t_from → C 14 = aI g 12 t_unt → C 15 = aI g 24 t_rain → C 16 = aI g 4 t_tell → C 17 = aI g 4 t_wy → C 18 = aI g 4 t_wn → C 19 = .inr (9, [.ref (ad 5), .ref (ad 20), .int w_src]) → C 20 = aI g 12 w_over → C 21 = .inr (8, [.ref (ad 5), .ref (ad 19), .ref (ad 22), .ref (ad 23)]) → C 22 = aI g 12 wa_g → C 23 = aS g 12 (fun i => if i < 12 then some (ad (24 + 3 * i)) else none) → C 60 = .inr (6, [.ref (ad 5), .ref (ad 19), .ref (ad 21), .ref (ad 61), .ref (ad 62), .ref (ad 65), .ref (ad 66), .long th_none, .long th_all1, .long th_all2, .int th_k1, .int th_k2, .int th_size]) → C 61 = aF g 10 (fun i => if i < 10 then some (ad (67 + i)) else none) → C 65 = aL g 12 th_one → C 66 = aL g 144 th_two → C 77 = .inr (2, [.ref (ad 5), .ref (ad 19), .ref (ad 78), .ref (ad 79), .ref (ad 80), .int h_solved]) → C 78 = aI g hn1 h_few → C 79 = aI g hn2 h_sum → C 80 = aI g hn3 h_min → C 81 = .inr (3, [.ref (ad 5), .ref (ad 19), .ref (ad 82), .ref (ad 83)]) → C 82 = aI g 12 l_kinds → C 83 = aI g 66 l_unl → C 84 = .inr (0, [.ref (ad 5), .ref (ad 19), .ref (ad 77), .int d_seed, .int d_min, .int d_gue, .int d_src, .int d_lif]) → C 86 = .inr (11, [.ref (ad 87), .int m_len, .ref (ad 88), .int m_rm, .int m_there, .ref (ad 89), .ref (ad 90), .ref (ad 91), .ref (ad 92), .ref (ad 93), .ref (ad 94), .ref (ad 95), .ref (ad 96), .ref (ad 97), .ref (ad 98), .ref (ad 99), .ref (ad 100), .ref (ad 101), .int m_lift, .int m_blank, .ref (ad 102), .int m_fm, .int m_at, .int m_pl, .int m_end, .ref (ad 103), .ref (ad 104), .ref (ad 105), .ref (ad 106), .ref (ad 107), .ref (ad 108), .int m_seed]) → C 87 = aI g 200 m_text → C 88 = aI g 54 m_read → C 89 = aI g 12 m_down → C 90 = aI g 12 m_min → C 91 = aI g 12 m_walk → C 92 = aI g 12 m_gone → C 93 = aI g 12 m_flow → C 94 = aI g 12 m_lik → C 95 = aI g 12 m_str → C 96 = aI g 12 m_from → C 97 = aI g 12 m_to → C 98 = aI g 24 m_rain → C 99 = aI g 4 m_tell → C 100 = aI g 4 m_fy → C 101 = aI g 4 m_fn → C 102 = aI g 50 m_finds → C 103 = aI g 12 m_abv → C 104 = aI g 144 m_apart → C 105 = aI g 4096 m_few → C 106 = aI g 4096 m_mean → C 107 = aI g 49152 m_soon → C 108 = aI g 256 m_kinds → PoolF C fC fS fM fT fY → PoolS g ad C sL sT sF sU → lv_has ls 4 [(0, .ref b), (1, .ref (ad 0)), (2, .ref (ad 86)), (3, .int x3)] → W p l e room_1 s m #[Value.ref b] below meth c H locs cells slots (lw_Z below #[Value.ref b] s) (F0 m 559 ls [.int q155, .int x151, .int x149, .int x147, .int x145, .ref (ad 0)]) := by
          intro ad C H locs ls hI hAd hP hS h0 h1 h2 h3 h4 h5 h6 h7 h8 h9 h10 h11 h12 h13 h14 h15 h16 h17 h18 h19 h20 h21 h22 h23 h60 h61 h65 h66 h77 h78 h79 h80 h81 h82 h83 h84 h86 h87 h88 h89 h90 h91 h92 h93 h94 h95 h96 h97 h98 h99 h100 h101 h102 h103 h104 h105 h106 h107 h108 hF_ hS_ hl
          obtain ⟨z157, hf⟩ := bq_e hf
          obtain ⟨q156, hq156, hf⟩ := bd_e hf
          refine k_iW (va_runV (C := RX10) (As := [.int x145, .int x147, .int x149, .int x151, .int q155]) (rest := []) ⟨hx, hb, hml, hown, hts⟩ (c_X10_found (l := l) (sz := H.size) (p0 := x145) (p1 := x147) (p2 := x149) (p3 := x151) (p4 := q155) (by omega : 86 ≤ N) hI z157 h0 h5 h60 h61 hF_ hq156) (cwV 5 hts gLV_X10_found rfl rfl rfl (by decide +kernel) ⟨Nat.le_of_ble_eq_true rfl, Nat.le_of_ble_eq_true rfl⟩) (preV_of hK hP (by omega) h0 rfl) rfl rfl hl.1 rfl (lv_room (Nat.le_of_ble_eq_true rfl)) dL_law_559 ⟨fit1 (by omega), fit2 (by omega)⟩) hA hAd hS (fun C H locs hP hS hpo hbz_q156 => ?_)
          obtain ⟨he, h60, hF_⟩ := hpo
          have h0 := (he 0 (by decide)).trans h0
          have h1 := (he 1 (by decide)).trans h1
          have h2 := (he 2 (by decide)).trans h2
          have h3 := (he 3 (by decide)).trans h3
          have h4 := (he 4 (by decide)).trans h4
          have h5 := (he 5 (by decide)).trans h5
          have h6 := (he 6 (by decide)).trans h6
          have h7 := (he 7 (by decide)).trans h7
          have h8 := (he 8 (by decide)).trans h8
          have h9 := (he 9 (by decide)).trans h9
          have h10 := (he 10 (by decide)).trans h10
          have h11 := (he 11 (by decide)).trans h11
          have h12 := (he 12 (by decide)).trans h12
          have h13 := (he 13 (by decide)).trans h13
          have h14 := (he 14 (by decide)).trans h14
          have h15 := (he 15 (by decide)).trans h15
          have h16 := (he 16 (by decide)).trans h16
          have h17 := (he 17 (by decide)).trans h17
          have h18 := (he 18 (by decide)).trans h18
          have h19 := (he 19 (by decide)).trans h19
          have h20 := (he 20 (by decide)).trans h20
          have h21 := (he 21 (by decide)).trans h21
          have h22 := (he 22 (by decide)).trans h22
          have h23 := (he 23 (by decide)).trans h23
          have h61 := (he 61 (by decide)).trans h61
          have h65 := (he 65 (by decide)).trans h65
          have h66 := (he 66 (by decide)).trans h66
          have h77 := (he 77 (by decide)).trans h77
          have h78 := (he 78 (by decide)).trans h78
          have h79 := (he 79 (by decide)).trans h79
          have h80 := (he 80 (by decide)).trans h80
          have h81 := (he 81 (by decide)).trans h81
          have h82 := (he 82 (by decide)).trans h82
          have h83 := (he 83 (by decide)).trans h83
          have h84 := (he 84 (by decide)).trans h84
          have h86 := (he 86 (by decide)).trans h86
          have h87 := (he 87 (by decide)).trans h87
          have h88 := (he 88 (by decide)).trans h88
          have h89 := (he 89 (by decide)).trans h89
          have h90 := (he 90 (by decide)).trans h90
          have h91 := (he 91 (by decide)).trans h91
          have h92 := (he 92 (by decide)).trans h92
          have h93 := (he 93 (by decide)).trans h93
          have h94 := (he 94 (by decide)).trans h94
          have h95 := (he 95 (by decide)).trans h95
          have h96 := (he 96 (by decide)).trans h96
          have h97 := (he 97 (by decide)).trans h97
          have h98 := (he 98 (by decide)).trans h98
          have h99 := (he 99 (by decide)).trans h99
          have h100 := (he 100 (by decide)).trans h100
          have h101 := (he 101 (by decide)).trans h101
          have h102 := (he 102 (by decide)).trans h102
          have h103 := (he 103 (by decide)).trans h103
          have h104 := (he 104 (by decide)).trans h104
          have h105 := (he 105 (by decide)).trans h105
          have h106 := (he 106 (by decide)).trans h106
          have h107 := (he 107 (by decide)).trans h107
          have h108 := (he 108 (by decide)).trans h108
          have hS_ := hS_.ne (fun i h1 h2 => he i (by omega))
          refine lv_aload_n hx hb dL_law_562 rfl (lv_at hl 2 rfl) ?_
          refine lv_aload_n hx hb dL_law_563 rfl (lv_at hl 0 rfl) ?_
          refine lv_iload_n hx hb dL_law_564 rfl (lv_at hl 3 rfl) ?_
          refine lv_iconst (v := 1) hx hb dL_law_565 (by decide) ?_
          refine lv_iadd hx hb dL_law_566 ?_
          obtain ⟨i159, x158, ex158, hf⟩ := ri_e hf
          refine va_sld hx hb hX hbl hbA hS i159 dL_law_567 ?_
          refine tp_i ex158 ?_
          refine lv_aload_n hx hb dL_law_568 rfl (lv_at hl 0 rfl) ?_
          refine lv_iload_n hx hb dL_law_569 rfl (lv_at hl 3 rfl) ?_
          refine lv_iconst (v := 2) hx hb dL_law_570 (by decide) ?_
          refine lv_iadd hx hb dL_law_571 ?_
          obtain ⟨i161, x160, ex160, hf⟩ := ri_e hf
          refine va_sld hx hb hX hbl hbA hS i161 dL_law_572 ?_
          refine tp_i ex160 ?_
          refine lv_aload_n hx hb dL_law_573 rfl (lv_at hl 0 rfl) ?_
          refine lv_iload_n hx hb dL_law_574 rfl (lv_at hl 3 rfl) ?_
          refine lv_iconst (v := 3) hx hb dL_law_575 (by decide) ?_
          refine lv_iadd hx hb dL_law_576 ?_
          obtain ⟨i163, x162, ex162, hf⟩ := ri_e hf
          refine va_sld hx hb hX hbl hbA hS i163 dL_law_577 ?_
          refine tp_i ex162 ?_
          refine lv_aload_n hx hb dL_law_578 rfl (lv_at hl 0 rfl) ?_
          refine lv_iload_n hx hb dL_law_579 rfl (lv_at hl 3 rfl) ?_
          refine lv_iconst (v := 4) hx hb dL_law_580 (by decide) ?_
          refine lv_iadd hx hb dL_law_581 ?_
          obtain ⟨i165, x164, ex164, hf⟩ := ri_e hf
          refine va_sld hx hb hX hbl hbA hS i165 dL_law_582 ?_
          refine tp_i ex164 ?_
          refine lv_aload_n hx hb dL_law_583 rfl (lv_at hl 0 rfl) ?_
          refine lv_iload_n hx hb dL_law_584 rfl (lv_at hl 3 rfl) ?_
          refine lv_iconst (v := 5) hx hb dL_law_585 (by decide) ?_
          refine lv_iadd hx hb dL_law_586 ?_
          obtain ⟨i167, x166, ex166, hf⟩ := ri_e hf
          refine va_sld hx hb hX hbl hbA hS i167 dL_law_587 ?_
          refine tp_i ex166 ?_
          obtain ⟨q168, htq168, hf⟩ := bd_e hf
          have jnq168 : ∀ (ad : Nat → Nat) (C : Nat → va_E) (H : Heap) (locs : List Loc) (ls : Array Slot), Inj N ad → (∀ j : Nat, j < N → An s.heap.size (ad j)) → va_P D vwCl (wd N ad C) H → va_S (An s.heap.size) s.heap H locs → C 0 = .inr (10, [.ref (ad 1), .ref (ad 5), .ref (ad 19), .ref (ad 21), .ref (ad 60), .ref (ad 77), .ref (ad 81), .ref (ad 84), .ref (ad 85)]) → C 1 = .inr (5, [.ref (ad 2), .ref (ad 3), .ref (ad 4), .int tx_len, .int tx_lines, .int tx_ts, .int tx_te]) → C 2 = aI g 200 tx_b → C 3 = aI g 9 tx_k → C 4 = aI g 45 tx_n → C 5 = .inr (7, [.ref (ad 6), .ref (ad 7), .ref (ad 8), .ref (ad 9), .ref (ad 10), .ref (ad 11), .ref (ad 12), .ref (ad 13), .ref (ad 14), .ref (ad 15), .ref (ad 16), .ref (ad 17), .ref (ad 18), .int t_there, .int t_lift, .int t_none]) → C 6 = aI g 12 t_down → C 7 = aI g 12 t_min → C 8 = aI g 12 t_pac → C 9 = aI g 12 t_gone → C 10 = aI g 12 t_infl → C 11 = aI g 12 t_lik → C 12 = aI g 12 t_str → C 13 = aI g 12 t_from → C 14 = aI g 12 t_unt → C 15 = aI g 24 t_rain → C 16 = aI g 4 t_tell → C 17 = aI g 4 t_wy → C 18 = aI g 4 t_wn → C 19 = .inr (9, [.ref (ad 5), .ref (ad 20), .int w_src]) → C 20 = aI g 12 w_over → C 21 = .inr (8, [.ref (ad 5), .ref (ad 19), .ref (ad 22), .ref (ad 23)]) → C 22 = aI g 12 wa_g → C 23 = aS g 12 (fun i => if i < 12 then some (ad (24 + 3 * i)) else none) → C 60 = .inr (6, [.ref (ad 5), .ref (ad 19), .ref (ad 21), .ref (ad 61), .ref (ad 62), .ref (ad 65), .ref (ad 66), .long th_none, .long th_all1, .long th_all2, .int q156.2.1, .int q156.2.2.1, .int q156.2.2.2.1]) → C 61 = aF g 10 (fun i => if i < 10 then some (ad (67 + i)) else none) → C 65 = aL g 12 th_one → C 66 = aL g 144 th_two → C 77 = .inr (2, [.ref (ad 5), .ref (ad 19), .ref (ad 78), .ref (ad 79), .ref (ad 80), .int h_solved]) → C 78 = aI g hn1 h_few → C 79 = aI g hn2 h_sum → C 80 = aI g hn3 h_min → C 81 = .inr (3, [.ref (ad 5), .ref (ad 19), .ref (ad 82), .ref (ad 83)]) → C 82 = aI g 12 l_kinds → C 83 = aI g 66 l_unl → C 84 = .inr (0, [.ref (ad 5), .ref (ad 19), .ref (ad 77), .int d_seed, .int d_min, .int d_gue, .int d_src, .int d_lif]) → C 86 = .inr (11, [.ref (ad 87), .int m_len, .ref (ad 88), .int m_rm, .int m_there, .ref (ad 89), .ref (ad 90), .ref (ad 91), .ref (ad 92), .ref (ad 93), .ref (ad 94), .ref (ad 95), .ref (ad 96), .ref (ad 97), .ref (ad 98), .ref (ad 99), .ref (ad 100), .ref (ad 101), .int m_lift, .int m_blank, .ref (ad 102), .int m_fm, .int m_at, .int m_pl, .int m_end, .ref (ad 103), .ref (ad 104), .ref (ad 105), .ref (ad 106), .ref (ad 107), .ref (ad 108), .int m_seed]) → C 87 = aI g 200 m_text → C 88 = aI g 54 m_read → C 89 = aI g 12 m_down → C 90 = aI g 12 m_min → C 91 = aI g 12 m_walk → C 92 = aI g 12 m_gone → C 93 = aI g 12 m_flow → C 94 = aI g 12 m_lik → C 95 = aI g 12 m_str → C 96 = aI g 12 m_from → C 97 = aI g 12 m_to → C 98 = aI g 24 m_rain → C 99 = aI g 4 m_tell → C 100 = aI g 4 m_fy → C 101 = aI g 4 m_fn → C 102 = aI g 50 m_finds → C 103 = aI g 12 m_abv → C 104 = aI g 144 m_apart → C 105 = aI g 4096 m_few → C 106 = aI g 4096 m_mean → C 107 = aI g 49152 m_soon → C 108 = aI g 256 m_kinds → PoolF C q156.2.2.2.2.1 q156.2.2.2.2.2.1 q156.2.2.2.2.2.2.1 q156.2.2.2.2.2.2.2.1 q156.2.2.2.2.2.2.2.2 → PoolS g ad C sL sT sF sU → lv_has ls 4 [(0, .ref b), (1, .ref (ad 0)), (2, .ref (ad 86)), (3, .int x3)] → W p l e room_1 s m #[Value.ref b] below meth c H locs cells slots (lw_Z below #[Value.ref b] s) (F0 m 596 ls [.int q168, .int x164, .int x162, .int x160, .int x158, .ref (ad 86), .int q156.1]) := by
            intro ad C H locs ls hI hAd hP hS h0 h1 h2 h3 h4 h5 h6 h7 h8 h9 h10 h11 h12 h13 h14 h15 h16 h17 h18 h19 h20 h21 h22 h23 h60 h61 h65 h66 h77 h78 h79 h80 h81 h82 h83 h84 h86 h87 h88 h89 h90 h91 h92 h93 h94 h95 h96 h97 h98 h99 h100 h101 h102 h103 h104 h105 h106 h107 h108 hF_ hS_ hl
            obtain ⟨z170, hf⟩ := bq_e hf
            obtain ⟨q169, hq169, hf⟩ := bd_e hf
            refine k_iW (va_runV (C := RX11) (As := [.int x158, .int x160, .int x162, .int x164, .int q168]) (rest := [.int q156.1]) ⟨hx, hb, hml, hown, hts⟩ (c_X11_found (l := l) (sz := H.size) (p0 := x158) (p1 := x160) (p2 := x162) (p3 := x164) (p4 := q168) (by omega : 109 ≤ N) hI z170 h86 h102 hq169) (cwV 5 hts gLV_X11_found rfl rfl rfl (by decide +kernel) ⟨Nat.le_of_ble_eq_true rfl, Nat.le_of_ble_eq_true rfl⟩) (preV_of hK hP (by omega) h86 rfl) rfl rfl hl.1 rfl (lv_room (Nat.le_of_ble_eq_true rfl)) dL_law_596 ⟨fit1 (by omega), fit2 (by omega)⟩) hA hAd hS (fun C H locs hP hS hpo hbz_q169 => ?_)
            obtain ⟨he, h102, h86⟩ := hpo
            have h0 := (he 0 (by decide)).trans h0
            have h1 := (he 1 (by decide)).trans h1
            have h2 := (he 2 (by decide)).trans h2
            have h3 := (he 3 (by decide)).trans h3
            have h4 := (he 4 (by decide)).trans h4
            have h5 := (he 5 (by decide)).trans h5
            have h6 := (he 6 (by decide)).trans h6
            have h7 := (he 7 (by decide)).trans h7
            have h8 := (he 8 (by decide)).trans h8
            have h9 := (he 9 (by decide)).trans h9
            have h10 := (he 10 (by decide)).trans h10
            have h11 := (he 11 (by decide)).trans h11
            have h12 := (he 12 (by decide)).trans h12
            have h13 := (he 13 (by decide)).trans h13
            have h14 := (he 14 (by decide)).trans h14
            have h15 := (he 15 (by decide)).trans h15
            have h16 := (he 16 (by decide)).trans h16
            have h17 := (he 17 (by decide)).trans h17
            have h18 := (he 18 (by decide)).trans h18
            have h19 := (he 19 (by decide)).trans h19
            have h20 := (he 20 (by decide)).trans h20
            have h21 := (he 21 (by decide)).trans h21
            have h22 := (he 22 (by decide)).trans h22
            have h23 := (he 23 (by decide)).trans h23
            have h60 := (he 60 (by decide)).trans h60
            have h61 := (he 61 (by decide)).trans h61
            have h65 := (he 65 (by decide)).trans h65
            have h66 := (he 66 (by decide)).trans h66
            have h77 := (he 77 (by decide)).trans h77
            have h78 := (he 78 (by decide)).trans h78
            have h79 := (he 79 (by decide)).trans h79
            have h80 := (he 80 (by decide)).trans h80
            have h81 := (he 81 (by decide)).trans h81
            have h82 := (he 82 (by decide)).trans h82
            have h83 := (he 83 (by decide)).trans h83
            have h84 := (he 84 (by decide)).trans h84
            have h87 := (he 87 (by decide)).trans h87
            have h88 := (he 88 (by decide)).trans h88
            have h89 := (he 89 (by decide)).trans h89
            have h90 := (he 90 (by decide)).trans h90
            have h91 := (he 91 (by decide)).trans h91
            have h92 := (he 92 (by decide)).trans h92
            have h93 := (he 93 (by decide)).trans h93
            have h94 := (he 94 (by decide)).trans h94
            have h95 := (he 95 (by decide)).trans h95
            have h96 := (he 96 (by decide)).trans h96
            have h97 := (he 97 (by decide)).trans h97
            have h98 := (he 98 (by decide)).trans h98
            have h99 := (he 99 (by decide)).trans h99
            have h100 := (he 100 (by decide)).trans h100
            have h101 := (he 101 (by decide)).trans h101
            have h103 := (he 103 (by decide)).trans h103
            have h104 := (he 104 (by decide)).trans h104
            have h105 := (he 105 (by decide)).trans h105
            have h106 := (he 106 (by decide)).trans h106
            have h107 := (he 107 (by decide)).trans h107
            have h108 := (he 108 (by decide)).trans h108
            have hF_ := hF_.ne (fun i h1 => he i (by omega))
            have hS_ := hS_.ne (fun i h1 h2 => he i (by omega))
            refine lv_icmp_eq (tgt := 1069) hx hb dL_law_599 (by decide) (fun c171 => ?_) (fun c171 => ?_)
            · have hf := it_e c171 hf
              obtain ⟨x172, ex172, hf⟩ := lt_e hf
              refine lv_iinc (v := x172) (lv' := [(3, .int x172), (0, .ref b), (1, .ref (ad 0)), (2, .ref (ad 86))]) hx hb dL_law_1069 hl (k := 3) rfl (by rw [ex172]; rfl) (by decide) rfl (fun ls hl => ?_)
              refine lv_goto (tgt := 18) hx hb dL_law_1072 (by decide) ?_
              exact ih x172 tx_len tx_lines tx_ts tx_te tx_b tx_k tx_n t_down t_min t_pac t_gone t_infl t_lik t_str t_from t_unt t_rain t_tell t_wy t_wn t_there t_lift t_none w_src w_over wa_g th_none th_all1 th_all2 q156.2.1 q156.2.2.1 q156.2.2.2.1 th_one th_two h_solved h_few h_sum h_min hn1 hn2 hn3 l_kinds l_unl d_seed d_min d_gue d_src d_lif m_text m_read m_down m_min m_walk m_gone m_flow m_lik m_str m_from m_to m_rain m_tell m_fy m_fn q169.2.1 m_abv m_apart m_few m_mean m_soon m_kinds m_len m_rm m_there m_lift m_blank q169.2.2 m_at m_pl m_end m_seed sL sT sF sU q156.2.2.2.2.1 q156.2.2.2.2.2.1 q156.2.2.2.2.2.2.1 q156.2.2.2.2.2.2.2.1 q156.2.2.2.2.2.2.2.2 ad C H locs ls cells slots (by omega) (by omega) hI hAd hP hS h0 h1 h2 h3 h4 h5 h6 h7 h8 h9 h10 h11 h12 h13 h14 h15 h16 h17 h18 h19 h20 h21 h22 h23 h60 h61 h65 h66 h77 h78 h79 h80 h81 h82 h83 h84 h86 h87 h88 h89 h90 h91 h92 h93 h94 h95 h96 h97 h98 h99 h100 h101 h102 h103 h104 h105 h106 h107 h108 hF_ hS_ (lv_sub hl [1, 2, 3, 0] rfl) hf
            · have hf := ie_e c171 hf
              refine lv_iconst (v := 0) hx hb dL_law_602 (by decide) ?_
              exact absurd (Option.some.inj hf) (by decide)
          clear hf
          have hf := htq168
          refine lv_if_eq (tgt := 595) hx hb dL_law_588 (by decide) (fun c173 => ?_) (fun c173 => ?_)
          · have hf := it_e c173 hf
            refine lv_iconst (v := 0) hx hb dL_law_595 (by decide) ?_
            obtain rfl := Option.some.inj hf
            exact jnq168 ad C H locs ls hI hAd hP hS h0 h1 h2 h3 h4 h5 h6 h7 h8 h9 h10 h11 h12 h13 h14 h15 h16 h17 h18 h19 h20 h21 h22 h23 h60 h61 h65 h66 h77 h78 h79 h80 h81 h82 h83 h84 h86 h87 h88 h89 h90 h91 h92 h93 h94 h95 h96 h97 h98 h99 h100 h101 h102 h103 h104 h105 h106 h107 h108 hF_ hS_ (lv_sub hl [0, 1, 2, 3] rfl)
          · have hf := ie_e c173 hf
            refine lv_iconst (v := 1) hx hb dL_law_591 (by decide) ?_
            refine lv_goto (tgt := 596) hx hb dL_law_592 (by decide) ?_
            obtain rfl := Option.some.inj hf
            exact jnq168 ad C H locs ls hI hAd hP hS h0 h1 h2 h3 h4 h5 h6 h7 h8 h9 h10 h11 h12 h13 h14 h15 h16 h17 h18 h19 h20 h21 h22 h23 h60 h61 h65 h66 h77 h78 h79 h80 h81 h82 h83 h84 h86 h87 h88 h89 h90 h91 h92 h93 h94 h95 h96 h97 h98 h99 h100 h101 h102 h103 h104 h105 h106 h107 h108 hF_ hS_ (lv_sub hl [0, 1, 2, 3] rfl)
        clear hf
        have hf := htq155
        refine lv_if_eq (tgt := 558) hx hb dL_law_551 (by decide) (fun c174 => ?_) (fun c174 => ?_)
        · have hf := it_e c174 hf
          refine lv_iconst (v := 0) hx hb dL_law_558 (by decide) ?_
          obtain rfl := Option.some.inj hf
          exact jnq155 ad C H locs ls hI hAd hP hS h0 h1 h2 h3 h4 h5 h6 h7 h8 h9 h10 h11 h12 h13 h14 h15 h16 h17 h18 h19 h20 h21 h22 h23 h60 h61 h65 h66 h77 h78 h79 h80 h81 h82 h83 h84 h86 h87 h88 h89 h90 h91 h92 h93 h94 h95 h96 h97 h98 h99 h100 h101 h102 h103 h104 h105 h106 h107 h108 hF_ hS_ (lv_sub hl [0, 1, 2, 3] rfl)
        · have hf := ie_e c174 hf
          refine lv_iconst (v := 1) hx hb dL_law_554 (by decide) ?_
          refine lv_goto (tgt := 559) hx hb dL_law_555 (by decide) ?_
          obtain rfl := Option.some.inj hf
          exact jnq155 ad C H locs ls hI hAd hP hS h0 h1 h2 h3 h4 h5 h6 h7 h8 h9 h10 h11 h12 h13 h14 h15 h16 h17 h18 h19 h20 h21 h22 h23 h60 h61 h65 h66 h77 h78 h79 h80 h81 h82 h83 h84 h86 h87 h88 h89 h90 h91 h92 h93 h94 h95 h96 h97 h98 h99 h100 h101 h102 h103 h104 h105 h106 h107 h108 hF_ hS_ (lv_sub hl [0, 1, 2, 3] rfl)
      have hf := ie_e c144 hf
      by_cases c175 : x4 = 12
      · have hf := it_e c175 hf
        refine lv_tableIn (tgt := 604) hx hb dL_law_33 (by rw [c175]; decide) (by rw [c175]; decide) (by rw [c175]; rfl) (by decide) ?_
        refine lv_aload_n hx hb dL_law_604 rfl (lv_at hl 1 rfl) ?_
        obtain ⟨q176, hq176, hf⟩ := bd_e hf
        refine k_iW (va_runV (C := RX10) (As := []) (rest := []) ⟨hx, hb, hml, hown, hts⟩ (c_X10_forget (l := l) (sz := H.size)  (by omega : 86 ≤ N) hI h0 h60 hq176) (cwV 0 hts gLV_X10_forget rfl rfl rfl (by decide +kernel) ⟨Nat.le_of_ble_eq_true rfl, Nat.le_of_ble_eq_true rfl⟩) (preV_of hK hP (by omega) h0 rfl) rfl rfl hl.1 rfl (lv_room (Nat.le_of_ble_eq_true rfl)) dL_law_605 ⟨fit1 (by omega), fit2 (by omega)⟩) hA hAd hS (fun C H locs hP hS hpo hbz_q176 => ?_)
        obtain ⟨he, h60⟩ := hpo
        have h0 := (he 0 (by decide)).trans h0
        have h1 := (he 1 (by decide)).trans h1
        have h2 := (he 2 (by decide)).trans h2
        have h3 := (he 3 (by decide)).trans h3
        have h4 := (he 4 (by decide)).trans h4
        have h5 := (he 5 (by decide)).trans h5
        have h6 := (he 6 (by decide)).trans h6
        have h7 := (he 7 (by decide)).trans h7
        have h8 := (he 8 (by decide)).trans h8
        have h9 := (he 9 (by decide)).trans h9
        have h10 := (he 10 (by decide)).trans h10
        have h11 := (he 11 (by decide)).trans h11
        have h12 := (he 12 (by decide)).trans h12
        have h13 := (he 13 (by decide)).trans h13
        have h14 := (he 14 (by decide)).trans h14
        have h15 := (he 15 (by decide)).trans h15
        have h16 := (he 16 (by decide)).trans h16
        have h17 := (he 17 (by decide)).trans h17
        have h18 := (he 18 (by decide)).trans h18
        have h19 := (he 19 (by decide)).trans h19
        have h20 := (he 20 (by decide)).trans h20
        have h21 := (he 21 (by decide)).trans h21
        have h22 := (he 22 (by decide)).trans h22
        have h23 := (he 23 (by decide)).trans h23
        have h61 := (he 61 (by decide)).trans h61
        have h65 := (he 65 (by decide)).trans h65
        have h66 := (he 66 (by decide)).trans h66
        have h77 := (he 77 (by decide)).trans h77
        have h78 := (he 78 (by decide)).trans h78
        have h79 := (he 79 (by decide)).trans h79
        have h80 := (he 80 (by decide)).trans h80
        have h81 := (he 81 (by decide)).trans h81
        have h82 := (he 82 (by decide)).trans h82
        have h83 := (he 83 (by decide)).trans h83
        have h84 := (he 84 (by decide)).trans h84
        have h86 := (he 86 (by decide)).trans h86
        have h87 := (he 87 (by decide)).trans h87
        have h88 := (he 88 (by decide)).trans h88
        have h89 := (he 89 (by decide)).trans h89
        have h90 := (he 90 (by decide)).trans h90
        have h91 := (he 91 (by decide)).trans h91
        have h92 := (he 92 (by decide)).trans h92
        have h93 := (he 93 (by decide)).trans h93
        have h94 := (he 94 (by decide)).trans h94
        have h95 := (he 95 (by decide)).trans h95
        have h96 := (he 96 (by decide)).trans h96
        have h97 := (he 97 (by decide)).trans h97
        have h98 := (he 98 (by decide)).trans h98
        have h99 := (he 99 (by decide)).trans h99
        have h100 := (he 100 (by decide)).trans h100
        have h101 := (he 101 (by decide)).trans h101
        have h102 := (he 102 (by decide)).trans h102
        have h103 := (he 103 (by decide)).trans h103
        have h104 := (he 104 (by decide)).trans h104
        have h105 := (he 105 (by decide)).trans h105
        have h106 := (he 106 (by decide)).trans h106
        have h107 := (he 107 (by decide)).trans h107
        have h108 := (he 108 (by decide)).trans h108
        have hF_ := hF_.ne (fun i h1 => he i (by omega))
        have hS_ := hS_.ne (fun i h1 h2 => he i (by omega))
        refine lv_aload_n hx hb dL_law_608 rfl (lv_at hl 2 rfl) ?_
        obtain ⟨q177, hq177, hf⟩ := bd_e hf
        refine k_iW (va_runV (C := RX11) (As := []) (rest := [.int q176.1]) ⟨hx, hb, hml, hown, hts⟩ (c_X11_forget (l := l) (sz := H.size)  (by omega : 109 ≤ N) hI h86 hq177) (cwV 0 hts gLV_X11_forget rfl rfl rfl (by decide +kernel) ⟨Nat.le_of_ble_eq_true rfl, Nat.le_of_ble_eq_true rfl⟩) (preV_of hK hP (by omega) h86 rfl) rfl rfl hl.1 rfl (lv_room (Nat.le_of_ble_eq_true rfl)) dL_law_609 ⟨fit1 (by omega), fit2 (by omega)⟩) hA hAd hS (fun C H locs hP hS hpo hbz_q177 => ?_)
        obtain ⟨he, h86⟩ := hpo
        have h0 := (he 0 (by decide)).trans h0
        have h1 := (he 1 (by decide)).trans h1
        have h2 := (he 2 (by decide)).trans h2
        have h3 := (he 3 (by decide)).trans h3
        have h4 := (he 4 (by decide)).trans h4
        have h5 := (he 5 (by decide)).trans h5
        have h6 := (he 6 (by decide)).trans h6
        have h7 := (he 7 (by decide)).trans h7
        have h8 := (he 8 (by decide)).trans h8
        have h9 := (he 9 (by decide)).trans h9
        have h10 := (he 10 (by decide)).trans h10
        have h11 := (he 11 (by decide)).trans h11
        have h12 := (he 12 (by decide)).trans h12
        have h13 := (he 13 (by decide)).trans h13
        have h14 := (he 14 (by decide)).trans h14
        have h15 := (he 15 (by decide)).trans h15
        have h16 := (he 16 (by decide)).trans h16
        have h17 := (he 17 (by decide)).trans h17
        have h18 := (he 18 (by decide)).trans h18
        have h19 := (he 19 (by decide)).trans h19
        have h20 := (he 20 (by decide)).trans h20
        have h21 := (he 21 (by decide)).trans h21
        have h22 := (he 22 (by decide)).trans h22
        have h23 := (he 23 (by decide)).trans h23
        have h60 := (he 60 (by decide)).trans h60
        have h61 := (he 61 (by decide)).trans h61
        have h65 := (he 65 (by decide)).trans h65
        have h66 := (he 66 (by decide)).trans h66
        have h77 := (he 77 (by decide)).trans h77
        have h78 := (he 78 (by decide)).trans h78
        have h79 := (he 79 (by decide)).trans h79
        have h80 := (he 80 (by decide)).trans h80
        have h81 := (he 81 (by decide)).trans h81
        have h82 := (he 82 (by decide)).trans h82
        have h83 := (he 83 (by decide)).trans h83
        have h84 := (he 84 (by decide)).trans h84
        have h87 := (he 87 (by decide)).trans h87
        have h88 := (he 88 (by decide)).trans h88
        have h89 := (he 89 (by decide)).trans h89
        have h90 := (he 90 (by decide)).trans h90
        have h91 := (he 91 (by decide)).trans h91
        have h92 := (he 92 (by decide)).trans h92
        have h93 := (he 93 (by decide)).trans h93
        have h94 := (he 94 (by decide)).trans h94
        have h95 := (he 95 (by decide)).trans h95
        have h96 := (he 96 (by decide)).trans h96
        have h97 := (he 97 (by decide)).trans h97
        have h98 := (he 98 (by decide)).trans h98
        have h99 := (he 99 (by decide)).trans h99
        have h100 := (he 100 (by decide)).trans h100
        have h101 := (he 101 (by decide)).trans h101
        have h102 := (he 102 (by decide)).trans h102
        have h103 := (he 103 (by decide)).trans h103
        have h104 := (he 104 (by decide)).trans h104
        have h105 := (he 105 (by decide)).trans h105
        have h106 := (he 106 (by decide)).trans h106
        have h107 := (he 107 (by decide)).trans h107
        have h108 := (he 108 (by decide)).trans h108
        have hF_ := hF_.ne (fun i h1 => he i (by omega))
        have hS_ := hS_.ne (fun i h1 h2 => he i (by omega))
        refine lv_icmp_eq (tgt := 1069) hx hb dL_law_612 (by decide) (fun c178 => ?_) (fun c178 => ?_)
        · have hf := it_e c178 hf
          obtain ⟨x179, ex179, hf⟩ := lt_e hf
          refine lv_iinc (v := x179) (lv' := [(3, .int x179), (0, .ref b), (1, .ref (ad 0)), (2, .ref (ad 86))]) hx hb dL_law_1069 hl (k := 3) rfl (by rw [ex179]; rfl) (by decide) rfl (fun ls hl => ?_)
          refine lv_goto (tgt := 18) hx hb dL_law_1072 (by decide) ?_
          exact ih x179 tx_len tx_lines tx_ts tx_te tx_b tx_k tx_n t_down t_min t_pac t_gone t_infl t_lik t_str t_from t_unt t_rain t_tell t_wy t_wn t_there t_lift t_none w_src w_over wa_g th_none th_all1 th_all2 q176.2.1 q176.2.2.1 q176.2.2.2 th_one th_two h_solved h_few h_sum h_min hn1 hn2 hn3 l_kinds l_unl d_seed d_min d_gue d_src d_lif m_text m_read m_down m_min m_walk m_gone m_flow m_lik m_str m_from m_to m_rain m_tell m_fy m_fn m_finds m_abv m_apart m_few m_mean m_soon m_kinds m_len m_rm m_there m_lift m_blank q177.2 m_at m_pl m_end m_seed sL sT sF sU fC fS fM fT fY ad C H locs ls cells slots (by omega) (by omega) hI hAd hP hS h0 h1 h2 h3 h4 h5 h6 h7 h8 h9 h10 h11 h12 h13 h14 h15 h16 h17 h18 h19 h20 h21 h22 h23 h60 h61 h65 h66 h77 h78 h79 h80 h81 h82 h83 h84 h86 h87 h88 h89 h90 h91 h92 h93 h94 h95 h96 h97 h98 h99 h100 h101 h102 h103 h104 h105 h106 h107 h108 hF_ hS_ (lv_sub hl [1, 2, 3, 0] rfl) hf
        · have hf := ie_e c178 hf
          refine lv_iconst (v := 0) hx hb dL_law_615 (by decide) ?_
          exact absurd (Option.some.inj hf) (by decide)
      have hf := ie_e c175 hf
      by_cases c180 : x4 = 13
      · have hf := it_e c180 hf
        refine lv_tableIn (tgt := 617) hx hb dL_law_33 (by rw [c180]; decide) (by rw [c180]; decide) (by rw [c180]; rfl) (by decide) ?_
        refine lv_aload_n hx hb dL_law_617 rfl (lv_at hl 1 rfl) ?_
        refine lv_aload_n hx hb dL_law_618 rfl (lv_at hl 0 rfl) ?_
        refine lv_iload_n hx hb dL_law_619 rfl (lv_at hl 3 rfl) ?_
        refine lv_iconst (v := 1) hx hb dL_law_620 (by decide) ?_
        refine lv_iadd hx hb dL_law_621 ?_
        obtain ⟨i182, x181, ex181, hf⟩ := ri_e hf
        refine va_sld hx hb hX hbl hbA hS i182 dL_law_622 ?_
        refine tp_i ex181 ?_
        refine lv_aload_n hx hb dL_law_623 rfl (lv_at hl 0 rfl) ?_
        refine lv_iload_n hx hb dL_law_624 rfl (lv_at hl 3 rfl) ?_
        refine lv_iconst (v := 2) hx hb dL_law_625 (by decide) ?_
        refine lv_iadd hx hb dL_law_626 ?_
        obtain ⟨i184, x183, ex183, hf⟩ := ri_e hf
        refine va_sld hx hb hX hbl hbA hS i184 dL_law_627 ?_
        refine tp_i ex183 ?_
        obtain ⟨q185, hq185, hf⟩ := bd_e hf
        refine k_lW (va_runV (C := RX10) (As := [.int x181, .int x183]) (rest := []) ⟨hx, hb, hml, hown, hts⟩ (c_X10_chance (l := l) (sz := H.size) (p0 := x181) (p1 := x183) (by omega : 86 ≤ N) hI h0 h5 h11 h15 h16 h17 h18 h19 h21 h22 h23 h60 h61 h65 hF_ hS_ hq185) (cwV 2 hts gLV_X10_chance rfl rfl rfl (by decide +kernel) ⟨Nat.le_of_ble_eq_true rfl, Nat.le_of_ble_eq_true rfl⟩) (preV_of hK hP (by omega) h0 rfl) rfl rfl hl.1 rfl (lv_room (Nat.le_of_ble_eq_true rfl)) dL_law_628 ⟨fit1 (by omega), fit2 (by omega)⟩) hA hAd hS (fun C H locs hP hS hpo => ?_)
        obtain ⟨he, h60, h65⟩ := hpo
        have h0 := (he 0 (by decide)).trans h0
        have h1 := (he 1 (by decide)).trans h1
        have h2 := (he 2 (by decide)).trans h2
        have h3 := (he 3 (by decide)).trans h3
        have h4 := (he 4 (by decide)).trans h4
        have h5 := (he 5 (by decide)).trans h5
        have h6 := (he 6 (by decide)).trans h6
        have h7 := (he 7 (by decide)).trans h7
        have h8 := (he 8 (by decide)).trans h8
        have h9 := (he 9 (by decide)).trans h9
        have h10 := (he 10 (by decide)).trans h10
        have h11 := (he 11 (by decide)).trans h11
        have h12 := (he 12 (by decide)).trans h12
        have h13 := (he 13 (by decide)).trans h13
        have h14 := (he 14 (by decide)).trans h14
        have h15 := (he 15 (by decide)).trans h15
        have h16 := (he 16 (by decide)).trans h16
        have h17 := (he 17 (by decide)).trans h17
        have h18 := (he 18 (by decide)).trans h18
        have h19 := (he 19 (by decide)).trans h19
        have h20 := (he 20 (by decide)).trans h20
        have h21 := (he 21 (by decide)).trans h21
        have h22 := (he 22 (by decide)).trans h22
        have h23 := (he 23 (by decide)).trans h23
        have h61 := (he 61 (by decide)).trans h61
        have h66 := (he 66 (by decide)).trans h66
        have h77 := (he 77 (by decide)).trans h77
        have h78 := (he 78 (by decide)).trans h78
        have h79 := (he 79 (by decide)).trans h79
        have h80 := (he 80 (by decide)).trans h80
        have h81 := (he 81 (by decide)).trans h81
        have h82 := (he 82 (by decide)).trans h82
        have h83 := (he 83 (by decide)).trans h83
        have h84 := (he 84 (by decide)).trans h84
        have h86 := (he 86 (by decide)).trans h86
        have h87 := (he 87 (by decide)).trans h87
        have h88 := (he 88 (by decide)).trans h88
        have h89 := (he 89 (by decide)).trans h89
        have h90 := (he 90 (by decide)).trans h90
        have h91 := (he 91 (by decide)).trans h91
        have h92 := (he 92 (by decide)).trans h92
        have h93 := (he 93 (by decide)).trans h93
        have h94 := (he 94 (by decide)).trans h94
        have h95 := (he 95 (by decide)).trans h95
        have h96 := (he 96 (by decide)).trans h96
        have h97 := (he 97 (by decide)).trans h97
        have h98 := (he 98 (by decide)).trans h98
        have h99 := (he 99 (by decide)).trans h99
        have h100 := (he 100 (by decide)).trans h100
        have h101 := (he 101 (by decide)).trans h101
        have h102 := (he 102 (by decide)).trans h102
        have h103 := (he 103 (by decide)).trans h103
        have h104 := (he 104 (by decide)).trans h104
        have h105 := (he 105 (by decide)).trans h105
        have h106 := (he 106 (by decide)).trans h106
        have h107 := (he 107 (by decide)).trans h107
        have h108 := (he 108 (by decide)).trans h108
        have hF_ := hF_.ne (fun i h1 => he i (by omega))
        have hS_ := hS_.ne (fun i h1 h2 => he i (by omega))
        refine lv_aload_n hx hb dL_law_631 rfl (lv_at hl 2 rfl) ?_
        refine lv_aload_n hx hb dL_law_632 rfl (lv_at hl 0 rfl) ?_
        refine lv_iload_n hx hb dL_law_633 rfl (lv_at hl 3 rfl) ?_
        refine lv_iconst (v := 1) hx hb dL_law_634 (by decide) ?_
        refine lv_iadd hx hb dL_law_635 ?_
        obtain ⟨i187, x186, ex186, hf⟩ := ri_e hf
        refine va_sld hx hb hX hbl hbA hS i187 dL_law_636 ?_
        refine tp_i ex186 ?_
        refine lv_aload_n hx hb dL_law_637 rfl (lv_at hl 0 rfl) ?_
        refine lv_iload_n hx hb dL_law_638 rfl (lv_at hl 3 rfl) ?_
        refine lv_iconst (v := 2) hx hb dL_law_639 (by decide) ?_
        refine lv_iadd hx hb dL_law_640 ?_
        obtain ⟨i189, x188, ex188, hf⟩ := ri_e hf
        refine va_sld hx hb hX hbl hbA hS i189 dL_law_641 ?_
        refine tp_i ex188 ?_
        obtain ⟨q190, hq190, hf⟩ := bd_e hf
        refine k_lR (va_runV (C := RX11) (As := [.int x186, .int x188]) (rest := [.long q185.1]) ⟨hx, hb, hml, hown, hts⟩ (c_X11_chance (l := l) (sz := H.size) (p0 := x186) (p1 := x188) (by omega : 109 ≤ N) h86 h89 h90 h92 h93 h94 h95 h96 h97 h98 h99 h100 h101 h102 hq190) (cwV 2 hts gLV_X11_chance rfl rfl rfl (by decide +kernel) ⟨Nat.le_of_ble_eq_true rfl, Nat.le_of_ble_eq_true rfl⟩) (preV_of hK hP (by omega) h86 rfl) rfl rfl hl.1 rfl (lv_room (Nat.le_of_ble_eq_true rfl)) dL_law_642 ⟨fit1 (by omega), fit2 (by omega)⟩) hA hP hS (fun H locs hP hS => ?_)
        refine W.lcmp hx hb dL_law_645 ?_
        refine lv_if_eq (tgt := 1069) hx hb dL_law_646 (by decide) (fun c191 => ?_) (fun c191 => ?_)
        · have hf := it_e c191 hf
          obtain ⟨x192, ex192, hf⟩ := lt_e hf
          refine lv_iinc (v := x192) (lv' := [(3, .int x192), (0, .ref b), (1, .ref (ad 0)), (2, .ref (ad 86))]) hx hb dL_law_1069 hl (k := 3) rfl (by rw [ex192]; rfl) (by decide) rfl (fun ls hl => ?_)
          refine lv_goto (tgt := 18) hx hb dL_law_1072 (by decide) ?_
          exact ih x192 tx_len tx_lines tx_ts tx_te tx_b tx_k tx_n t_down t_min t_pac t_gone t_infl t_lik t_str t_from t_unt t_rain t_tell t_wy t_wn t_there t_lift t_none w_src w_over wa_g q185.2.1 q185.2.2.1 th_all2 q185.2.2.2.1 th_k2 th_size q185.2.2.2.2 th_two h_solved h_few h_sum h_min hn1 hn2 hn3 l_kinds l_unl d_seed d_min d_gue d_src d_lif m_text m_read m_down m_min m_walk m_gone m_flow m_lik m_str m_from m_to m_rain m_tell m_fy m_fn m_finds m_abv m_apart m_few m_mean m_soon m_kinds m_len m_rm m_there m_lift m_blank m_fm m_at m_pl m_end m_seed sL sT sF sU fC fS fM fT fY ad C H locs ls cells slots (by omega) (by omega) hI hAd hP hS h0 h1 h2 h3 h4 h5 h6 h7 h8 h9 h10 h11 h12 h13 h14 h15 h16 h17 h18 h19 h20 h21 h22 h23 h60 h61 h65 h66 h77 h78 h79 h80 h81 h82 h83 h84 h86 h87 h88 h89 h90 h91 h92 h93 h94 h95 h96 h97 h98 h99 h100 h101 h102 h103 h104 h105 h106 h107 h108 hF_ hS_ (lv_sub hl [1, 2, 3, 0] rfl) hf
        · have hf := ie_e c191 hf
          refine lv_iconst (v := 0) hx hb dL_law_649 (by decide) ?_
          exact absurd (Option.some.inj hf) (by decide)
      have hf := ie_e c180 hf
      by_cases c193 : x4 = 14
      · have hf := it_e c193 hf
        refine lv_tableIn (tgt := 651) hx hb dL_law_33 (by rw [c193]; decide) (by rw [c193]; decide) (by rw [c193]; rfl) (by decide) ?_
        refine lv_aload_n hx hb dL_law_651 rfl (lv_at hl 1 rfl) ?_
        refine lv_aload_n hx hb dL_law_652 rfl (lv_at hl 0 rfl) ?_
        refine lv_iload_n hx hb dL_law_653 rfl (lv_at hl 3 rfl) ?_
        refine lv_iconst (v := 1) hx hb dL_law_654 (by decide) ?_
        refine lv_iadd hx hb dL_law_655 ?_
        obtain ⟨i195, x194, ex194, hf⟩ := ri_e hf
        refine va_sld hx hb hX hbl hbA hS i195 dL_law_656 ?_
        refine tp_i ex194 ?_
        refine lv_aload_n hx hb dL_law_657 rfl (lv_at hl 0 rfl) ?_
        refine lv_iload_n hx hb dL_law_658 rfl (lv_at hl 3 rfl) ?_
        refine lv_iconst (v := 2) hx hb dL_law_659 (by decide) ?_
        refine lv_iadd hx hb dL_law_660 ?_
        obtain ⟨i197, x196, ex196, hf⟩ := ri_e hf
        refine va_sld hx hb hX hbl hbA hS i197 dL_law_661 ?_
        refine tp_i ex196 ?_
        refine lv_aload_n hx hb dL_law_662 rfl (lv_at hl 0 rfl) ?_
        refine lv_iload_n hx hb dL_law_663 rfl (lv_at hl 3 rfl) ?_
        refine lv_iconst (v := 3) hx hb dL_law_664 (by decide) ?_
        refine lv_iadd hx hb dL_law_665 ?_
        obtain ⟨i199, x198, ex198, hf⟩ := ri_e hf
        refine va_sld hx hb hX hbl hbA hS i199 dL_law_666 ?_
        refine tp_i ex198 ?_
        obtain ⟨q200, hq200, hf⟩ := bd_e hf
        refine k_lW (va_runV (C := RX10) (As := [.int x194, .int x196, .int x198]) (rest := []) ⟨hx, hb, hml, hown, hts⟩ (c_X10_two (l := l) (sz := H.size) (p0 := x194) (p1 := x196) (p2 := x198) (by omega : 86 ≤ N) hI h0 h5 h11 h15 h16 h17 h18 h19 h21 h22 h23 h60 h61 h66 hF_ hS_ hq200) (cwV 3 hts gLV_X10_two rfl rfl rfl (by decide +kernel) ⟨Nat.le_of_ble_eq_true rfl, Nat.le_of_ble_eq_true rfl⟩) (preV_of hK hP (by omega) h0 rfl) rfl rfl hl.1 rfl (lv_room (Nat.le_of_ble_eq_true rfl)) dL_law_667 ⟨fit1 (by omega), fit2 (by omega)⟩) hA hAd hS (fun C H locs hP hS hpo => ?_)
        obtain ⟨he, h60, h66⟩ := hpo
        have h0 := (he 0 (by decide)).trans h0
        have h1 := (he 1 (by decide)).trans h1
        have h2 := (he 2 (by decide)).trans h2
        have h3 := (he 3 (by decide)).trans h3
        have h4 := (he 4 (by decide)).trans h4
        have h5 := (he 5 (by decide)).trans h5
        have h6 := (he 6 (by decide)).trans h6
        have h7 := (he 7 (by decide)).trans h7
        have h8 := (he 8 (by decide)).trans h8
        have h9 := (he 9 (by decide)).trans h9
        have h10 := (he 10 (by decide)).trans h10
        have h11 := (he 11 (by decide)).trans h11
        have h12 := (he 12 (by decide)).trans h12
        have h13 := (he 13 (by decide)).trans h13
        have h14 := (he 14 (by decide)).trans h14
        have h15 := (he 15 (by decide)).trans h15
        have h16 := (he 16 (by decide)).trans h16
        have h17 := (he 17 (by decide)).trans h17
        have h18 := (he 18 (by decide)).trans h18
        have h19 := (he 19 (by decide)).trans h19
        have h20 := (he 20 (by decide)).trans h20
        have h21 := (he 21 (by decide)).trans h21
        have h22 := (he 22 (by decide)).trans h22
        have h23 := (he 23 (by decide)).trans h23
        have h61 := (he 61 (by decide)).trans h61
        have h65 := (he 65 (by decide)).trans h65
        have h77 := (he 77 (by decide)).trans h77
        have h78 := (he 78 (by decide)).trans h78
        have h79 := (he 79 (by decide)).trans h79
        have h80 := (he 80 (by decide)).trans h80
        have h81 := (he 81 (by decide)).trans h81
        have h82 := (he 82 (by decide)).trans h82
        have h83 := (he 83 (by decide)).trans h83
        have h84 := (he 84 (by decide)).trans h84
        have h86 := (he 86 (by decide)).trans h86
        have h87 := (he 87 (by decide)).trans h87
        have h88 := (he 88 (by decide)).trans h88
        have h89 := (he 89 (by decide)).trans h89
        have h90 := (he 90 (by decide)).trans h90
        have h91 := (he 91 (by decide)).trans h91
        have h92 := (he 92 (by decide)).trans h92
        have h93 := (he 93 (by decide)).trans h93
        have h94 := (he 94 (by decide)).trans h94
        have h95 := (he 95 (by decide)).trans h95
        have h96 := (he 96 (by decide)).trans h96
        have h97 := (he 97 (by decide)).trans h97
        have h98 := (he 98 (by decide)).trans h98
        have h99 := (he 99 (by decide)).trans h99
        have h100 := (he 100 (by decide)).trans h100
        have h101 := (he 101 (by decide)).trans h101
        have h102 := (he 102 (by decide)).trans h102
        have h103 := (he 103 (by decide)).trans h103
        have h104 := (he 104 (by decide)).trans h104
        have h105 := (he 105 (by decide)).trans h105
        have h106 := (he 106 (by decide)).trans h106
        have h107 := (he 107 (by decide)).trans h107
        have h108 := (he 108 (by decide)).trans h108
        have hF_ := hF_.ne (fun i h1 => he i (by omega))
        have hS_ := hS_.ne (fun i h1 h2 => he i (by omega))
        refine lv_aload_n hx hb dL_law_670 rfl (lv_at hl 2 rfl) ?_
        refine lv_aload_n hx hb dL_law_671 rfl (lv_at hl 0 rfl) ?_
        refine lv_iload_n hx hb dL_law_672 rfl (lv_at hl 3 rfl) ?_
        refine lv_iconst (v := 1) hx hb dL_law_673 (by decide) ?_
        refine lv_iadd hx hb dL_law_674 ?_
        obtain ⟨i202, x201, ex201, hf⟩ := ri_e hf
        refine va_sld hx hb hX hbl hbA hS i202 dL_law_675 ?_
        refine tp_i ex201 ?_
        refine lv_aload_n hx hb dL_law_676 rfl (lv_at hl 0 rfl) ?_
        refine lv_iload_n hx hb dL_law_677 rfl (lv_at hl 3 rfl) ?_
        refine lv_iconst (v := 2) hx hb dL_law_678 (by decide) ?_
        refine lv_iadd hx hb dL_law_679 ?_
        obtain ⟨i204, x203, ex203, hf⟩ := ri_e hf
        refine va_sld hx hb hX hbl hbA hS i204 dL_law_680 ?_
        refine tp_i ex203 ?_
        refine lv_aload_n hx hb dL_law_681 rfl (lv_at hl 0 rfl) ?_
        refine lv_iload_n hx hb dL_law_682 rfl (lv_at hl 3 rfl) ?_
        refine lv_iconst (v := 3) hx hb dL_law_683 (by decide) ?_
        refine lv_iadd hx hb dL_law_684 ?_
        obtain ⟨i206, x205, ex205, hf⟩ := ri_e hf
        refine va_sld hx hb hX hbl hbA hS i206 dL_law_685 ?_
        refine tp_i ex205 ?_
        obtain ⟨q207, hq207, hf⟩ := bd_e hf
        refine k_lR (va_runV (C := RX11) (As := [.int x201, .int x203, .int x205]) (rest := [.long q200.1]) ⟨hx, hb, hml, hown, hts⟩ (c_X11_two (l := l) (sz := H.size) (p0 := x201) (p1 := x203) (p2 := x205) (by omega : 109 ≤ N) h86 h89 h90 h92 h93 h94 h95 h96 h97 h98 h99 h100 h101 h102 hq207) (cwV 3 hts gLV_X11_two rfl rfl rfl (by decide +kernel) ⟨Nat.le_of_ble_eq_true rfl, Nat.le_of_ble_eq_true rfl⟩) (preV_of hK hP (by omega) h86 rfl) rfl rfl hl.1 rfl (lv_room (Nat.le_of_ble_eq_true rfl)) dL_law_686 ⟨fit1 (by omega), fit2 (by omega)⟩) hA hP hS (fun H locs hP hS => ?_)
        refine W.lcmp hx hb dL_law_689 ?_
        refine lv_if_eq (tgt := 1069) hx hb dL_law_690 (by decide) (fun c208 => ?_) (fun c208 => ?_)
        · have hf := it_e c208 hf
          obtain ⟨x209, ex209, hf⟩ := lt_e hf
          refine lv_iinc (v := x209) (lv' := [(3, .int x209), (0, .ref b), (1, .ref (ad 0)), (2, .ref (ad 86))]) hx hb dL_law_1069 hl (k := 3) rfl (by rw [ex209]; rfl) (by decide) rfl (fun ls hl => ?_)
          refine lv_goto (tgt := 18) hx hb dL_law_1072 (by decide) ?_
          exact ih x209 tx_len tx_lines tx_ts tx_te tx_b tx_k tx_n t_down t_min t_pac t_gone t_infl t_lik t_str t_from t_unt t_rain t_tell t_wy t_wn t_there t_lift t_none w_src w_over wa_g th_none th_all1 q200.2.1 th_k1 q200.2.2.1 th_size th_one q200.2.2.2 h_solved h_few h_sum h_min hn1 hn2 hn3 l_kinds l_unl d_seed d_min d_gue d_src d_lif m_text m_read m_down m_min m_walk m_gone m_flow m_lik m_str m_from m_to m_rain m_tell m_fy m_fn m_finds m_abv m_apart m_few m_mean m_soon m_kinds m_len m_rm m_there m_lift m_blank m_fm m_at m_pl m_end m_seed sL sT sF sU fC fS fM fT fY ad C H locs ls cells slots (by omega) (by omega) hI hAd hP hS h0 h1 h2 h3 h4 h5 h6 h7 h8 h9 h10 h11 h12 h13 h14 h15 h16 h17 h18 h19 h20 h21 h22 h23 h60 h61 h65 h66 h77 h78 h79 h80 h81 h82 h83 h84 h86 h87 h88 h89 h90 h91 h92 h93 h94 h95 h96 h97 h98 h99 h100 h101 h102 h103 h104 h105 h106 h107 h108 hF_ hS_ (lv_sub hl [1, 2, 3, 0] rfl) hf
        · have hf := ie_e c208 hf
          refine lv_iconst (v := 0) hx hb dL_law_693 (by decide) ?_
          exact absurd (Option.some.inj hf) (by decide)
      have hf := ie_e c193 hf
      by_cases c210 : x4 = 15
      · have hf := it_e c210 hf
        refine lv_tableIn (tgt := 695) hx hb dL_law_33 (by rw [c210]; decide) (by rw [c210]; decide) (by rw [c210]; rfl) (by decide) ?_
        refine lv_aload_n hx hb dL_law_695 rfl (lv_at hl 1 rfl) ?_
        refine lv_aload_n hx hb dL_law_696 rfl (lv_at hl 0 rfl) ?_
        refine lv_iload_n hx hb dL_law_697 rfl (lv_at hl 3 rfl) ?_
        refine lv_iconst (v := 1) hx hb dL_law_698 (by decide) ?_
        refine lv_iadd hx hb dL_law_699 ?_
        obtain ⟨i212, x211, ex211, hf⟩ := ri_e hf
        refine va_sld hx hb hX hbl hbA hS i212 dL_law_700 ?_
        refine tp_i ex211 ?_
        refine lv_aload_n hx hb dL_law_701 rfl (lv_at hl 0 rfl) ?_
        refine lv_iload_n hx hb dL_law_702 rfl (lv_at hl 3 rfl) ?_
        refine lv_iconst (v := 2) hx hb dL_law_703 (by decide) ?_
        refine lv_iadd hx hb dL_law_704 ?_
        obtain ⟨i214, x213, ex213, hf⟩ := ri_e hf
        refine va_sld hx hb hX hbl hbA hS i214 dL_law_705 ?_
        refine tp_i ex213 ?_
        refine lv_aload_n hx hb dL_law_706 rfl (lv_at hl 0 rfl) ?_
        refine lv_iload_n hx hb dL_law_707 rfl (lv_at hl 3 rfl) ?_
        refine lv_iconst (v := 3) hx hb dL_law_708 (by decide) ?_
        refine lv_iadd hx hb dL_law_709 ?_
        obtain ⟨i216, x215, ex215, hf⟩ := ri_e hf
        refine va_sld hx hb hX hbl hbA hS i216 dL_law_710 ?_
        refine tp_i ex215 ?_
        refine lv_aload_n hx hb dL_law_711 rfl (lv_at hl 0 rfl) ?_
        refine lv_iload_n hx hb dL_law_712 rfl (lv_at hl 3 rfl) ?_
        refine lv_iconst (v := 4) hx hb dL_law_713 (by decide) ?_
        refine lv_iadd hx hb dL_law_714 ?_
        obtain ⟨i218, x217, ex217, hf⟩ := ri_e hf
        refine va_sld hx hb hX hbl hbA hS i218 dL_law_715 ?_
        refine tp_i ex217 ?_
        refine lv_aload_n hx hb dL_law_716 rfl (lv_at hl 0 rfl) ?_
        refine lv_iload_n hx hb dL_law_717 rfl (lv_at hl 3 rfl) ?_
        refine lv_iconst (v := 5) hx hb dL_law_718 (by decide) ?_
        refine lv_iadd hx hb dL_law_719 ?_
        obtain ⟨i220, x219, ex219, hf⟩ := ri_e hf
        refine va_sld hx hb hX hbl hbA hS i220 dL_law_720 ?_
        refine tp_i ex219 ?_
        obtain ⟨q221, hq221, hf⟩ := bd_e hf
        refine k_lW (va_runV (C := RX10) (As := [.int x211, .int x213, .int x215, .int x217, .int x219]) (rest := []) ⟨hx, hb, hml, hown, hts⟩ (c_X10_worth (l := l) (sz := H.size) (p0 := x211) (p1 := x213) (p2 := x215) (p3 := x217) (p4 := x219) (by omega : 86 ≤ N) hI h0 h5 h11 h15 h16 h17 h18 h19 h21 h22 h23 h60 h61 h65 hF_ hS_ hq221) (cwV 5 hts gLV_X10_worth rfl rfl rfl (by decide +kernel) ⟨Nat.le_of_ble_eq_true rfl, Nat.le_of_ble_eq_true rfl⟩) (preV_of hK hP (by omega) h0 rfl) rfl rfl hl.1 rfl (lv_room (Nat.le_of_ble_eq_true rfl)) dL_law_721 ⟨fit1 (by omega), fit2 (by omega)⟩) hA hAd hS (fun C H locs hP hS hpo => ?_)
        obtain ⟨he, h60, h65, hF_⟩ := hpo
        have h0 := (he 0 (by decide)).trans h0
        have h1 := (he 1 (by decide)).trans h1
        have h2 := (he 2 (by decide)).trans h2
        have h3 := (he 3 (by decide)).trans h3
        have h4 := (he 4 (by decide)).trans h4
        have h5 := (he 5 (by decide)).trans h5
        have h6 := (he 6 (by decide)).trans h6
        have h7 := (he 7 (by decide)).trans h7
        have h8 := (he 8 (by decide)).trans h8
        have h9 := (he 9 (by decide)).trans h9
        have h10 := (he 10 (by decide)).trans h10
        have h11 := (he 11 (by decide)).trans h11
        have h12 := (he 12 (by decide)).trans h12
        have h13 := (he 13 (by decide)).trans h13
        have h14 := (he 14 (by decide)).trans h14
        have h15 := (he 15 (by decide)).trans h15
        have h16 := (he 16 (by decide)).trans h16
        have h17 := (he 17 (by decide)).trans h17
        have h18 := (he 18 (by decide)).trans h18
        have h19 := (he 19 (by decide)).trans h19
        have h20 := (he 20 (by decide)).trans h20
        have h21 := (he 21 (by decide)).trans h21
        have h22 := (he 22 (by decide)).trans h22
        have h23 := (he 23 (by decide)).trans h23
        have h61 := (he 61 (by decide)).trans h61
        have h66 := (he 66 (by decide)).trans h66
        have h77 := (he 77 (by decide)).trans h77
        have h78 := (he 78 (by decide)).trans h78
        have h79 := (he 79 (by decide)).trans h79
        have h80 := (he 80 (by decide)).trans h80
        have h81 := (he 81 (by decide)).trans h81
        have h82 := (he 82 (by decide)).trans h82
        have h83 := (he 83 (by decide)).trans h83
        have h84 := (he 84 (by decide)).trans h84
        have h86 := (he 86 (by decide)).trans h86
        have h87 := (he 87 (by decide)).trans h87
        have h88 := (he 88 (by decide)).trans h88
        have h89 := (he 89 (by decide)).trans h89
        have h90 := (he 90 (by decide)).trans h90
        have h91 := (he 91 (by decide)).trans h91
        have h92 := (he 92 (by decide)).trans h92
        have h93 := (he 93 (by decide)).trans h93
        have h94 := (he 94 (by decide)).trans h94
        have h95 := (he 95 (by decide)).trans h95
        have h96 := (he 96 (by decide)).trans h96
        have h97 := (he 97 (by decide)).trans h97
        have h98 := (he 98 (by decide)).trans h98
        have h99 := (he 99 (by decide)).trans h99
        have h100 := (he 100 (by decide)).trans h100
        have h101 := (he 101 (by decide)).trans h101
        have h102 := (he 102 (by decide)).trans h102
        have h103 := (he 103 (by decide)).trans h103
        have h104 := (he 104 (by decide)).trans h104
        have h105 := (he 105 (by decide)).trans h105
        have h106 := (he 106 (by decide)).trans h106
        have h107 := (he 107 (by decide)).trans h107
        have h108 := (he 108 (by decide)).trans h108
        have hS_ := hS_.ne (fun i h1 h2 => he i (by omega))
        refine lv_aload_n hx hb dL_law_724 rfl (lv_at hl 2 rfl) ?_
        refine lv_aload_n hx hb dL_law_725 rfl (lv_at hl 0 rfl) ?_
        refine lv_iload_n hx hb dL_law_726 rfl (lv_at hl 3 rfl) ?_
        refine lv_iconst (v := 1) hx hb dL_law_727 (by decide) ?_
        refine lv_iadd hx hb dL_law_728 ?_
        obtain ⟨i223, x222, ex222, hf⟩ := ri_e hf
        refine va_sld hx hb hX hbl hbA hS i223 dL_law_729 ?_
        refine tp_i ex222 ?_
        refine lv_aload_n hx hb dL_law_730 rfl (lv_at hl 0 rfl) ?_
        refine lv_iload_n hx hb dL_law_731 rfl (lv_at hl 3 rfl) ?_
        refine lv_iconst (v := 2) hx hb dL_law_732 (by decide) ?_
        refine lv_iadd hx hb dL_law_733 ?_
        obtain ⟨i225, x224, ex224, hf⟩ := ri_e hf
        refine va_sld hx hb hX hbl hbA hS i225 dL_law_734 ?_
        refine tp_i ex224 ?_
        refine lv_aload_n hx hb dL_law_735 rfl (lv_at hl 0 rfl) ?_
        refine lv_iload_n hx hb dL_law_736 rfl (lv_at hl 3 rfl) ?_
        refine lv_iconst (v := 3) hx hb dL_law_737 (by decide) ?_
        refine lv_iadd hx hb dL_law_738 ?_
        obtain ⟨i227, x226, ex226, hf⟩ := ri_e hf
        refine va_sld hx hb hX hbl hbA hS i227 dL_law_739 ?_
        refine tp_i ex226 ?_
        refine lv_aload_n hx hb dL_law_740 rfl (lv_at hl 0 rfl) ?_
        refine lv_iload_n hx hb dL_law_741 rfl (lv_at hl 3 rfl) ?_
        refine lv_iconst (v := 4) hx hb dL_law_742 (by decide) ?_
        refine lv_iadd hx hb dL_law_743 ?_
        obtain ⟨i229, x228, ex228, hf⟩ := ri_e hf
        refine va_sld hx hb hX hbl hbA hS i229 dL_law_744 ?_
        refine tp_i ex228 ?_
        refine lv_aload_n hx hb dL_law_745 rfl (lv_at hl 0 rfl) ?_
        refine lv_iload_n hx hb dL_law_746 rfl (lv_at hl 3 rfl) ?_
        refine lv_iconst (v := 5) hx hb dL_law_747 (by decide) ?_
        refine lv_iadd hx hb dL_law_748 ?_
        obtain ⟨i231, x230, ex230, hf⟩ := ri_e hf
        refine va_sld hx hb hX hbl hbA hS i231 dL_law_749 ?_
        refine tp_i ex230 ?_
        obtain ⟨q232, hq232, hf⟩ := bd_e hf
        refine k_lR (va_runV (C := RX11) (As := [.int x222, .int x224, .int x226, .int x228, .int x230]) (rest := [.long q221.1]) ⟨hx, hb, hml, hown, hts⟩ (c_X11_worth (l := l) (sz := H.size) (p0 := x222) (p1 := x224) (p2 := x226) (p3 := x228) (p4 := x230) (by omega : 109 ≤ N) h86 h89 h90 h92 h93 h94 h95 h96 h97 h98 h99 h100 h101 h102 hq232) (cwV 5 hts gLV_X11_worth rfl rfl rfl (by decide +kernel) ⟨Nat.le_of_ble_eq_true rfl, Nat.le_of_ble_eq_true rfl⟩) (preV_of hK hP (by omega) h86 rfl) rfl rfl hl.1 rfl (lv_room (Nat.le_of_ble_eq_true rfl)) dL_law_750 ⟨fit1 (by omega), fit2 (by omega)⟩) hA hP hS (fun H locs hP hS => ?_)
        refine W.lcmp hx hb dL_law_753 ?_
        refine lv_if_eq (tgt := 1069) hx hb dL_law_754 (by decide) (fun c233 => ?_) (fun c233 => ?_)
        · have hf := it_e c233 hf
          obtain ⟨x234, ex234, hf⟩ := lt_e hf
          refine lv_iinc (v := x234) (lv' := [(3, .int x234), (0, .ref b), (1, .ref (ad 0)), (2, .ref (ad 86))]) hx hb dL_law_1069 hl (k := 3) rfl (by rw [ex234]; rfl) (by decide) rfl (fun ls hl => ?_)
          refine lv_goto (tgt := 18) hx hb dL_law_1072 (by decide) ?_
          exact ih x234 tx_len tx_lines tx_ts tx_te tx_b tx_k tx_n t_down t_min t_pac t_gone t_infl t_lik t_str t_from t_unt t_rain t_tell t_wy t_wn t_there t_lift t_none w_src w_over wa_g q221.2.1 q221.2.2.1 th_all2 q221.2.2.2.1 th_k2 th_size q221.2.2.2.2.1 th_two h_solved h_few h_sum h_min hn1 hn2 hn3 l_kinds l_unl d_seed d_min d_gue d_src d_lif m_text m_read m_down m_min m_walk m_gone m_flow m_lik m_str m_from m_to m_rain m_tell m_fy m_fn m_finds m_abv m_apart m_few m_mean m_soon m_kinds m_len m_rm m_there m_lift m_blank m_fm m_at m_pl m_end m_seed sL sT sF sU q221.2.2.2.2.2.1 q221.2.2.2.2.2.2.1 q221.2.2.2.2.2.2.2.1 q221.2.2.2.2.2.2.2.2.1 q221.2.2.2.2.2.2.2.2.2 ad C H locs ls cells slots (by omega) (by omega) hI hAd hP hS h0 h1 h2 h3 h4 h5 h6 h7 h8 h9 h10 h11 h12 h13 h14 h15 h16 h17 h18 h19 h20 h21 h22 h23 h60 h61 h65 h66 h77 h78 h79 h80 h81 h82 h83 h84 h86 h87 h88 h89 h90 h91 h92 h93 h94 h95 h96 h97 h98 h99 h100 h101 h102 h103 h104 h105 h106 h107 h108 hF_ hS_ (lv_sub hl [1, 2, 3, 0] rfl) hf
        · have hf := ie_e c233 hf
          refine lv_iconst (v := 0) hx hb dL_law_757 (by decide) ?_
          exact absurd (Option.some.inj hf) (by decide)
      have hf := ie_e c210 hf
      by_cases c235 : x4 = 16
      · have hf := it_e c235 hf
        refine lv_tableIn (tgt := 759) hx hb dL_law_33 (by rw [c235]; decide) (by rw [c235]; decide) (by rw [c235]; rfl) (by decide) ?_
        refine lv_aload_n hx hb dL_law_759 rfl (lv_at hl 1 rfl) ?_
        obtain ⟨q236, hq236, hf⟩ := bd_e hf
        refine k_iW (va_runV (C := RX10) (As := []) (rest := []) ⟨hx, hb, hml, hown, hts⟩ (c_X10_likeliest (l := l) (sz := H.size)  (by omega : 86 ≤ N) hI h0 h5 h11 h15 h16 h17 h18 h19 h21 h22 h23 h60 h61 h65 hF_ hS_ hq236) (cwV 0 hts gLV_X10_likeliest rfl rfl rfl (by decide +kernel) ⟨Nat.le_of_ble_eq_true rfl, Nat.le_of_ble_eq_true rfl⟩) (preV_of hK hP (by omega) h0 rfl) rfl rfl hl.1 rfl (lv_room (Nat.le_of_ble_eq_true rfl)) dL_law_760 ⟨fit1 (by omega), fit2 (by omega)⟩) hA hAd hS (fun C H locs hP hS hpo hbz_q236 => ?_)
        obtain ⟨he, h60, h65⟩ := hpo
        have h0 := (he 0 (by decide)).trans h0
        have h1 := (he 1 (by decide)).trans h1
        have h2 := (he 2 (by decide)).trans h2
        have h3 := (he 3 (by decide)).trans h3
        have h4 := (he 4 (by decide)).trans h4
        have h5 := (he 5 (by decide)).trans h5
        have h6 := (he 6 (by decide)).trans h6
        have h7 := (he 7 (by decide)).trans h7
        have h8 := (he 8 (by decide)).trans h8
        have h9 := (he 9 (by decide)).trans h9
        have h10 := (he 10 (by decide)).trans h10
        have h11 := (he 11 (by decide)).trans h11
        have h12 := (he 12 (by decide)).trans h12
        have h13 := (he 13 (by decide)).trans h13
        have h14 := (he 14 (by decide)).trans h14
        have h15 := (he 15 (by decide)).trans h15
        have h16 := (he 16 (by decide)).trans h16
        have h17 := (he 17 (by decide)).trans h17
        have h18 := (he 18 (by decide)).trans h18
        have h19 := (he 19 (by decide)).trans h19
        have h20 := (he 20 (by decide)).trans h20
        have h21 := (he 21 (by decide)).trans h21
        have h22 := (he 22 (by decide)).trans h22
        have h23 := (he 23 (by decide)).trans h23
        have h61 := (he 61 (by decide)).trans h61
        have h66 := (he 66 (by decide)).trans h66
        have h77 := (he 77 (by decide)).trans h77
        have h78 := (he 78 (by decide)).trans h78
        have h79 := (he 79 (by decide)).trans h79
        have h80 := (he 80 (by decide)).trans h80
        have h81 := (he 81 (by decide)).trans h81
        have h82 := (he 82 (by decide)).trans h82
        have h83 := (he 83 (by decide)).trans h83
        have h84 := (he 84 (by decide)).trans h84
        have h86 := (he 86 (by decide)).trans h86
        have h87 := (he 87 (by decide)).trans h87
        have h88 := (he 88 (by decide)).trans h88
        have h89 := (he 89 (by decide)).trans h89
        have h90 := (he 90 (by decide)).trans h90
        have h91 := (he 91 (by decide)).trans h91
        have h92 := (he 92 (by decide)).trans h92
        have h93 := (he 93 (by decide)).trans h93
        have h94 := (he 94 (by decide)).trans h94
        have h95 := (he 95 (by decide)).trans h95
        have h96 := (he 96 (by decide)).trans h96
        have h97 := (he 97 (by decide)).trans h97
        have h98 := (he 98 (by decide)).trans h98
        have h99 := (he 99 (by decide)).trans h99
        have h100 := (he 100 (by decide)).trans h100
        have h101 := (he 101 (by decide)).trans h101
        have h102 := (he 102 (by decide)).trans h102
        have h103 := (he 103 (by decide)).trans h103
        have h104 := (he 104 (by decide)).trans h104
        have h105 := (he 105 (by decide)).trans h105
        have h106 := (he 106 (by decide)).trans h106
        have h107 := (he 107 (by decide)).trans h107
        have h108 := (he 108 (by decide)).trans h108
        have hF_ := hF_.ne (fun i h1 => he i (by omega))
        have hS_ := hS_.ne (fun i h1 h2 => he i (by omega))
        refine lv_aload_n hx hb dL_law_763 rfl (lv_at hl 2 rfl) ?_
        obtain ⟨q237, hq237, hf⟩ := bd_e hf
        refine k_iR (va_runV (C := RX11) (As := []) (rest := [.int q236.1]) ⟨hx, hb, hml, hown, hts⟩ (c_X11_likeliest (l := l) (sz := H.size)  (by omega : 109 ≤ N) h86 h89 h90 h92 h93 h94 h95 h96 h97 h98 h99 h100 h101 h102 hq237) (cwV 0 hts gLV_X11_likeliest rfl rfl rfl (by decide +kernel) ⟨Nat.le_of_ble_eq_true rfl, Nat.le_of_ble_eq_true rfl⟩) (preV_of hK hP (by omega) h86 rfl) rfl rfl hl.1 rfl (lv_room (Nat.le_of_ble_eq_true rfl)) dL_law_764 ⟨fit1 (by omega), fit2 (by omega)⟩) hA hP hS (fun H locs hP hS hbz_q237 => ?_)
        refine lv_icmp_eq (tgt := 1069) hx hb dL_law_767 (by decide) (fun c238 => ?_) (fun c238 => ?_)
        · have hf := it_e c238 hf
          obtain ⟨x239, ex239, hf⟩ := lt_e hf
          refine lv_iinc (v := x239) (lv' := [(3, .int x239), (0, .ref b), (1, .ref (ad 0)), (2, .ref (ad 86))]) hx hb dL_law_1069 hl (k := 3) rfl (by rw [ex239]; rfl) (by decide) rfl (fun ls hl => ?_)
          refine lv_goto (tgt := 18) hx hb dL_law_1072 (by decide) ?_
          exact ih x239 tx_len tx_lines tx_ts tx_te tx_b tx_k tx_n t_down t_min t_pac t_gone t_infl t_lik t_str t_from t_unt t_rain t_tell t_wy t_wn t_there t_lift t_none w_src w_over wa_g q236.2.1 q236.2.2.1 th_all2 q236.2.2.2.1 th_k2 th_size q236.2.2.2.2 th_two h_solved h_few h_sum h_min hn1 hn2 hn3 l_kinds l_unl d_seed d_min d_gue d_src d_lif m_text m_read m_down m_min m_walk m_gone m_flow m_lik m_str m_from m_to m_rain m_tell m_fy m_fn m_finds m_abv m_apart m_few m_mean m_soon m_kinds m_len m_rm m_there m_lift m_blank m_fm m_at m_pl m_end m_seed sL sT sF sU fC fS fM fT fY ad C H locs ls cells slots (by omega) (by omega) hI hAd hP hS h0 h1 h2 h3 h4 h5 h6 h7 h8 h9 h10 h11 h12 h13 h14 h15 h16 h17 h18 h19 h20 h21 h22 h23 h60 h61 h65 h66 h77 h78 h79 h80 h81 h82 h83 h84 h86 h87 h88 h89 h90 h91 h92 h93 h94 h95 h96 h97 h98 h99 h100 h101 h102 h103 h104 h105 h106 h107 h108 hF_ hS_ (lv_sub hl [1, 2, 3, 0] rfl) hf
        · have hf := ie_e c238 hf
          refine lv_iconst (v := 0) hx hb dL_law_770 (by decide) ?_
          exact absurd (Option.some.inj hf) (by decide)
      have hf := ie_e c235 hf
      by_cases c240 : x4 = 17
      · have hf := it_e c240 hf
        refine lv_tableIn (tgt := 772) hx hb dL_law_33 (by rw [c240]; decide) (by rw [c240]; decide) (by rw [c240]; rfl) (by decide) ?_
        refine lv_aload_n hx hb dL_law_772 rfl (lv_at hl 1 rfl) ?_
        refine lv_aload_n hx hb dL_law_773 rfl (lv_at hl 0 rfl) ?_
        refine lv_iload_n hx hb dL_law_774 rfl (lv_at hl 3 rfl) ?_
        refine lv_iconst (v := 1) hx hb dL_law_775 (by decide) ?_
        refine lv_iadd hx hb dL_law_776 ?_
        obtain ⟨i242, x241, ex241, hf⟩ := ri_e hf
        refine va_sld hx hb hX hbl hbA hS i242 dL_law_777 ?_
        refine tp_i ex241 ?_
        obtain ⟨q243, hq243, hf⟩ := bd_e hf
        refine k_iW (va_runV (C := RX10) (As := [.int x241]) (rest := []) ⟨hx, hb, hml, hown, hts⟩ (c_X10_lacks (l := l) (sz := H.size) (p0 := x241) (by omega : 86 ≤ N) hI h0 h5 h6 h7 h9 h15 h16 h21 h22 h60 h61 hF_ hS_ hq243) (cwV 1 hts gLV_X10_lacks rfl rfl rfl (by decide +kernel) ⟨Nat.le_of_ble_eq_true rfl, Nat.le_of_ble_eq_true rfl⟩) (preV_of hK hP (by omega) h0 rfl) rfl rfl hl.1 rfl (lv_room (Nat.le_of_ble_eq_true rfl)) dL_law_778 ⟨fit1 (by omega), fit2 (by omega)⟩) hA hAd hS (fun C H locs hP hS hpo hbz_q243 => ?_)
        obtain ⟨he, hS_⟩ := hpo
        have h0 := (he 0 (by decide)).trans h0
        have h1 := (he 1 (by decide)).trans h1
        have h2 := (he 2 (by decide)).trans h2
        have h3 := (he 3 (by decide)).trans h3
        have h4 := (he 4 (by decide)).trans h4
        have h5 := (he 5 (by decide)).trans h5
        have h6 := (he 6 (by decide)).trans h6
        have h7 := (he 7 (by decide)).trans h7
        have h8 := (he 8 (by decide)).trans h8
        have h9 := (he 9 (by decide)).trans h9
        have h10 := (he 10 (by decide)).trans h10
        have h11 := (he 11 (by decide)).trans h11
        have h12 := (he 12 (by decide)).trans h12
        have h13 := (he 13 (by decide)).trans h13
        have h14 := (he 14 (by decide)).trans h14
        have h15 := (he 15 (by decide)).trans h15
        have h16 := (he 16 (by decide)).trans h16
        have h17 := (he 17 (by decide)).trans h17
        have h18 := (he 18 (by decide)).trans h18
        have h19 := (he 19 (by decide)).trans h19
        have h20 := (he 20 (by decide)).trans h20
        have h21 := (he 21 (by decide)).trans h21
        have h22 := (he 22 (by decide)).trans h22
        have h23 := (he 23 (by decide)).trans h23
        have h60 := (he 60 (by decide)).trans h60
        have h61 := (he 61 (by decide)).trans h61
        have h65 := (he 65 (by decide)).trans h65
        have h66 := (he 66 (by decide)).trans h66
        have h77 := (he 77 (by decide)).trans h77
        have h78 := (he 78 (by decide)).trans h78
        have h79 := (he 79 (by decide)).trans h79
        have h80 := (he 80 (by decide)).trans h80
        have h81 := (he 81 (by decide)).trans h81
        have h82 := (he 82 (by decide)).trans h82
        have h83 := (he 83 (by decide)).trans h83
        have h84 := (he 84 (by decide)).trans h84
        have h86 := (he 86 (by decide)).trans h86
        have h87 := (he 87 (by decide)).trans h87
        have h88 := (he 88 (by decide)).trans h88
        have h89 := (he 89 (by decide)).trans h89
        have h90 := (he 90 (by decide)).trans h90
        have h91 := (he 91 (by decide)).trans h91
        have h92 := (he 92 (by decide)).trans h92
        have h93 := (he 93 (by decide)).trans h93
        have h94 := (he 94 (by decide)).trans h94
        have h95 := (he 95 (by decide)).trans h95
        have h96 := (he 96 (by decide)).trans h96
        have h97 := (he 97 (by decide)).trans h97
        have h98 := (he 98 (by decide)).trans h98
        have h99 := (he 99 (by decide)).trans h99
        have h100 := (he 100 (by decide)).trans h100
        have h101 := (he 101 (by decide)).trans h101
        have h102 := (he 102 (by decide)).trans h102
        have h103 := (he 103 (by decide)).trans h103
        have h104 := (he 104 (by decide)).trans h104
        have h105 := (he 105 (by decide)).trans h105
        have h106 := (he 106 (by decide)).trans h106
        have h107 := (he 107 (by decide)).trans h107
        have h108 := (he 108 (by decide)).trans h108
        have hF_ := hF_.ne (fun i h1 => he i (by omega))
        refine lv_aload_n hx hb dL_law_781 rfl (lv_at hl 2 rfl) ?_
        refine lv_aload_n hx hb dL_law_782 rfl (lv_at hl 0 rfl) ?_
        refine lv_iload_n hx hb dL_law_783 rfl (lv_at hl 3 rfl) ?_
        refine lv_iconst (v := 1) hx hb dL_law_784 (by decide) ?_
        refine lv_iadd hx hb dL_law_785 ?_
        obtain ⟨i245, x244, ex244, hf⟩ := ri_e hf
        refine va_sld hx hb hX hbl hbA hS i245 dL_law_786 ?_
        refine tp_i ex244 ?_
        obtain ⟨q246, hq246, hf⟩ := bd_e hf
        refine k_iR (va_runV (C := RX11) (As := [.int x244]) (rest := [.int q243.1]) ⟨hx, hb, hml, hown, hts⟩ (c_X11_lacks (l := l) (sz := H.size) (p0 := x244) (by omega : 109 ≤ N) h86 h89 h90 h92 h93 h95 h96 h97 h98 h99 h102 hq246) (cwV 1 hts gLV_X11_lacks rfl rfl rfl (by decide +kernel) ⟨Nat.le_of_ble_eq_true rfl, Nat.le_of_ble_eq_true rfl⟩) (preV_of hK hP (by omega) h86 rfl) rfl rfl hl.1 rfl (lv_room (Nat.le_of_ble_eq_true rfl)) dL_law_787 ⟨fit1 (by omega), fit2 (by omega)⟩) hA hP hS (fun H locs hP hS hbz_q246 => ?_)
        refine lv_icmp_eq (tgt := 1069) hx hb dL_law_790 (by decide) (fun c247 => ?_) (fun c247 => ?_)
        · have hf := it_e c247 hf
          obtain ⟨x248, ex248, hf⟩ := lt_e hf
          refine lv_iinc (v := x248) (lv' := [(3, .int x248), (0, .ref b), (1, .ref (ad 0)), (2, .ref (ad 86))]) hx hb dL_law_1069 hl (k := 3) rfl (by rw [ex248]; rfl) (by decide) rfl (fun ls hl => ?_)
          refine lv_goto (tgt := 18) hx hb dL_law_1072 (by decide) ?_
          exact ih x248 tx_len tx_lines tx_ts tx_te tx_b tx_k tx_n t_down t_min t_pac t_gone t_infl t_lik t_str t_from t_unt t_rain t_tell t_wy t_wn t_there t_lift t_none w_src w_over wa_g th_none th_all1 th_all2 th_k1 th_k2 th_size th_one th_two h_solved h_few h_sum h_min hn1 hn2 hn3 l_kinds l_unl d_seed d_min d_gue d_src d_lif m_text m_read m_down m_min m_walk m_gone m_flow m_lik m_str m_from m_to m_rain m_tell m_fy m_fn m_finds m_abv m_apart m_few m_mean m_soon m_kinds m_len m_rm m_there m_lift m_blank m_fm m_at m_pl m_end m_seed q243.2.1 q243.2.2.1 q243.2.2.2.1 q243.2.2.2.2 fC fS fM fT fY ad C H locs ls cells slots (by omega) (by omega) hI hAd hP hS h0 h1 h2 h3 h4 h5 h6 h7 h8 h9 h10 h11 h12 h13 h14 h15 h16 h17 h18 h19 h20 h21 h22 h23 h60 h61 h65 h66 h77 h78 h79 h80 h81 h82 h83 h84 h86 h87 h88 h89 h90 h91 h92 h93 h94 h95 h96 h97 h98 h99 h100 h101 h102 h103 h104 h105 h106 h107 h108 hF_ hS_ (lv_sub hl [1, 2, 3, 0] rfl) hf
        · have hf := ie_e c247 hf
          refine lv_iconst (v := 0) hx hb dL_law_793 (by decide) ?_
          exact absurd (Option.some.inj hf) (by decide)
      have hf := ie_e c240 hf
      by_cases c249 : x4 = 18
      · have hf := it_e c249 hf
        refine lv_tableIn (tgt := 795) hx hb dL_law_33 (by rw [c249]; decide) (by rw [c249]; decide) (by rw [c249]; rfl) (by decide) ?_
        refine lv_aload_n hx hb dL_law_795 rfl (lv_at hl 1 rfl) ?_
        refine lv_aload_n hx hb dL_law_796 rfl (lv_at hl 0 rfl) ?_
        refine lv_iload_n hx hb dL_law_797 rfl (lv_at hl 3 rfl) ?_
        refine lv_iconst (v := 1) hx hb dL_law_798 (by decide) ?_
        refine lv_iadd hx hb dL_law_799 ?_
        obtain ⟨i251, x250, ex250, hf⟩ := ri_e hf
        refine va_sld hx hb hX hbl hbA hS i251 dL_law_800 ?_
        refine tp_i ex250 ?_
        obtain ⟨q252, hq252, hf⟩ := bd_e hf
        refine k_iA (va_runV (C := RX10) (As := [.int x250]) (rest := []) ⟨hx, hb, hml, hown, hts⟩ (c_X10_fewest (l := l) (sz := H.size) (p0 := x250) (by omega : 86 ≤ N) hI h0 h5 h6 h8 h11 h19 h20 h77 h78 h79 h80 hq252) (cwV 1 hts gLV_X10_fewest rfl rfl rfl (by decide +kernel) ⟨Nat.le_of_ble_eq_true rfl, Nat.le_of_ble_eq_true rfl⟩) (preV_of hK hP (by omega) h0 rfl) rfl rfl hl.1 rfl (lv_room (Nat.le_of_ble_eq_true rfl)) dL_law_801 ⟨fit1 (by omega), fit3 hc2⟩) hA hAd hS (fun ad C H locs hI hAd hP hS hpo hbz_q252 => ?_)
        obtain ⟨had, he, h77, h78, h79, h80⟩ := hpo
        have h0 : C 0 = .inr (10, [.ref (ad 1), .ref (ad 5), .ref (ad 19), .ref (ad 21), .ref (ad 60), .ref (ad 77), .ref (ad 81), .ref (ad 84), .ref (ad 85)]) := by rw [had 1 (by decide) (by decide) (by decide), had 5 (by decide) (by decide) (by decide), had 19 (by decide) (by decide) (by decide), had 21 (by decide) (by decide) (by decide), had 60 (by decide) (by decide) (by decide), had 77 (by decide) (by decide) (by decide), had 81 (by decide) (by decide) (by decide), had 84 (by decide) (by decide) (by decide), had 85 (by decide) (by decide) (by decide)]; exact (he 0 (by decide)).trans h0
        have h1 : C 1 = .inr (5, [.ref (ad 2), .ref (ad 3), .ref (ad 4), .int tx_len, .int tx_lines, .int tx_ts, .int tx_te]) := by rw [had 2 (by decide) (by decide) (by decide), had 3 (by decide) (by decide) (by decide), had 4 (by decide) (by decide) (by decide)]; exact (he 1 (by decide)).trans h1
        have h2 := (he 2 (by decide)).trans h2
        have h3 := (he 3 (by decide)).trans h3
        have h4 := (he 4 (by decide)).trans h4
        have h5 : C 5 = .inr (7, [.ref (ad 6), .ref (ad 7), .ref (ad 8), .ref (ad 9), .ref (ad 10), .ref (ad 11), .ref (ad 12), .ref (ad 13), .ref (ad 14), .ref (ad 15), .ref (ad 16), .ref (ad 17), .ref (ad 18), .int t_there, .int t_lift, .int t_none]) := by rw [had 6 (by decide) (by decide) (by decide), had 7 (by decide) (by decide) (by decide), had 8 (by decide) (by decide) (by decide), had 9 (by decide) (by decide) (by decide), had 10 (by decide) (by decide) (by decide), had 11 (by decide) (by decide) (by decide), had 12 (by decide) (by decide) (by decide), had 13 (by decide) (by decide) (by decide), had 14 (by decide) (by decide) (by decide), had 15 (by decide) (by decide) (by decide), had 16 (by decide) (by decide) (by decide), had 17 (by decide) (by decide) (by decide), had 18 (by decide) (by decide) (by decide)]; exact (he 5 (by decide)).trans h5
        have h6 := (he 6 (by decide)).trans h6
        have h7 := (he 7 (by decide)).trans h7
        have h8 := (he 8 (by decide)).trans h8
        have h9 := (he 9 (by decide)).trans h9
        have h10 := (he 10 (by decide)).trans h10
        have h11 := (he 11 (by decide)).trans h11
        have h12 := (he 12 (by decide)).trans h12
        have h13 := (he 13 (by decide)).trans h13
        have h14 := (he 14 (by decide)).trans h14
        have h15 := (he 15 (by decide)).trans h15
        have h16 := (he 16 (by decide)).trans h16
        have h17 := (he 17 (by decide)).trans h17
        have h18 := (he 18 (by decide)).trans h18
        have h19 : C 19 = .inr (9, [.ref (ad 5), .ref (ad 20), .int w_src]) := by rw [had 5 (by decide) (by decide) (by decide), had 20 (by decide) (by decide) (by decide)]; exact (he 19 (by decide)).trans h19
        have h20 := (he 20 (by decide)).trans h20
        have h21 : C 21 = .inr (8, [.ref (ad 5), .ref (ad 19), .ref (ad 22), .ref (ad 23)]) := by rw [had 5 (by decide) (by decide) (by decide), had 19 (by decide) (by decide) (by decide), had 22 (by decide) (by decide) (by decide), had 23 (by decide) (by decide) (by decide)]; exact (he 21 (by decide)).trans h21
        have h22 := (he 22 (by decide)).trans h22
        have h23 : C 23 = aS g 12 (fun i => if i < 12 then some (ad (24 + 3 * i)) else none) := ((he 23 (by decide)).trans h23).trans (aS_re (fun i h => had i (by omega) (by omega) (by omega)))
        have h60 : C 60 = .inr (6, [.ref (ad 5), .ref (ad 19), .ref (ad 21), .ref (ad 61), .ref (ad 62), .ref (ad 65), .ref (ad 66), .long th_none, .long th_all1, .long th_all2, .int th_k1, .int th_k2, .int th_size]) := by rw [had 5 (by decide) (by decide) (by decide), had 19 (by decide) (by decide) (by decide), had 21 (by decide) (by decide) (by decide), had 61 (by decide) (by decide) (by decide), had 62 (by decide) (by decide) (by decide), had 65 (by decide) (by decide) (by decide), had 66 (by decide) (by decide) (by decide)]; exact (he 60 (by decide)).trans h60
        have h61 : C 61 = aF g 10 (fun i => if i < 10 then some (ad (67 + i)) else none) := ((he 61 (by decide)).trans h61).trans (aF_re (fun i h => had i (by omega) (by omega) (by omega)))
        have h65 := (he 65 (by decide)).trans h65
        have h66 := (he 66 (by decide)).trans h66
        have h81 : C 81 = .inr (3, [.ref (ad 5), .ref (ad 19), .ref (ad 82), .ref (ad 83)]) := by rw [had 5 (by decide) (by decide) (by decide), had 19 (by decide) (by decide) (by decide), had 82 (by decide) (by decide) (by decide), had 83 (by decide) (by decide) (by decide)]; exact (he 81 (by decide)).trans h81
        have h82 := (he 82 (by decide)).trans h82
        have h83 := (he 83 (by decide)).trans h83
        have h84 : C 84 = .inr (0, [.ref (ad 5), .ref (ad 19), .ref (ad 77), .int d_seed, .int d_min, .int d_gue, .int d_src, .int d_lif]) := by rw [had 5 (by decide) (by decide) (by decide), had 19 (by decide) (by decide) (by decide), had 77 (by decide) (by decide) (by decide)]; exact (he 84 (by decide)).trans h84
        have h86 : C 86 = .inr (11, [.ref (ad 87), .int m_len, .ref (ad 88), .int m_rm, .int m_there, .ref (ad 89), .ref (ad 90), .ref (ad 91), .ref (ad 92), .ref (ad 93), .ref (ad 94), .ref (ad 95), .ref (ad 96), .ref (ad 97), .ref (ad 98), .ref (ad 99), .ref (ad 100), .ref (ad 101), .int m_lift, .int m_blank, .ref (ad 102), .int m_fm, .int m_at, .int m_pl, .int m_end, .ref (ad 103), .ref (ad 104), .ref (ad 105), .ref (ad 106), .ref (ad 107), .ref (ad 108), .int m_seed]) := by rw [had 87 (by decide) (by decide) (by decide), had 88 (by decide) (by decide) (by decide), had 89 (by decide) (by decide) (by decide), had 90 (by decide) (by decide) (by decide), had 91 (by decide) (by decide) (by decide), had 92 (by decide) (by decide) (by decide), had 93 (by decide) (by decide) (by decide), had 94 (by decide) (by decide) (by decide), had 95 (by decide) (by decide) (by decide), had 96 (by decide) (by decide) (by decide), had 97 (by decide) (by decide) (by decide), had 98 (by decide) (by decide) (by decide), had 99 (by decide) (by decide) (by decide), had 100 (by decide) (by decide) (by decide), had 101 (by decide) (by decide) (by decide), had 102 (by decide) (by decide) (by decide), had 103 (by decide) (by decide) (by decide), had 104 (by decide) (by decide) (by decide), had 105 (by decide) (by decide) (by decide), had 106 (by decide) (by decide) (by decide), had 107 (by decide) (by decide) (by decide), had 108 (by decide) (by decide) (by decide)]; exact (he 86 (by decide)).trans h86
        have h87 := (he 87 (by decide)).trans h87
        have h88 := (he 88 (by decide)).trans h88
        have h89 := (he 89 (by decide)).trans h89
        have h90 := (he 90 (by decide)).trans h90
        have h91 := (he 91 (by decide)).trans h91
        have h92 := (he 92 (by decide)).trans h92
        have h93 := (he 93 (by decide)).trans h93
        have h94 := (he 94 (by decide)).trans h94
        have h95 := (he 95 (by decide)).trans h95
        have h96 := (he 96 (by decide)).trans h96
        have h97 := (he 97 (by decide)).trans h97
        have h98 := (he 98 (by decide)).trans h98
        have h99 := (he 99 (by decide)).trans h99
        have h100 := (he 100 (by decide)).trans h100
        have h101 := (he 101 (by decide)).trans h101
        have h102 := (he 102 (by decide)).trans h102
        have h103 := (he 103 (by decide)).trans h103
        have h104 := (he 104 (by decide)).trans h104
        have h105 := (he 105 (by decide)).trans h105
        have h106 := (he 106 (by decide)).trans h106
        have h107 := (he 107 (by decide)).trans h107
        have h108 := (he 108 (by decide)).trans h108
        have hF_ := hF_.ne (fun i h1 => he i (by omega))
        have hS_ := (hS_.re had).ne (fun i h1 h2 => he i (by omega))
        have hl : lv_has ls 4 [(0, .ref b), (1, .ref (ad 0)), (2, .ref (ad 86)), (3, .int x3)] := by rw [had 0 (by decide) (by decide) (by decide), had 86 (by decide) (by decide) (by decide)]; exact hl
        refine lv_aload_n hx hb dL_law_804 rfl (lv_at hl 2 rfl) ?_
        refine lv_aload_n hx hb dL_law_805 rfl (lv_at hl 0 rfl) ?_
        refine lv_iload_n hx hb dL_law_806 rfl (lv_at hl 3 rfl) ?_
        refine lv_iconst (v := 1) hx hb dL_law_807 (by decide) ?_
        refine lv_iadd hx hb dL_law_808 ?_
        obtain ⟨i254, x253, ex253, hf⟩ := ri_e hf
        refine va_sld hx hb hX hbl hbA hS i254 dL_law_809 ?_
        refine tp_i ex253 ?_
        obtain ⟨q255, hq255, hf⟩ := bd_e hf
        refine k_iW (va_runV (C := RX11) (As := [.int x253]) (rest := [.int q252.1]) ⟨hx, hb, hml, hown, hts⟩ (c_X11_fewest (l := l) (sz := H.size) (p0 := x253) (by omega : 109 ≤ N) hI h86 h89 h91 h94 h103 h104 h105 hq255) (cwV 1 hts gLV_X11_fewest rfl rfl rfl (by decide +kernel) ⟨Nat.le_of_ble_eq_true rfl, Nat.le_of_ble_eq_true rfl⟩) (preV_of hK hP (by omega) h86 rfl) rfl rfl hl.1 rfl (lv_room (Nat.le_of_ble_eq_true rfl)) dL_law_810 ⟨fit1 (by omega), fit4 hc2⟩) hA hAd hS (fun C H locs hP hS hpo hbz_q255 => ?_)
        obtain ⟨he, h103, h104, h105⟩ := hpo
        have h0 := (he 0 (by decide)).trans h0
        have h1 := (he 1 (by decide)).trans h1
        have h2 := (he 2 (by decide)).trans h2
        have h3 := (he 3 (by decide)).trans h3
        have h4 := (he 4 (by decide)).trans h4
        have h5 := (he 5 (by decide)).trans h5
        have h6 := (he 6 (by decide)).trans h6
        have h7 := (he 7 (by decide)).trans h7
        have h8 := (he 8 (by decide)).trans h8
        have h9 := (he 9 (by decide)).trans h9
        have h10 := (he 10 (by decide)).trans h10
        have h11 := (he 11 (by decide)).trans h11
        have h12 := (he 12 (by decide)).trans h12
        have h13 := (he 13 (by decide)).trans h13
        have h14 := (he 14 (by decide)).trans h14
        have h15 := (he 15 (by decide)).trans h15
        have h16 := (he 16 (by decide)).trans h16
        have h17 := (he 17 (by decide)).trans h17
        have h18 := (he 18 (by decide)).trans h18
        have h19 := (he 19 (by decide)).trans h19
        have h20 := (he 20 (by decide)).trans h20
        have h21 := (he 21 (by decide)).trans h21
        have h22 := (he 22 (by decide)).trans h22
        have h23 := (he 23 (by decide)).trans h23
        have h60 := (he 60 (by decide)).trans h60
        have h61 := (he 61 (by decide)).trans h61
        have h65 := (he 65 (by decide)).trans h65
        have h66 := (he 66 (by decide)).trans h66
        have h77 := (he 77 (by decide)).trans h77
        have h78 := (he 78 (by decide)).trans h78
        have h79 := (he 79 (by decide)).trans h79
        have h80 := (he 80 (by decide)).trans h80
        have h81 := (he 81 (by decide)).trans h81
        have h82 := (he 82 (by decide)).trans h82
        have h83 := (he 83 (by decide)).trans h83
        have h84 := (he 84 (by decide)).trans h84
        have h86 := (he 86 (by decide)).trans h86
        have h87 := (he 87 (by decide)).trans h87
        have h88 := (he 88 (by decide)).trans h88
        have h89 := (he 89 (by decide)).trans h89
        have h90 := (he 90 (by decide)).trans h90
        have h91 := (he 91 (by decide)).trans h91
        have h92 := (he 92 (by decide)).trans h92
        have h93 := (he 93 (by decide)).trans h93
        have h94 := (he 94 (by decide)).trans h94
        have h95 := (he 95 (by decide)).trans h95
        have h96 := (he 96 (by decide)).trans h96
        have h97 := (he 97 (by decide)).trans h97
        have h98 := (he 98 (by decide)).trans h98
        have h99 := (he 99 (by decide)).trans h99
        have h100 := (he 100 (by decide)).trans h100
        have h101 := (he 101 (by decide)).trans h101
        have h102 := (he 102 (by decide)).trans h102
        have h106 := (he 106 (by decide)).trans h106
        have h107 := (he 107 (by decide)).trans h107
        have h108 := (he 108 (by decide)).trans h108
        have hF_ := hF_.ne (fun i h1 => he i (by omega))
        have hS_ := hS_.ne (fun i h1 h2 => he i (by omega))
        refine lv_icmp_eq (tgt := 1069) hx hb dL_law_813 (by decide) (fun c256 => ?_) (fun c256 => ?_)
        · have hf := it_e c256 hf
          obtain ⟨x257, ex257, hf⟩ := lt_e hf
          refine lv_iinc (v := x257) (lv' := [(3, .int x257), (0, .ref b), (1, .ref (ad 0)), (2, .ref (ad 86))]) hx hb dL_law_1069 hl (k := 3) rfl (by rw [ex257]; rfl) (by decide) rfl (fun ls hl => ?_)
          refine lv_goto (tgt := 18) hx hb dL_law_1072 (by decide) ?_
          exact ih x257 tx_len tx_lines tx_ts tx_te tx_b tx_k tx_n t_down t_min t_pac t_gone t_infl t_lik t_str t_from t_unt t_rain t_tell t_wy t_wn t_there t_lift t_none w_src w_over wa_g th_none th_all1 th_all2 th_k1 th_k2 th_size th_one th_two q252.2.1 q252.2.2.1 q252.2.2.2.1 q252.2.2.2.2.1 q252.2.2.2.2.2.1 q252.2.2.2.2.2.2.1 q252.2.2.2.2.2.2.2 l_kinds l_unl d_seed d_min d_gue d_src d_lif m_text m_read m_down m_min m_walk m_gone m_flow m_lik m_str m_from m_to m_rain m_tell m_fy m_fn m_finds q255.2.1 q255.2.2.1 q255.2.2.2 m_mean m_soon m_kinds m_len m_rm m_there m_lift m_blank m_fm m_at m_pl m_end m_seed sL sT sF sU fC fS fM fT fY ad C H locs ls (cells + 3) (slots + 57344) (by omega) (by omega) hI hAd hP hS h0 h1 h2 h3 h4 h5 h6 h7 h8 h9 h10 h11 h12 h13 h14 h15 h16 h17 h18 h19 h20 h21 h22 h23 h60 h61 h65 h66 h77 h78 h79 h80 h81 h82 h83 h84 h86 h87 h88 h89 h90 h91 h92 h93 h94 h95 h96 h97 h98 h99 h100 h101 h102 h103 h104 h105 h106 h107 h108 hF_ hS_ (lv_sub hl [1, 2, 3, 0] rfl) hf
        · have hf := ie_e c256 hf
          refine lv_iconst (v := 0) hx hb dL_law_816 (by decide) ?_
          exact absurd (Option.some.inj hf) (by decide)
      have hf := ie_e c249 hf
      by_cases c258 : x4 = 19
      · have hf := it_e c258 hf
        refine lv_tableIn (tgt := 818) hx hb dL_law_33 (by rw [c258]; decide) (by rw [c258]; decide) (by rw [c258]; rfl) (by decide) ?_
        refine lv_aload_n hx hb dL_law_818 rfl (lv_at hl 1 rfl) ?_
        refine lv_aload_n hx hb dL_law_819 rfl (lv_at hl 0 rfl) ?_
        refine lv_iload_n hx hb dL_law_820 rfl (lv_at hl 3 rfl) ?_
        refine lv_iconst (v := 1) hx hb dL_law_821 (by decide) ?_
        refine lv_iadd hx hb dL_law_822 ?_
        obtain ⟨i260, x259, ex259, hf⟩ := ri_e hf
        refine va_sld hx hb hX hbl hbA hS i260 dL_law_823 ?_
        refine tp_i ex259 ?_
        obtain ⟨q261, hq261, hf⟩ := bd_e hf
        refine k_iA (va_runV (C := RX10) (As := [.int x259]) (rest := []) ⟨hx, hb, hml, hown, hts⟩ (c_X10_mean (l := l) (sz := H.size) (p0 := x259) (by omega : 86 ≤ N) hI h0 h5 h6 h8 h11 h19 h20 h77 h78 h79 h80 hq261) (cwV 1 hts gLV_X10_mean rfl rfl rfl (by decide +kernel) ⟨Nat.le_of_ble_eq_true rfl, Nat.le_of_ble_eq_true rfl⟩) (preV_of hK hP (by omega) h0 rfl) rfl rfl hl.1 rfl (lv_room (Nat.le_of_ble_eq_true rfl)) dL_law_824 ⟨fit1 (by omega), fit3 hc2⟩) hA hAd hS (fun ad C H locs hI hAd hP hS hpo hbz_q261 => ?_)
        obtain ⟨had, he, h77, h78, h79, h80⟩ := hpo
        have h0 : C 0 = .inr (10, [.ref (ad 1), .ref (ad 5), .ref (ad 19), .ref (ad 21), .ref (ad 60), .ref (ad 77), .ref (ad 81), .ref (ad 84), .ref (ad 85)]) := by rw [had 1 (by decide) (by decide) (by decide), had 5 (by decide) (by decide) (by decide), had 19 (by decide) (by decide) (by decide), had 21 (by decide) (by decide) (by decide), had 60 (by decide) (by decide) (by decide), had 77 (by decide) (by decide) (by decide), had 81 (by decide) (by decide) (by decide), had 84 (by decide) (by decide) (by decide), had 85 (by decide) (by decide) (by decide)]; exact (he 0 (by decide)).trans h0
        have h1 : C 1 = .inr (5, [.ref (ad 2), .ref (ad 3), .ref (ad 4), .int tx_len, .int tx_lines, .int tx_ts, .int tx_te]) := by rw [had 2 (by decide) (by decide) (by decide), had 3 (by decide) (by decide) (by decide), had 4 (by decide) (by decide) (by decide)]; exact (he 1 (by decide)).trans h1
        have h2 := (he 2 (by decide)).trans h2
        have h3 := (he 3 (by decide)).trans h3
        have h4 := (he 4 (by decide)).trans h4
        have h5 : C 5 = .inr (7, [.ref (ad 6), .ref (ad 7), .ref (ad 8), .ref (ad 9), .ref (ad 10), .ref (ad 11), .ref (ad 12), .ref (ad 13), .ref (ad 14), .ref (ad 15), .ref (ad 16), .ref (ad 17), .ref (ad 18), .int t_there, .int t_lift, .int t_none]) := by rw [had 6 (by decide) (by decide) (by decide), had 7 (by decide) (by decide) (by decide), had 8 (by decide) (by decide) (by decide), had 9 (by decide) (by decide) (by decide), had 10 (by decide) (by decide) (by decide), had 11 (by decide) (by decide) (by decide), had 12 (by decide) (by decide) (by decide), had 13 (by decide) (by decide) (by decide), had 14 (by decide) (by decide) (by decide), had 15 (by decide) (by decide) (by decide), had 16 (by decide) (by decide) (by decide), had 17 (by decide) (by decide) (by decide), had 18 (by decide) (by decide) (by decide)]; exact (he 5 (by decide)).trans h5
        have h6 := (he 6 (by decide)).trans h6
        have h7 := (he 7 (by decide)).trans h7
        have h8 := (he 8 (by decide)).trans h8
        have h9 := (he 9 (by decide)).trans h9
        have h10 := (he 10 (by decide)).trans h10
        have h11 := (he 11 (by decide)).trans h11
        have h12 := (he 12 (by decide)).trans h12
        have h13 := (he 13 (by decide)).trans h13
        have h14 := (he 14 (by decide)).trans h14
        have h15 := (he 15 (by decide)).trans h15
        have h16 := (he 16 (by decide)).trans h16
        have h17 := (he 17 (by decide)).trans h17
        have h18 := (he 18 (by decide)).trans h18
        have h19 : C 19 = .inr (9, [.ref (ad 5), .ref (ad 20), .int w_src]) := by rw [had 5 (by decide) (by decide) (by decide), had 20 (by decide) (by decide) (by decide)]; exact (he 19 (by decide)).trans h19
        have h20 := (he 20 (by decide)).trans h20
        have h21 : C 21 = .inr (8, [.ref (ad 5), .ref (ad 19), .ref (ad 22), .ref (ad 23)]) := by rw [had 5 (by decide) (by decide) (by decide), had 19 (by decide) (by decide) (by decide), had 22 (by decide) (by decide) (by decide), had 23 (by decide) (by decide) (by decide)]; exact (he 21 (by decide)).trans h21
        have h22 := (he 22 (by decide)).trans h22
        have h23 : C 23 = aS g 12 (fun i => if i < 12 then some (ad (24 + 3 * i)) else none) := ((he 23 (by decide)).trans h23).trans (aS_re (fun i h => had i (by omega) (by omega) (by omega)))
        have h60 : C 60 = .inr (6, [.ref (ad 5), .ref (ad 19), .ref (ad 21), .ref (ad 61), .ref (ad 62), .ref (ad 65), .ref (ad 66), .long th_none, .long th_all1, .long th_all2, .int th_k1, .int th_k2, .int th_size]) := by rw [had 5 (by decide) (by decide) (by decide), had 19 (by decide) (by decide) (by decide), had 21 (by decide) (by decide) (by decide), had 61 (by decide) (by decide) (by decide), had 62 (by decide) (by decide) (by decide), had 65 (by decide) (by decide) (by decide), had 66 (by decide) (by decide) (by decide)]; exact (he 60 (by decide)).trans h60
        have h61 : C 61 = aF g 10 (fun i => if i < 10 then some (ad (67 + i)) else none) := ((he 61 (by decide)).trans h61).trans (aF_re (fun i h => had i (by omega) (by omega) (by omega)))
        have h65 := (he 65 (by decide)).trans h65
        have h66 := (he 66 (by decide)).trans h66
        have h81 : C 81 = .inr (3, [.ref (ad 5), .ref (ad 19), .ref (ad 82), .ref (ad 83)]) := by rw [had 5 (by decide) (by decide) (by decide), had 19 (by decide) (by decide) (by decide), had 82 (by decide) (by decide) (by decide), had 83 (by decide) (by decide) (by decide)]; exact (he 81 (by decide)).trans h81
        have h82 := (he 82 (by decide)).trans h82
        have h83 := (he 83 (by decide)).trans h83
        have h84 : C 84 = .inr (0, [.ref (ad 5), .ref (ad 19), .ref (ad 77), .int d_seed, .int d_min, .int d_gue, .int d_src, .int d_lif]) := by rw [had 5 (by decide) (by decide) (by decide), had 19 (by decide) (by decide) (by decide), had 77 (by decide) (by decide) (by decide)]; exact (he 84 (by decide)).trans h84
        have h86 : C 86 = .inr (11, [.ref (ad 87), .int m_len, .ref (ad 88), .int m_rm, .int m_there, .ref (ad 89), .ref (ad 90), .ref (ad 91), .ref (ad 92), .ref (ad 93), .ref (ad 94), .ref (ad 95), .ref (ad 96), .ref (ad 97), .ref (ad 98), .ref (ad 99), .ref (ad 100), .ref (ad 101), .int m_lift, .int m_blank, .ref (ad 102), .int m_fm, .int m_at, .int m_pl, .int m_end, .ref (ad 103), .ref (ad 104), .ref (ad 105), .ref (ad 106), .ref (ad 107), .ref (ad 108), .int m_seed]) := by rw [had 87 (by decide) (by decide) (by decide), had 88 (by decide) (by decide) (by decide), had 89 (by decide) (by decide) (by decide), had 90 (by decide) (by decide) (by decide), had 91 (by decide) (by decide) (by decide), had 92 (by decide) (by decide) (by decide), had 93 (by decide) (by decide) (by decide), had 94 (by decide) (by decide) (by decide), had 95 (by decide) (by decide) (by decide), had 96 (by decide) (by decide) (by decide), had 97 (by decide) (by decide) (by decide), had 98 (by decide) (by decide) (by decide), had 99 (by decide) (by decide) (by decide), had 100 (by decide) (by decide) (by decide), had 101 (by decide) (by decide) (by decide), had 102 (by decide) (by decide) (by decide), had 103 (by decide) (by decide) (by decide), had 104 (by decide) (by decide) (by decide), had 105 (by decide) (by decide) (by decide), had 106 (by decide) (by decide) (by decide), had 107 (by decide) (by decide) (by decide), had 108 (by decide) (by decide) (by decide)]; exact (he 86 (by decide)).trans h86
        have h87 := (he 87 (by decide)).trans h87
        have h88 := (he 88 (by decide)).trans h88
        have h89 := (he 89 (by decide)).trans h89
        have h90 := (he 90 (by decide)).trans h90
        have h91 := (he 91 (by decide)).trans h91
        have h92 := (he 92 (by decide)).trans h92
        have h93 := (he 93 (by decide)).trans h93
        have h94 := (he 94 (by decide)).trans h94
        have h95 := (he 95 (by decide)).trans h95
        have h96 := (he 96 (by decide)).trans h96
        have h97 := (he 97 (by decide)).trans h97
        have h98 := (he 98 (by decide)).trans h98
        have h99 := (he 99 (by decide)).trans h99
        have h100 := (he 100 (by decide)).trans h100
        have h101 := (he 101 (by decide)).trans h101
        have h102 := (he 102 (by decide)).trans h102
        have h103 := (he 103 (by decide)).trans h103
        have h104 := (he 104 (by decide)).trans h104
        have h105 := (he 105 (by decide)).trans h105
        have h106 := (he 106 (by decide)).trans h106
        have h107 := (he 107 (by decide)).trans h107
        have h108 := (he 108 (by decide)).trans h108
        have hF_ := hF_.ne (fun i h1 => he i (by omega))
        have hS_ := (hS_.re had).ne (fun i h1 h2 => he i (by omega))
        have hl : lv_has ls 4 [(0, .ref b), (1, .ref (ad 0)), (2, .ref (ad 86)), (3, .int x3)] := by rw [had 0 (by decide) (by decide) (by decide), had 86 (by decide) (by decide) (by decide)]; exact hl
        refine lv_aload_n hx hb dL_law_827 rfl (lv_at hl 2 rfl) ?_
        refine lv_aload_n hx hb dL_law_828 rfl (lv_at hl 0 rfl) ?_
        refine lv_iload_n hx hb dL_law_829 rfl (lv_at hl 3 rfl) ?_
        refine lv_iconst (v := 1) hx hb dL_law_830 (by decide) ?_
        refine lv_iadd hx hb dL_law_831 ?_
        obtain ⟨i263, x262, ex262, hf⟩ := ri_e hf
        refine va_sld hx hb hX hbl hbA hS i263 dL_law_832 ?_
        refine tp_i ex262 ?_
        obtain ⟨q264, hq264, hf⟩ := bd_e hf
        refine k_iW (va_runV (C := RX11) (As := [.int x262]) (rest := [.int q261.1]) ⟨hx, hb, hml, hown, hts⟩ (c_X11_mean (l := l) (sz := H.size) (p0 := x262) (by omega : 109 ≤ N) hI h86 h89 h91 h94 h103 h104 h106 hq264) (cwV 1 hts gLV_X11_mean rfl rfl rfl (by decide +kernel) ⟨Nat.le_of_ble_eq_true rfl, Nat.le_of_ble_eq_true rfl⟩) (preV_of hK hP (by omega) h86 rfl) rfl rfl hl.1 rfl (lv_room (Nat.le_of_ble_eq_true rfl)) dL_law_833 ⟨fit1 (by omega), fit4 hc2⟩) hA hAd hS (fun C H locs hP hS hpo hbz_q264 => ?_)
        obtain ⟨he, h103, h104, h106⟩ := hpo
        have h0 := (he 0 (by decide)).trans h0
        have h1 := (he 1 (by decide)).trans h1
        have h2 := (he 2 (by decide)).trans h2
        have h3 := (he 3 (by decide)).trans h3
        have h4 := (he 4 (by decide)).trans h4
        have h5 := (he 5 (by decide)).trans h5
        have h6 := (he 6 (by decide)).trans h6
        have h7 := (he 7 (by decide)).trans h7
        have h8 := (he 8 (by decide)).trans h8
        have h9 := (he 9 (by decide)).trans h9
        have h10 := (he 10 (by decide)).trans h10
        have h11 := (he 11 (by decide)).trans h11
        have h12 := (he 12 (by decide)).trans h12
        have h13 := (he 13 (by decide)).trans h13
        have h14 := (he 14 (by decide)).trans h14
        have h15 := (he 15 (by decide)).trans h15
        have h16 := (he 16 (by decide)).trans h16
        have h17 := (he 17 (by decide)).trans h17
        have h18 := (he 18 (by decide)).trans h18
        have h19 := (he 19 (by decide)).trans h19
        have h20 := (he 20 (by decide)).trans h20
        have h21 := (he 21 (by decide)).trans h21
        have h22 := (he 22 (by decide)).trans h22
        have h23 := (he 23 (by decide)).trans h23
        have h60 := (he 60 (by decide)).trans h60
        have h61 := (he 61 (by decide)).trans h61
        have h65 := (he 65 (by decide)).trans h65
        have h66 := (he 66 (by decide)).trans h66
        have h77 := (he 77 (by decide)).trans h77
        have h78 := (he 78 (by decide)).trans h78
        have h79 := (he 79 (by decide)).trans h79
        have h80 := (he 80 (by decide)).trans h80
        have h81 := (he 81 (by decide)).trans h81
        have h82 := (he 82 (by decide)).trans h82
        have h83 := (he 83 (by decide)).trans h83
        have h84 := (he 84 (by decide)).trans h84
        have h86 := (he 86 (by decide)).trans h86
        have h87 := (he 87 (by decide)).trans h87
        have h88 := (he 88 (by decide)).trans h88
        have h89 := (he 89 (by decide)).trans h89
        have h90 := (he 90 (by decide)).trans h90
        have h91 := (he 91 (by decide)).trans h91
        have h92 := (he 92 (by decide)).trans h92
        have h93 := (he 93 (by decide)).trans h93
        have h94 := (he 94 (by decide)).trans h94
        have h95 := (he 95 (by decide)).trans h95
        have h96 := (he 96 (by decide)).trans h96
        have h97 := (he 97 (by decide)).trans h97
        have h98 := (he 98 (by decide)).trans h98
        have h99 := (he 99 (by decide)).trans h99
        have h100 := (he 100 (by decide)).trans h100
        have h101 := (he 101 (by decide)).trans h101
        have h102 := (he 102 (by decide)).trans h102
        have h105 := (he 105 (by decide)).trans h105
        have h107 := (he 107 (by decide)).trans h107
        have h108 := (he 108 (by decide)).trans h108
        have hF_ := hF_.ne (fun i h1 => he i (by omega))
        have hS_ := hS_.ne (fun i h1 h2 => he i (by omega))
        refine lv_icmp_eq (tgt := 1069) hx hb dL_law_836 (by decide) (fun c265 => ?_) (fun c265 => ?_)
        · have hf := it_e c265 hf
          obtain ⟨x266, ex266, hf⟩ := lt_e hf
          refine lv_iinc (v := x266) (lv' := [(3, .int x266), (0, .ref b), (1, .ref (ad 0)), (2, .ref (ad 86))]) hx hb dL_law_1069 hl (k := 3) rfl (by rw [ex266]; rfl) (by decide) rfl (fun ls hl => ?_)
          refine lv_goto (tgt := 18) hx hb dL_law_1072 (by decide) ?_
          exact ih x266 tx_len tx_lines tx_ts tx_te tx_b tx_k tx_n t_down t_min t_pac t_gone t_infl t_lik t_str t_from t_unt t_rain t_tell t_wy t_wn t_there t_lift t_none w_src w_over wa_g th_none th_all1 th_all2 th_k1 th_k2 th_size th_one th_two q261.2.1 q261.2.2.1 q261.2.2.2.1 q261.2.2.2.2.1 q261.2.2.2.2.2.1 q261.2.2.2.2.2.2.1 q261.2.2.2.2.2.2.2 l_kinds l_unl d_seed d_min d_gue d_src d_lif m_text m_read m_down m_min m_walk m_gone m_flow m_lik m_str m_from m_to m_rain m_tell m_fy m_fn m_finds q264.2.1 q264.2.2.1 m_few q264.2.2.2 m_soon m_kinds m_len m_rm m_there m_lift m_blank m_fm m_at m_pl m_end m_seed sL sT sF sU fC fS fM fT fY ad C H locs ls (cells + 3) (slots + 57344) (by omega) (by omega) hI hAd hP hS h0 h1 h2 h3 h4 h5 h6 h7 h8 h9 h10 h11 h12 h13 h14 h15 h16 h17 h18 h19 h20 h21 h22 h23 h60 h61 h65 h66 h77 h78 h79 h80 h81 h82 h83 h84 h86 h87 h88 h89 h90 h91 h92 h93 h94 h95 h96 h97 h98 h99 h100 h101 h102 h103 h104 h105 h106 h107 h108 hF_ hS_ (lv_sub hl [1, 2, 3, 0] rfl) hf
        · have hf := ie_e c265 hf
          refine lv_iconst (v := 0) hx hb dL_law_839 (by decide) ?_
          exact absurd (Option.some.inj hf) (by decide)
      have hf := ie_e c258 hf
      by_cases c267 : x4 = 20
      · have hf := it_e c267 hf
        refine lv_tableIn (tgt := 841) hx hb dL_law_33 (by rw [c267]; decide) (by rw [c267]; decide) (by rw [c267]; rfl) (by decide) ?_
        refine lv_aload_n hx hb dL_law_841 rfl (lv_at hl 1 rfl) ?_
        refine lv_aload_n hx hb dL_law_842 rfl (lv_at hl 0 rfl) ?_
        refine lv_iload_n hx hb dL_law_843 rfl (lv_at hl 3 rfl) ?_
        refine lv_iconst (v := 1) hx hb dL_law_844 (by decide) ?_
        refine lv_iadd hx hb dL_law_845 ?_
        obtain ⟨i269, x268, ex268, hf⟩ := ri_e hf
        refine va_sld hx hb hX hbl hbA hS i269 dL_law_846 ?_
        refine tp_i ex268 ?_
        refine lv_aload_n hx hb dL_law_847 rfl (lv_at hl 0 rfl) ?_
        refine lv_iload_n hx hb dL_law_848 rfl (lv_at hl 3 rfl) ?_
        refine lv_iconst (v := 2) hx hb dL_law_849 (by decide) ?_
        refine lv_iadd hx hb dL_law_850 ?_
        obtain ⟨i271, x270, ex270, hf⟩ := ri_e hf
        refine va_sld hx hb hX hbl hbA hS i271 dL_law_851 ?_
        refine tp_i ex270 ?_
        obtain ⟨q272, hq272, hf⟩ := bd_e hf
        refine k_iA (va_runV (C := RX10) (As := [.int x268, .int x270]) (rest := []) ⟨hx, hb, hml, hown, hts⟩ (c_X10_soon (l := l) (sz := H.size) (p0 := x268) (p1 := x270) (by omega : 86 ≤ N) hI h0 h5 h6 h8 h11 h19 h20 h77 h78 h79 h80 hq272) (cwV 2 hts gLV_X10_soon rfl rfl rfl (by decide +kernel) ⟨Nat.le_of_ble_eq_true rfl, Nat.le_of_ble_eq_true rfl⟩) (preV_of hK hP (by omega) h0 rfl) rfl rfl hl.1 rfl (lv_room (Nat.le_of_ble_eq_true rfl)) dL_law_852 ⟨fit1 (by omega), fit3 hc2⟩) hA hAd hS (fun ad C H locs hI hAd hP hS hpo hbz_q272 => ?_)
        obtain ⟨had, he, h77, h78, h79, h80⟩ := hpo
        have h0 : C 0 = .inr (10, [.ref (ad 1), .ref (ad 5), .ref (ad 19), .ref (ad 21), .ref (ad 60), .ref (ad 77), .ref (ad 81), .ref (ad 84), .ref (ad 85)]) := by rw [had 1 (by decide) (by decide) (by decide), had 5 (by decide) (by decide) (by decide), had 19 (by decide) (by decide) (by decide), had 21 (by decide) (by decide) (by decide), had 60 (by decide) (by decide) (by decide), had 77 (by decide) (by decide) (by decide), had 81 (by decide) (by decide) (by decide), had 84 (by decide) (by decide) (by decide), had 85 (by decide) (by decide) (by decide)]; exact (he 0 (by decide)).trans h0
        have h1 : C 1 = .inr (5, [.ref (ad 2), .ref (ad 3), .ref (ad 4), .int tx_len, .int tx_lines, .int tx_ts, .int tx_te]) := by rw [had 2 (by decide) (by decide) (by decide), had 3 (by decide) (by decide) (by decide), had 4 (by decide) (by decide) (by decide)]; exact (he 1 (by decide)).trans h1
        have h2 := (he 2 (by decide)).trans h2
        have h3 := (he 3 (by decide)).trans h3
        have h4 := (he 4 (by decide)).trans h4
        have h5 : C 5 = .inr (7, [.ref (ad 6), .ref (ad 7), .ref (ad 8), .ref (ad 9), .ref (ad 10), .ref (ad 11), .ref (ad 12), .ref (ad 13), .ref (ad 14), .ref (ad 15), .ref (ad 16), .ref (ad 17), .ref (ad 18), .int t_there, .int t_lift, .int t_none]) := by rw [had 6 (by decide) (by decide) (by decide), had 7 (by decide) (by decide) (by decide), had 8 (by decide) (by decide) (by decide), had 9 (by decide) (by decide) (by decide), had 10 (by decide) (by decide) (by decide), had 11 (by decide) (by decide) (by decide), had 12 (by decide) (by decide) (by decide), had 13 (by decide) (by decide) (by decide), had 14 (by decide) (by decide) (by decide), had 15 (by decide) (by decide) (by decide), had 16 (by decide) (by decide) (by decide), had 17 (by decide) (by decide) (by decide), had 18 (by decide) (by decide) (by decide)]; exact (he 5 (by decide)).trans h5
        have h6 := (he 6 (by decide)).trans h6
        have h7 := (he 7 (by decide)).trans h7
        have h8 := (he 8 (by decide)).trans h8
        have h9 := (he 9 (by decide)).trans h9
        have h10 := (he 10 (by decide)).trans h10
        have h11 := (he 11 (by decide)).trans h11
        have h12 := (he 12 (by decide)).trans h12
        have h13 := (he 13 (by decide)).trans h13
        have h14 := (he 14 (by decide)).trans h14
        have h15 := (he 15 (by decide)).trans h15
        have h16 := (he 16 (by decide)).trans h16
        have h17 := (he 17 (by decide)).trans h17
        have h18 := (he 18 (by decide)).trans h18
        have h19 : C 19 = .inr (9, [.ref (ad 5), .ref (ad 20), .int w_src]) := by rw [had 5 (by decide) (by decide) (by decide), had 20 (by decide) (by decide) (by decide)]; exact (he 19 (by decide)).trans h19
        have h20 := (he 20 (by decide)).trans h20
        have h21 : C 21 = .inr (8, [.ref (ad 5), .ref (ad 19), .ref (ad 22), .ref (ad 23)]) := by rw [had 5 (by decide) (by decide) (by decide), had 19 (by decide) (by decide) (by decide), had 22 (by decide) (by decide) (by decide), had 23 (by decide) (by decide) (by decide)]; exact (he 21 (by decide)).trans h21
        have h22 := (he 22 (by decide)).trans h22
        have h23 : C 23 = aS g 12 (fun i => if i < 12 then some (ad (24 + 3 * i)) else none) := ((he 23 (by decide)).trans h23).trans (aS_re (fun i h => had i (by omega) (by omega) (by omega)))
        have h60 : C 60 = .inr (6, [.ref (ad 5), .ref (ad 19), .ref (ad 21), .ref (ad 61), .ref (ad 62), .ref (ad 65), .ref (ad 66), .long th_none, .long th_all1, .long th_all2, .int th_k1, .int th_k2, .int th_size]) := by rw [had 5 (by decide) (by decide) (by decide), had 19 (by decide) (by decide) (by decide), had 21 (by decide) (by decide) (by decide), had 61 (by decide) (by decide) (by decide), had 62 (by decide) (by decide) (by decide), had 65 (by decide) (by decide) (by decide), had 66 (by decide) (by decide) (by decide)]; exact (he 60 (by decide)).trans h60
        have h61 : C 61 = aF g 10 (fun i => if i < 10 then some (ad (67 + i)) else none) := ((he 61 (by decide)).trans h61).trans (aF_re (fun i h => had i (by omega) (by omega) (by omega)))
        have h65 := (he 65 (by decide)).trans h65
        have h66 := (he 66 (by decide)).trans h66
        have h81 : C 81 = .inr (3, [.ref (ad 5), .ref (ad 19), .ref (ad 82), .ref (ad 83)]) := by rw [had 5 (by decide) (by decide) (by decide), had 19 (by decide) (by decide) (by decide), had 82 (by decide) (by decide) (by decide), had 83 (by decide) (by decide) (by decide)]; exact (he 81 (by decide)).trans h81
        have h82 := (he 82 (by decide)).trans h82
        have h83 := (he 83 (by decide)).trans h83
        have h84 : C 84 = .inr (0, [.ref (ad 5), .ref (ad 19), .ref (ad 77), .int d_seed, .int d_min, .int d_gue, .int d_src, .int d_lif]) := by rw [had 5 (by decide) (by decide) (by decide), had 19 (by decide) (by decide) (by decide), had 77 (by decide) (by decide) (by decide)]; exact (he 84 (by decide)).trans h84
        have h86 : C 86 = .inr (11, [.ref (ad 87), .int m_len, .ref (ad 88), .int m_rm, .int m_there, .ref (ad 89), .ref (ad 90), .ref (ad 91), .ref (ad 92), .ref (ad 93), .ref (ad 94), .ref (ad 95), .ref (ad 96), .ref (ad 97), .ref (ad 98), .ref (ad 99), .ref (ad 100), .ref (ad 101), .int m_lift, .int m_blank, .ref (ad 102), .int m_fm, .int m_at, .int m_pl, .int m_end, .ref (ad 103), .ref (ad 104), .ref (ad 105), .ref (ad 106), .ref (ad 107), .ref (ad 108), .int m_seed]) := by rw [had 87 (by decide) (by decide) (by decide), had 88 (by decide) (by decide) (by decide), had 89 (by decide) (by decide) (by decide), had 90 (by decide) (by decide) (by decide), had 91 (by decide) (by decide) (by decide), had 92 (by decide) (by decide) (by decide), had 93 (by decide) (by decide) (by decide), had 94 (by decide) (by decide) (by decide), had 95 (by decide) (by decide) (by decide), had 96 (by decide) (by decide) (by decide), had 97 (by decide) (by decide) (by decide), had 98 (by decide) (by decide) (by decide), had 99 (by decide) (by decide) (by decide), had 100 (by decide) (by decide) (by decide), had 101 (by decide) (by decide) (by decide), had 102 (by decide) (by decide) (by decide), had 103 (by decide) (by decide) (by decide), had 104 (by decide) (by decide) (by decide), had 105 (by decide) (by decide) (by decide), had 106 (by decide) (by decide) (by decide), had 107 (by decide) (by decide) (by decide), had 108 (by decide) (by decide) (by decide)]; exact (he 86 (by decide)).trans h86
        have h87 := (he 87 (by decide)).trans h87
        have h88 := (he 88 (by decide)).trans h88
        have h89 := (he 89 (by decide)).trans h89
        have h90 := (he 90 (by decide)).trans h90
        have h91 := (he 91 (by decide)).trans h91
        have h92 := (he 92 (by decide)).trans h92
        have h93 := (he 93 (by decide)).trans h93
        have h94 := (he 94 (by decide)).trans h94
        have h95 := (he 95 (by decide)).trans h95
        have h96 := (he 96 (by decide)).trans h96
        have h97 := (he 97 (by decide)).trans h97
        have h98 := (he 98 (by decide)).trans h98
        have h99 := (he 99 (by decide)).trans h99
        have h100 := (he 100 (by decide)).trans h100
        have h101 := (he 101 (by decide)).trans h101
        have h102 := (he 102 (by decide)).trans h102
        have h103 := (he 103 (by decide)).trans h103
        have h104 := (he 104 (by decide)).trans h104
        have h105 := (he 105 (by decide)).trans h105
        have h106 := (he 106 (by decide)).trans h106
        have h107 := (he 107 (by decide)).trans h107
        have h108 := (he 108 (by decide)).trans h108
        have hF_ := hF_.ne (fun i h1 => he i (by omega))
        have hS_ := (hS_.re had).ne (fun i h1 h2 => he i (by omega))
        have hl : lv_has ls 4 [(0, .ref b), (1, .ref (ad 0)), (2, .ref (ad 86)), (3, .int x3)] := by rw [had 0 (by decide) (by decide) (by decide), had 86 (by decide) (by decide) (by decide)]; exact hl
        refine lv_aload_n hx hb dL_law_855 rfl (lv_at hl 2 rfl) ?_
        refine lv_aload_n hx hb dL_law_856 rfl (lv_at hl 0 rfl) ?_
        refine lv_iload_n hx hb dL_law_857 rfl (lv_at hl 3 rfl) ?_
        refine lv_iconst (v := 1) hx hb dL_law_858 (by decide) ?_
        refine lv_iadd hx hb dL_law_859 ?_
        obtain ⟨i274, x273, ex273, hf⟩ := ri_e hf
        refine va_sld hx hb hX hbl hbA hS i274 dL_law_860 ?_
        refine tp_i ex273 ?_
        refine lv_aload_n hx hb dL_law_861 rfl (lv_at hl 0 rfl) ?_
        refine lv_iload_n hx hb dL_law_862 rfl (lv_at hl 3 rfl) ?_
        refine lv_iconst (v := 2) hx hb dL_law_863 (by decide) ?_
        refine lv_iadd hx hb dL_law_864 ?_
        obtain ⟨i276, x275, ex275, hf⟩ := ri_e hf
        refine va_sld hx hb hX hbl hbA hS i276 dL_law_865 ?_
        refine tp_i ex275 ?_
        obtain ⟨q277, hq277, hf⟩ := bd_e hf
        refine k_iW (va_runV (C := RX11) (As := [.int x273, .int x275]) (rest := [.int q272.1]) ⟨hx, hb, hml, hown, hts⟩ (c_X11_soon (l := l) (sz := H.size) (p0 := x273) (p1 := x275) (by omega : 109 ≤ N) hI h86 h89 h91 h94 h103 h104 h107 hq277) (cwV 2 hts gLV_X11_soon rfl rfl rfl (by decide +kernel) ⟨Nat.le_of_ble_eq_true rfl, Nat.le_of_ble_eq_true rfl⟩) (preV_of hK hP (by omega) h86 rfl) rfl rfl hl.1 rfl (lv_room (Nat.le_of_ble_eq_true rfl)) dL_law_866 ⟨fit1 (by omega), fit4 hc2⟩) hA hAd hS (fun C H locs hP hS hpo hbz_q277 => ?_)
        obtain ⟨he, h103, h104, h107⟩ := hpo
        have h0 := (he 0 (by decide)).trans h0
        have h1 := (he 1 (by decide)).trans h1
        have h2 := (he 2 (by decide)).trans h2
        have h3 := (he 3 (by decide)).trans h3
        have h4 := (he 4 (by decide)).trans h4
        have h5 := (he 5 (by decide)).trans h5
        have h6 := (he 6 (by decide)).trans h6
        have h7 := (he 7 (by decide)).trans h7
        have h8 := (he 8 (by decide)).trans h8
        have h9 := (he 9 (by decide)).trans h9
        have h10 := (he 10 (by decide)).trans h10
        have h11 := (he 11 (by decide)).trans h11
        have h12 := (he 12 (by decide)).trans h12
        have h13 := (he 13 (by decide)).trans h13
        have h14 := (he 14 (by decide)).trans h14
        have h15 := (he 15 (by decide)).trans h15
        have h16 := (he 16 (by decide)).trans h16
        have h17 := (he 17 (by decide)).trans h17
        have h18 := (he 18 (by decide)).trans h18
        have h19 := (he 19 (by decide)).trans h19
        have h20 := (he 20 (by decide)).trans h20
        have h21 := (he 21 (by decide)).trans h21
        have h22 := (he 22 (by decide)).trans h22
        have h23 := (he 23 (by decide)).trans h23
        have h60 := (he 60 (by decide)).trans h60
        have h61 := (he 61 (by decide)).trans h61
        have h65 := (he 65 (by decide)).trans h65
        have h66 := (he 66 (by decide)).trans h66
        have h77 := (he 77 (by decide)).trans h77
        have h78 := (he 78 (by decide)).trans h78
        have h79 := (he 79 (by decide)).trans h79
        have h80 := (he 80 (by decide)).trans h80
        have h81 := (he 81 (by decide)).trans h81
        have h82 := (he 82 (by decide)).trans h82
        have h83 := (he 83 (by decide)).trans h83
        have h84 := (he 84 (by decide)).trans h84
        have h86 := (he 86 (by decide)).trans h86
        have h87 := (he 87 (by decide)).trans h87
        have h88 := (he 88 (by decide)).trans h88
        have h89 := (he 89 (by decide)).trans h89
        have h90 := (he 90 (by decide)).trans h90
        have h91 := (he 91 (by decide)).trans h91
        have h92 := (he 92 (by decide)).trans h92
        have h93 := (he 93 (by decide)).trans h93
        have h94 := (he 94 (by decide)).trans h94
        have h95 := (he 95 (by decide)).trans h95
        have h96 := (he 96 (by decide)).trans h96
        have h97 := (he 97 (by decide)).trans h97
        have h98 := (he 98 (by decide)).trans h98
        have h99 := (he 99 (by decide)).trans h99
        have h100 := (he 100 (by decide)).trans h100
        have h101 := (he 101 (by decide)).trans h101
        have h102 := (he 102 (by decide)).trans h102
        have h105 := (he 105 (by decide)).trans h105
        have h106 := (he 106 (by decide)).trans h106
        have h108 := (he 108 (by decide)).trans h108
        have hF_ := hF_.ne (fun i h1 => he i (by omega))
        have hS_ := hS_.ne (fun i h1 h2 => he i (by omega))
        refine lv_icmp_eq (tgt := 1069) hx hb dL_law_869 (by decide) (fun c278 => ?_) (fun c278 => ?_)
        · have hf := it_e c278 hf
          obtain ⟨x279, ex279, hf⟩ := lt_e hf
          refine lv_iinc (v := x279) (lv' := [(3, .int x279), (0, .ref b), (1, .ref (ad 0)), (2, .ref (ad 86))]) hx hb dL_law_1069 hl (k := 3) rfl (by rw [ex279]; rfl) (by decide) rfl (fun ls hl => ?_)
          refine lv_goto (tgt := 18) hx hb dL_law_1072 (by decide) ?_
          exact ih x279 tx_len tx_lines tx_ts tx_te tx_b tx_k tx_n t_down t_min t_pac t_gone t_infl t_lik t_str t_from t_unt t_rain t_tell t_wy t_wn t_there t_lift t_none w_src w_over wa_g th_none th_all1 th_all2 th_k1 th_k2 th_size th_one th_two q272.2.1 q272.2.2.1 q272.2.2.2.1 q272.2.2.2.2.1 q272.2.2.2.2.2.1 q272.2.2.2.2.2.2.1 q272.2.2.2.2.2.2.2 l_kinds l_unl d_seed d_min d_gue d_src d_lif m_text m_read m_down m_min m_walk m_gone m_flow m_lik m_str m_from m_to m_rain m_tell m_fy m_fn m_finds q277.2.1 q277.2.2.1 m_few m_mean q277.2.2.2 m_kinds m_len m_rm m_there m_lift m_blank m_fm m_at m_pl m_end m_seed sL sT sF sU fC fS fM fT fY ad C H locs ls (cells + 3) (slots + 57344) (by omega) (by omega) hI hAd hP hS h0 h1 h2 h3 h4 h5 h6 h7 h8 h9 h10 h11 h12 h13 h14 h15 h16 h17 h18 h19 h20 h21 h22 h23 h60 h61 h65 h66 h77 h78 h79 h80 h81 h82 h83 h84 h86 h87 h88 h89 h90 h91 h92 h93 h94 h95 h96 h97 h98 h99 h100 h101 h102 h103 h104 h105 h106 h107 h108 hF_ hS_ (lv_sub hl [1, 2, 3, 0] rfl) hf
        · have hf := ie_e c278 hf
          refine lv_iconst (v := 0) hx hb dL_law_872 (by decide) ?_
          exact absurd (Option.some.inj hf) (by decide)
      have hf := ie_e c267 hf
      by_cases c280 : x4 = 21
      · have hf := it_e c280 hf
        refine lv_tableIn (tgt := 874) hx hb dL_law_33 (by rw [c280]; decide) (by rw [c280]; decide) (by rw [c280]; rfl) (by decide) ?_
        refine lv_aload_n hx hb dL_law_874 rfl (lv_at hl 1 rfl) ?_
        refine lv_aload_n hx hb dL_law_875 rfl (lv_at hl 0 rfl) ?_
        refine lv_iload_n hx hb dL_law_876 rfl (lv_at hl 3 rfl) ?_
        refine lv_iconst (v := 1) hx hb dL_law_877 (by decide) ?_
        refine lv_iadd hx hb dL_law_878 ?_
        obtain ⟨i282, x281, ex281, hf⟩ := ri_e hf
        refine va_sld hx hb hX hbl hbA hS i282 dL_law_879 ?_
        refine tp_i ex281 ?_
        refine lv_aload_n hx hb dL_law_880 rfl (lv_at hl 0 rfl) ?_
        refine lv_iload_n hx hb dL_law_881 rfl (lv_at hl 3 rfl) ?_
        refine lv_iconst (v := 2) hx hb dL_law_882 (by decide) ?_
        refine lv_iadd hx hb dL_law_883 ?_
        obtain ⟨i284, x283, ex283, hf⟩ := ri_e hf
        refine va_sld hx hb hX hbl hbA hS i284 dL_law_884 ?_
        refine tp_i ex283 ?_
        refine lv_aload_n hx hb dL_law_885 rfl (lv_at hl 0 rfl) ?_
        refine lv_iload_n hx hb dL_law_886 rfl (lv_at hl 3 rfl) ?_
        refine lv_iconst (v := 3) hx hb dL_law_887 (by decide) ?_
        refine lv_iadd hx hb dL_law_888 ?_
        obtain ⟨i286, x285, ex285, hf⟩ := ri_e hf
        refine va_sld hx hb hX hbl hbA hS i286 dL_law_889 ?_
        refine tp_i ex285 ?_
        refine lv_aload_n hx hb dL_law_890 rfl (lv_at hl 0 rfl) ?_
        refine lv_iload_n hx hb dL_law_891 rfl (lv_at hl 3 rfl) ?_
        refine lv_iconst (v := 4) hx hb dL_law_892 (by decide) ?_
        refine lv_iadd hx hb dL_law_893 ?_
        obtain ⟨i288, x287, ex287, hf⟩ := ri_e hf
        refine va_sld hx hb hX hbl hbA hS i288 dL_law_894 ?_
        refine tp_i ex287 ?_
        obtain ⟨q289, hq289, hf⟩ := bd_e hf
        refine k_iW (va_runV (C := RX10) (As := [.int x281, .int x283, .int x285, .int x287]) (rest := []) ⟨hx, hb, hml, hown, hts⟩ (c_X10_row (l := l) (sz := H.size) (p0 := x281) (p1 := x283) (p2 := x285) (p3 := x287) (by omega : 86 ≤ N) hI h0 h5 h6 h8 h19 h20 h81 h82 hq289) (cwV 4 hts gLV_X10_row rfl rfl rfl (by decide +kernel) ⟨Nat.le_of_ble_eq_true rfl, Nat.le_of_ble_eq_true rfl⟩) (preV_of hK hP (by omega) h0 rfl) rfl rfl hl.1 rfl (lv_room (Nat.le_of_ble_eq_true rfl)) dL_law_895 ⟨fit1 (by omega), fit2 (by omega)⟩) hA hAd hS (fun C H locs hP hS hpo hbz_q289 => ?_)
        obtain ⟨he, h82⟩ := hpo
        have h0 := (he 0 (by decide)).trans h0
        have h1 := (he 1 (by decide)).trans h1
        have h2 := (he 2 (by decide)).trans h2
        have h3 := (he 3 (by decide)).trans h3
        have h4 := (he 4 (by decide)).trans h4
        have h5 := (he 5 (by decide)).trans h5
        have h6 := (he 6 (by decide)).trans h6
        have h7 := (he 7 (by decide)).trans h7
        have h8 := (he 8 (by decide)).trans h8
        have h9 := (he 9 (by decide)).trans h9
        have h10 := (he 10 (by decide)).trans h10
        have h11 := (he 11 (by decide)).trans h11
        have h12 := (he 12 (by decide)).trans h12
        have h13 := (he 13 (by decide)).trans h13
        have h14 := (he 14 (by decide)).trans h14
        have h15 := (he 15 (by decide)).trans h15
        have h16 := (he 16 (by decide)).trans h16
        have h17 := (he 17 (by decide)).trans h17
        have h18 := (he 18 (by decide)).trans h18
        have h19 := (he 19 (by decide)).trans h19
        have h20 := (he 20 (by decide)).trans h20
        have h21 := (he 21 (by decide)).trans h21
        have h22 := (he 22 (by decide)).trans h22
        have h23 := (he 23 (by decide)).trans h23
        have h60 := (he 60 (by decide)).trans h60
        have h61 := (he 61 (by decide)).trans h61
        have h65 := (he 65 (by decide)).trans h65
        have h66 := (he 66 (by decide)).trans h66
        have h77 := (he 77 (by decide)).trans h77
        have h78 := (he 78 (by decide)).trans h78
        have h79 := (he 79 (by decide)).trans h79
        have h80 := (he 80 (by decide)).trans h80
        have h81 := (he 81 (by decide)).trans h81
        have h83 := (he 83 (by decide)).trans h83
        have h84 := (he 84 (by decide)).trans h84
        have h86 := (he 86 (by decide)).trans h86
        have h87 := (he 87 (by decide)).trans h87
        have h88 := (he 88 (by decide)).trans h88
        have h89 := (he 89 (by decide)).trans h89
        have h90 := (he 90 (by decide)).trans h90
        have h91 := (he 91 (by decide)).trans h91
        have h92 := (he 92 (by decide)).trans h92
        have h93 := (he 93 (by decide)).trans h93
        have h94 := (he 94 (by decide)).trans h94
        have h95 := (he 95 (by decide)).trans h95
        have h96 := (he 96 (by decide)).trans h96
        have h97 := (he 97 (by decide)).trans h97
        have h98 := (he 98 (by decide)).trans h98
        have h99 := (he 99 (by decide)).trans h99
        have h100 := (he 100 (by decide)).trans h100
        have h101 := (he 101 (by decide)).trans h101
        have h102 := (he 102 (by decide)).trans h102
        have h103 := (he 103 (by decide)).trans h103
        have h104 := (he 104 (by decide)).trans h104
        have h105 := (he 105 (by decide)).trans h105
        have h106 := (he 106 (by decide)).trans h106
        have h107 := (he 107 (by decide)).trans h107
        have h108 := (he 108 (by decide)).trans h108
        have hF_ := hF_.ne (fun i h1 => he i (by omega))
        have hS_ := hS_.ne (fun i h1 h2 => he i (by omega))
        refine lv_aload_n hx hb dL_law_898 rfl (lv_at hl 2 rfl) ?_
        refine lv_aload_n hx hb dL_law_899 rfl (lv_at hl 0 rfl) ?_
        refine lv_iload_n hx hb dL_law_900 rfl (lv_at hl 3 rfl) ?_
        refine lv_iconst (v := 1) hx hb dL_law_901 (by decide) ?_
        refine lv_iadd hx hb dL_law_902 ?_
        obtain ⟨i291, x290, ex290, hf⟩ := ri_e hf
        refine va_sld hx hb hX hbl hbA hS i291 dL_law_903 ?_
        refine tp_i ex290 ?_
        refine lv_aload_n hx hb dL_law_904 rfl (lv_at hl 0 rfl) ?_
        refine lv_iload_n hx hb dL_law_905 rfl (lv_at hl 3 rfl) ?_
        refine lv_iconst (v := 2) hx hb dL_law_906 (by decide) ?_
        refine lv_iadd hx hb dL_law_907 ?_
        obtain ⟨i293, x292, ex292, hf⟩ := ri_e hf
        refine va_sld hx hb hX hbl hbA hS i293 dL_law_908 ?_
        refine tp_i ex292 ?_
        refine lv_aload_n hx hb dL_law_909 rfl (lv_at hl 0 rfl) ?_
        refine lv_iload_n hx hb dL_law_910 rfl (lv_at hl 3 rfl) ?_
        refine lv_iconst (v := 3) hx hb dL_law_911 (by decide) ?_
        refine lv_iadd hx hb dL_law_912 ?_
        obtain ⟨i295, x294, ex294, hf⟩ := ri_e hf
        refine va_sld hx hb hX hbl hbA hS i295 dL_law_913 ?_
        refine tp_i ex294 ?_
        refine lv_aload_n hx hb dL_law_914 rfl (lv_at hl 0 rfl) ?_
        refine lv_iload_n hx hb dL_law_915 rfl (lv_at hl 3 rfl) ?_
        refine lv_iconst (v := 4) hx hb dL_law_916 (by decide) ?_
        refine lv_iadd hx hb dL_law_917 ?_
        obtain ⟨i297, x296, ex296, hf⟩ := ri_e hf
        refine va_sld hx hb hX hbl hbA hS i297 dL_law_918 ?_
        refine tp_i ex296 ?_
        obtain ⟨q298, hq298, hf⟩ := bd_e hf
        refine k_iW (va_runV (C := RX11) (As := [.int x290, .int x292, .int x294, .int x296]) (rest := [.int q289.1]) ⟨hx, hb, hml, hown, hts⟩ (c_X11_row (l := l) (sz := H.size) (p0 := x290) (p1 := x292) (p2 := x294) (p3 := x296) (by omega : 109 ≤ N) hI h86 h89 h91 h94 h108 hq298) (cwV 4 hts gLV_X11_row rfl rfl rfl (by decide +kernel) ⟨Nat.le_of_ble_eq_true rfl, Nat.le_of_ble_eq_true rfl⟩) (preV_of hK hP (by omega) h86 rfl) rfl rfl hl.1 rfl (lv_room (Nat.le_of_ble_eq_true rfl)) dL_law_919 ⟨fit1 (by omega), fit2 (by omega)⟩) hA hAd hS (fun C H locs hP hS hpo hbz_q298 => ?_)
        obtain ⟨he, h108⟩ := hpo
        have h0 := (he 0 (by decide)).trans h0
        have h1 := (he 1 (by decide)).trans h1
        have h2 := (he 2 (by decide)).trans h2
        have h3 := (he 3 (by decide)).trans h3
        have h4 := (he 4 (by decide)).trans h4
        have h5 := (he 5 (by decide)).trans h5
        have h6 := (he 6 (by decide)).trans h6
        have h7 := (he 7 (by decide)).trans h7
        have h8 := (he 8 (by decide)).trans h8
        have h9 := (he 9 (by decide)).trans h9
        have h10 := (he 10 (by decide)).trans h10
        have h11 := (he 11 (by decide)).trans h11
        have h12 := (he 12 (by decide)).trans h12
        have h13 := (he 13 (by decide)).trans h13
        have h14 := (he 14 (by decide)).trans h14
        have h15 := (he 15 (by decide)).trans h15
        have h16 := (he 16 (by decide)).trans h16
        have h17 := (he 17 (by decide)).trans h17
        have h18 := (he 18 (by decide)).trans h18
        have h19 := (he 19 (by decide)).trans h19
        have h20 := (he 20 (by decide)).trans h20
        have h21 := (he 21 (by decide)).trans h21
        have h22 := (he 22 (by decide)).trans h22
        have h23 := (he 23 (by decide)).trans h23
        have h60 := (he 60 (by decide)).trans h60
        have h61 := (he 61 (by decide)).trans h61
        have h65 := (he 65 (by decide)).trans h65
        have h66 := (he 66 (by decide)).trans h66
        have h77 := (he 77 (by decide)).trans h77
        have h78 := (he 78 (by decide)).trans h78
        have h79 := (he 79 (by decide)).trans h79
        have h80 := (he 80 (by decide)).trans h80
        have h81 := (he 81 (by decide)).trans h81
        have h82 := (he 82 (by decide)).trans h82
        have h83 := (he 83 (by decide)).trans h83
        have h84 := (he 84 (by decide)).trans h84
        have h86 := (he 86 (by decide)).trans h86
        have h87 := (he 87 (by decide)).trans h87
        have h88 := (he 88 (by decide)).trans h88
        have h89 := (he 89 (by decide)).trans h89
        have h90 := (he 90 (by decide)).trans h90
        have h91 := (he 91 (by decide)).trans h91
        have h92 := (he 92 (by decide)).trans h92
        have h93 := (he 93 (by decide)).trans h93
        have h94 := (he 94 (by decide)).trans h94
        have h95 := (he 95 (by decide)).trans h95
        have h96 := (he 96 (by decide)).trans h96
        have h97 := (he 97 (by decide)).trans h97
        have h98 := (he 98 (by decide)).trans h98
        have h99 := (he 99 (by decide)).trans h99
        have h100 := (he 100 (by decide)).trans h100
        have h101 := (he 101 (by decide)).trans h101
        have h102 := (he 102 (by decide)).trans h102
        have h103 := (he 103 (by decide)).trans h103
        have h104 := (he 104 (by decide)).trans h104
        have h105 := (he 105 (by decide)).trans h105
        have h106 := (he 106 (by decide)).trans h106
        have h107 := (he 107 (by decide)).trans h107
        have hF_ := hF_.ne (fun i h1 => he i (by omega))
        have hS_ := hS_.ne (fun i h1 h2 => he i (by omega))
        refine lv_icmp_eq (tgt := 1069) hx hb dL_law_922 (by decide) (fun c299 => ?_) (fun c299 => ?_)
        · have hf := it_e c299 hf
          obtain ⟨x300, ex300, hf⟩ := lt_e hf
          refine lv_iinc (v := x300) (lv' := [(3, .int x300), (0, .ref b), (1, .ref (ad 0)), (2, .ref (ad 86))]) hx hb dL_law_1069 hl (k := 3) rfl (by rw [ex300]; rfl) (by decide) rfl (fun ls hl => ?_)
          refine lv_goto (tgt := 18) hx hb dL_law_1072 (by decide) ?_
          exact ih x300 tx_len tx_lines tx_ts tx_te tx_b tx_k tx_n t_down t_min t_pac t_gone t_infl t_lik t_str t_from t_unt t_rain t_tell t_wy t_wn t_there t_lift t_none w_src w_over wa_g th_none th_all1 th_all2 th_k1 th_k2 th_size th_one th_two h_solved h_few h_sum h_min hn1 hn2 hn3 q289.2 l_unl d_seed d_min d_gue d_src d_lif m_text m_read m_down m_min m_walk m_gone m_flow m_lik m_str m_from m_to m_rain m_tell m_fy m_fn m_finds m_abv m_apart m_few m_mean m_soon q298.2 m_len m_rm m_there m_lift m_blank m_fm m_at m_pl m_end m_seed sL sT sF sU fC fS fM fT fY ad C H locs ls cells slots (by omega) (by omega) hI hAd hP hS h0 h1 h2 h3 h4 h5 h6 h7 h8 h9 h10 h11 h12 h13 h14 h15 h16 h17 h18 h19 h20 h21 h22 h23 h60 h61 h65 h66 h77 h78 h79 h80 h81 h82 h83 h84 h86 h87 h88 h89 h90 h91 h92 h93 h94 h95 h96 h97 h98 h99 h100 h101 h102 h103 h104 h105 h106 h107 h108 hF_ hS_ (lv_sub hl [1, 2, 3, 0] rfl) hf
        · have hf := ie_e c299 hf
          refine lv_iconst (v := 0) hx hb dL_law_925 (by decide) ?_
          exact absurd (Option.some.inj hf) (by decide)
      have hf := ie_e c280 hf
      by_cases c301 : x4 = 22
      · have hf := it_e c301 hf
        refine lv_tableIn (tgt := 927) hx hb dL_law_33 (by rw [c301]; decide) (by rw [c301]; decide) (by rw [c301]; rfl) (by decide) ?_
        refine lv_aload_n hx hb dL_law_927 rfl (lv_at hl 1 rfl) ?_
        refine lv_aload_n hx hb dL_law_928 rfl (lv_at hl 0 rfl) ?_
        refine lv_iload_n hx hb dL_law_929 rfl (lv_at hl 3 rfl) ?_
        refine lv_iconst (v := 1) hx hb dL_law_930 (by decide) ?_
        refine lv_iadd hx hb dL_law_931 ?_
        obtain ⟨i303, x302, ex302, hf⟩ := ri_e hf
        refine va_sld hx hb hX hbl hbA hS i303 dL_law_932 ?_
        refine tp_i ex302 ?_
        refine lv_aload_n hx hb dL_law_933 rfl (lv_at hl 0 rfl) ?_
        refine lv_iload_n hx hb dL_law_934 rfl (lv_at hl 3 rfl) ?_
        refine lv_iconst (v := 2) hx hb dL_law_935 (by decide) ?_
        refine lv_iadd hx hb dL_law_936 ?_
        obtain ⟨i305, x304, ex304, hf⟩ := ri_e hf
        refine va_sld hx hb hX hbl hbA hS i305 dL_law_937 ?_
        refine tp_i ex304 ?_
        refine lv_aload_n hx hb dL_law_938 rfl (lv_at hl 0 rfl) ?_
        refine lv_iload_n hx hb dL_law_939 rfl (lv_at hl 3 rfl) ?_
        refine lv_iconst (v := 3) hx hb dL_law_940 (by decide) ?_
        refine lv_iadd hx hb dL_law_941 ?_
        obtain ⟨i307, x306, ex306, hf⟩ := ri_e hf
        refine va_sld hx hb hX hbl hbA hS i307 dL_law_942 ?_
        refine tp_i ex306 ?_
        refine lv_aload_n hx hb dL_law_943 rfl (lv_at hl 0 rfl) ?_
        refine lv_iload_n hx hb dL_law_944 rfl (lv_at hl 3 rfl) ?_
        refine lv_iconst (v := 4) hx hb dL_law_945 (by decide) ?_
        refine lv_iadd hx hb dL_law_946 ?_
        obtain ⟨i309, x308, ex308, hf⟩ := ri_e hf
        refine va_sld hx hb hX hbl hbA hS i309 dL_law_947 ?_
        refine tp_i ex308 ?_
        obtain ⟨q310, hq310, hf⟩ := bd_e hf
        refine k_iR (va_runV (C := RX10) (As := [.int x302, .int x304, .int x306, .int x308]) (rest := []) ⟨hx, hb, hml, hown, hts⟩ (c_X10_answers (l := l) (sz := H.size) (p0 := x302) (p1 := x304) (p2 := x306) (p3 := x308) (by omega : 86 ≤ N) h0 h5 h6 h8 h19 h20 h81 hq310) (cwV 4 hts gLV_X10_answers rfl rfl rfl (by decide +kernel) ⟨Nat.le_of_ble_eq_true rfl, Nat.le_of_ble_eq_true rfl⟩) (preV_of hK hP (by omega) h0 rfl) rfl rfl hl.1 rfl (lv_room (Nat.le_of_ble_eq_true rfl)) dL_law_948 ⟨fit1 (by omega), fit2 (by omega)⟩) hA hP hS (fun H locs hP hS hbz_q310 => ?_)
        refine lv_aload_n hx hb dL_law_951 rfl (lv_at hl 2 rfl) ?_
        refine lv_aload_n hx hb dL_law_952 rfl (lv_at hl 0 rfl) ?_
        refine lv_iload_n hx hb dL_law_953 rfl (lv_at hl 3 rfl) ?_
        refine lv_iconst (v := 1) hx hb dL_law_954 (by decide) ?_
        refine lv_iadd hx hb dL_law_955 ?_
        obtain ⟨i312, x311, ex311, hf⟩ := ri_e hf
        refine va_sld hx hb hX hbl hbA hS i312 dL_law_956 ?_
        refine tp_i ex311 ?_
        refine lv_aload_n hx hb dL_law_957 rfl (lv_at hl 0 rfl) ?_
        refine lv_iload_n hx hb dL_law_958 rfl (lv_at hl 3 rfl) ?_
        refine lv_iconst (v := 2) hx hb dL_law_959 (by decide) ?_
        refine lv_iadd hx hb dL_law_960 ?_
        obtain ⟨i314, x313, ex313, hf⟩ := ri_e hf
        refine va_sld hx hb hX hbl hbA hS i314 dL_law_961 ?_
        refine tp_i ex313 ?_
        refine lv_aload_n hx hb dL_law_962 rfl (lv_at hl 0 rfl) ?_
        refine lv_iload_n hx hb dL_law_963 rfl (lv_at hl 3 rfl) ?_
        refine lv_iconst (v := 3) hx hb dL_law_964 (by decide) ?_
        refine lv_iadd hx hb dL_law_965 ?_
        obtain ⟨i316, x315, ex315, hf⟩ := ri_e hf
        refine va_sld hx hb hX hbl hbA hS i316 dL_law_966 ?_
        refine tp_i ex315 ?_
        refine lv_aload_n hx hb dL_law_967 rfl (lv_at hl 0 rfl) ?_
        refine lv_iload_n hx hb dL_law_968 rfl (lv_at hl 3 rfl) ?_
        refine lv_iconst (v := 4) hx hb dL_law_969 (by decide) ?_
        refine lv_iadd hx hb dL_law_970 ?_
        obtain ⟨i318, x317, ex317, hf⟩ := ri_e hf
        refine va_sld hx hb hX hbl hbA hS i318 dL_law_971 ?_
        refine tp_i ex317 ?_
        obtain ⟨q319, hq319, hf⟩ := bd_e hf
        refine k_iR (va_runV (C := RX11) (As := [.int x311, .int x313, .int x315, .int x317]) (rest := [.int q310]) ⟨hx, hb, hml, hown, hts⟩ (c_X11_answers (l := l) (sz := H.size) (p0 := x311) (p1 := x313) (p2 := x315) (p3 := x317) (by omega : 109 ≤ N) h86 h89 h91 h94 hq319) (cwV 4 hts gLV_X11_answers rfl rfl rfl (by decide +kernel) ⟨Nat.le_of_ble_eq_true rfl, Nat.le_of_ble_eq_true rfl⟩) (preV_of hK hP (by omega) h86 rfl) rfl rfl hl.1 rfl (lv_room (Nat.le_of_ble_eq_true rfl)) dL_law_972 ⟨fit1 (by omega), fit2 (by omega)⟩) hA hP hS (fun H locs hP hS hbz_q319 => ?_)
        refine lv_icmp_eq (tgt := 1069) hx hb dL_law_975 (by decide) (fun c320 => ?_) (fun c320 => ?_)
        · have hf := it_e c320 hf
          obtain ⟨x321, ex321, hf⟩ := lt_e hf
          refine lv_iinc (v := x321) (lv' := [(3, .int x321), (0, .ref b), (1, .ref (ad 0)), (2, .ref (ad 86))]) hx hb dL_law_1069 hl (k := 3) rfl (by rw [ex321]; rfl) (by decide) rfl (fun ls hl => ?_)
          refine lv_goto (tgt := 18) hx hb dL_law_1072 (by decide) ?_
          exact ih x321 tx_len tx_lines tx_ts tx_te tx_b tx_k tx_n t_down t_min t_pac t_gone t_infl t_lik t_str t_from t_unt t_rain t_tell t_wy t_wn t_there t_lift t_none w_src w_over wa_g th_none th_all1 th_all2 th_k1 th_k2 th_size th_one th_two h_solved h_few h_sum h_min hn1 hn2 hn3 l_kinds l_unl d_seed d_min d_gue d_src d_lif m_text m_read m_down m_min m_walk m_gone m_flow m_lik m_str m_from m_to m_rain m_tell m_fy m_fn m_finds m_abv m_apart m_few m_mean m_soon m_kinds m_len m_rm m_there m_lift m_blank m_fm m_at m_pl m_end m_seed sL sT sF sU fC fS fM fT fY ad C H locs ls cells slots (by omega) (by omega) hI hAd hP hS h0 h1 h2 h3 h4 h5 h6 h7 h8 h9 h10 h11 h12 h13 h14 h15 h16 h17 h18 h19 h20 h21 h22 h23 h60 h61 h65 h66 h77 h78 h79 h80 h81 h82 h83 h84 h86 h87 h88 h89 h90 h91 h92 h93 h94 h95 h96 h97 h98 h99 h100 h101 h102 h103 h104 h105 h106 h107 h108 hF_ hS_ (lv_sub hl [1, 2, 3, 0] rfl) hf
        · have hf := ie_e c320 hf
          refine lv_iconst (v := 0) hx hb dL_law_978 (by decide) ?_
          exact absurd (Option.some.inj hf) (by decide)
      have hf := ie_e c301 hf
      by_cases c322 : x4 = 23
      · have hf := it_e c322 hf
        refine lv_tableIn (tgt := 980) hx hb dL_law_33 (by rw [c322]; decide) (by rw [c322]; decide) (by rw [c322]; rfl) (by decide) ?_
        refine lv_aload_n hx hb dL_law_980 rfl (lv_at hl 1 rfl) ?_
        refine lv_aload_n hx hb dL_law_981 rfl (lv_at hl 0 rfl) ?_
        refine lv_iload_n hx hb dL_law_982 rfl (lv_at hl 3 rfl) ?_
        refine lv_iconst (v := 1) hx hb dL_law_983 (by decide) ?_
        refine lv_iadd hx hb dL_law_984 ?_
        obtain ⟨i324, x323, ex323, hf⟩ := ri_e hf
        refine va_sld hx hb hX hbl hbA hS i324 dL_law_985 ?_
        refine tp_i ex323 ?_
        obtain ⟨q325, hq325, hf⟩ := bd_e hf
        refine k_iW (va_runV (C := RX10) (As := [.int x323]) (rest := []) ⟨hx, hb, hml, hown, hts⟩ (c_X10_hang (l := l) (sz := H.size) (p0 := x323) (by omega : 86 ≤ N) hI h0 h5 h6 h8 h19 h20 h81 h83 hq325) (cwV 1 hts gLV_X10_hang rfl rfl rfl (by decide +kernel) ⟨Nat.le_of_ble_eq_true rfl, Nat.le_of_ble_eq_true rfl⟩) (preV_of hK hP (by omega) h0 rfl) rfl rfl hl.1 rfl (lv_room (Nat.le_of_ble_eq_true rfl)) dL_law_986 ⟨fit1 (by omega), fit2 (by omega)⟩) hA hAd hS (fun C H locs hP hS hpo hbz_q325 => ?_)
        obtain ⟨he, h83⟩ := hpo
        have h0 := (he 0 (by decide)).trans h0
        have h1 := (he 1 (by decide)).trans h1
        have h2 := (he 2 (by decide)).trans h2
        have h3 := (he 3 (by decide)).trans h3
        have h4 := (he 4 (by decide)).trans h4
        have h5 := (he 5 (by decide)).trans h5
        have h6 := (he 6 (by decide)).trans h6
        have h7 := (he 7 (by decide)).trans h7
        have h8 := (he 8 (by decide)).trans h8
        have h9 := (he 9 (by decide)).trans h9
        have h10 := (he 10 (by decide)).trans h10
        have h11 := (he 11 (by decide)).trans h11
        have h12 := (he 12 (by decide)).trans h12
        have h13 := (he 13 (by decide)).trans h13
        have h14 := (he 14 (by decide)).trans h14
        have h15 := (he 15 (by decide)).trans h15
        have h16 := (he 16 (by decide)).trans h16
        have h17 := (he 17 (by decide)).trans h17
        have h18 := (he 18 (by decide)).trans h18
        have h19 := (he 19 (by decide)).trans h19
        have h20 := (he 20 (by decide)).trans h20
        have h21 := (he 21 (by decide)).trans h21
        have h22 := (he 22 (by decide)).trans h22
        have h23 := (he 23 (by decide)).trans h23
        have h60 := (he 60 (by decide)).trans h60
        have h61 := (he 61 (by decide)).trans h61
        have h65 := (he 65 (by decide)).trans h65
        have h66 := (he 66 (by decide)).trans h66
        have h77 := (he 77 (by decide)).trans h77
        have h78 := (he 78 (by decide)).trans h78
        have h79 := (he 79 (by decide)).trans h79
        have h80 := (he 80 (by decide)).trans h80
        have h81 := (he 81 (by decide)).trans h81
        have h82 := (he 82 (by decide)).trans h82
        have h84 := (he 84 (by decide)).trans h84
        have h86 := (he 86 (by decide)).trans h86
        have h87 := (he 87 (by decide)).trans h87
        have h88 := (he 88 (by decide)).trans h88
        have h89 := (he 89 (by decide)).trans h89
        have h90 := (he 90 (by decide)).trans h90
        have h91 := (he 91 (by decide)).trans h91
        have h92 := (he 92 (by decide)).trans h92
        have h93 := (he 93 (by decide)).trans h93
        have h94 := (he 94 (by decide)).trans h94
        have h95 := (he 95 (by decide)).trans h95
        have h96 := (he 96 (by decide)).trans h96
        have h97 := (he 97 (by decide)).trans h97
        have h98 := (he 98 (by decide)).trans h98
        have h99 := (he 99 (by decide)).trans h99
        have h100 := (he 100 (by decide)).trans h100
        have h101 := (he 101 (by decide)).trans h101
        have h102 := (he 102 (by decide)).trans h102
        have h103 := (he 103 (by decide)).trans h103
        have h104 := (he 104 (by decide)).trans h104
        have h105 := (he 105 (by decide)).trans h105
        have h106 := (he 106 (by decide)).trans h106
        have h107 := (he 107 (by decide)).trans h107
        have h108 := (he 108 (by decide)).trans h108
        have hF_ := hF_.ne (fun i h1 => he i (by omega))
        have hS_ := hS_.ne (fun i h1 h2 => he i (by omega))
        refine lv_aload_n hx hb dL_law_989 rfl (lv_at hl 2 rfl) ?_
        refine lv_aload_n hx hb dL_law_990 rfl (lv_at hl 0 rfl) ?_
        refine lv_iload_n hx hb dL_law_991 rfl (lv_at hl 3 rfl) ?_
        refine lv_iconst (v := 1) hx hb dL_law_992 (by decide) ?_
        refine lv_iadd hx hb dL_law_993 ?_
        obtain ⟨i327, x326, ex326, hf⟩ := ri_e hf
        refine va_sld hx hb hX hbl hbA hS i327 dL_law_994 ?_
        refine tp_i ex326 ?_
        obtain ⟨q328, hq328, hf⟩ := bd_e hf
        refine k_iW (va_runV (C := RX11) (As := [.int x326]) (rest := [.int q325.1]) ⟨hx, hb, hml, hown, hts⟩ (c_X11_hang (l := l) (sz := H.size) (p0 := x326) (by omega : 109 ≤ N) hI h86 h89 h91 h94 h103 h104 hq328) (cwV 1 hts gLV_X11_hang rfl rfl rfl (by decide +kernel) ⟨Nat.le_of_ble_eq_true rfl, Nat.le_of_ble_eq_true rfl⟩) (preV_of hK hP (by omega) h86 rfl) rfl rfl hl.1 rfl (lv_room (Nat.le_of_ble_eq_true rfl)) dL_law_995 ⟨fit1 (by omega), fit2 (by omega)⟩) hA hAd hS (fun C H locs hP hS hpo hbz_q328 => ?_)
        obtain ⟨he, h103, h104⟩ := hpo
        have h0 := (he 0 (by decide)).trans h0
        have h1 := (he 1 (by decide)).trans h1
        have h2 := (he 2 (by decide)).trans h2
        have h3 := (he 3 (by decide)).trans h3
        have h4 := (he 4 (by decide)).trans h4
        have h5 := (he 5 (by decide)).trans h5
        have h6 := (he 6 (by decide)).trans h6
        have h7 := (he 7 (by decide)).trans h7
        have h8 := (he 8 (by decide)).trans h8
        have h9 := (he 9 (by decide)).trans h9
        have h10 := (he 10 (by decide)).trans h10
        have h11 := (he 11 (by decide)).trans h11
        have h12 := (he 12 (by decide)).trans h12
        have h13 := (he 13 (by decide)).trans h13
        have h14 := (he 14 (by decide)).trans h14
        have h15 := (he 15 (by decide)).trans h15
        have h16 := (he 16 (by decide)).trans h16
        have h17 := (he 17 (by decide)).trans h17
        have h18 := (he 18 (by decide)).trans h18
        have h19 := (he 19 (by decide)).trans h19
        have h20 := (he 20 (by decide)).trans h20
        have h21 := (he 21 (by decide)).trans h21
        have h22 := (he 22 (by decide)).trans h22
        have h23 := (he 23 (by decide)).trans h23
        have h60 := (he 60 (by decide)).trans h60
        have h61 := (he 61 (by decide)).trans h61
        have h65 := (he 65 (by decide)).trans h65
        have h66 := (he 66 (by decide)).trans h66
        have h77 := (he 77 (by decide)).trans h77
        have h78 := (he 78 (by decide)).trans h78
        have h79 := (he 79 (by decide)).trans h79
        have h80 := (he 80 (by decide)).trans h80
        have h81 := (he 81 (by decide)).trans h81
        have h82 := (he 82 (by decide)).trans h82
        have h83 := (he 83 (by decide)).trans h83
        have h84 := (he 84 (by decide)).trans h84
        have h86 := (he 86 (by decide)).trans h86
        have h87 := (he 87 (by decide)).trans h87
        have h88 := (he 88 (by decide)).trans h88
        have h89 := (he 89 (by decide)).trans h89
        have h90 := (he 90 (by decide)).trans h90
        have h91 := (he 91 (by decide)).trans h91
        have h92 := (he 92 (by decide)).trans h92
        have h93 := (he 93 (by decide)).trans h93
        have h94 := (he 94 (by decide)).trans h94
        have h95 := (he 95 (by decide)).trans h95
        have h96 := (he 96 (by decide)).trans h96
        have h97 := (he 97 (by decide)).trans h97
        have h98 := (he 98 (by decide)).trans h98
        have h99 := (he 99 (by decide)).trans h99
        have h100 := (he 100 (by decide)).trans h100
        have h101 := (he 101 (by decide)).trans h101
        have h102 := (he 102 (by decide)).trans h102
        have h105 := (he 105 (by decide)).trans h105
        have h106 := (he 106 (by decide)).trans h106
        have h107 := (he 107 (by decide)).trans h107
        have h108 := (he 108 (by decide)).trans h108
        have hF_ := hF_.ne (fun i h1 => he i (by omega))
        have hS_ := hS_.ne (fun i h1 h2 => he i (by omega))
        refine lv_icmp_eq (tgt := 1069) hx hb dL_law_998 (by decide) (fun c329 => ?_) (fun c329 => ?_)
        · have hf := it_e c329 hf
          obtain ⟨x330, ex330, hf⟩ := lt_e hf
          refine lv_iinc (v := x330) (lv' := [(3, .int x330), (0, .ref b), (1, .ref (ad 0)), (2, .ref (ad 86))]) hx hb dL_law_1069 hl (k := 3) rfl (by rw [ex330]; rfl) (by decide) rfl (fun ls hl => ?_)
          refine lv_goto (tgt := 18) hx hb dL_law_1072 (by decide) ?_
          exact ih x330 tx_len tx_lines tx_ts tx_te tx_b tx_k tx_n t_down t_min t_pac t_gone t_infl t_lik t_str t_from t_unt t_rain t_tell t_wy t_wn t_there t_lift t_none w_src w_over wa_g th_none th_all1 th_all2 th_k1 th_k2 th_size th_one th_two h_solved h_few h_sum h_min hn1 hn2 hn3 l_kinds q325.2 d_seed d_min d_gue d_src d_lif m_text m_read m_down m_min m_walk m_gone m_flow m_lik m_str m_from m_to m_rain m_tell m_fy m_fn m_finds q328.2.1 q328.2.2 m_few m_mean m_soon m_kinds m_len m_rm m_there m_lift m_blank m_fm m_at m_pl m_end m_seed sL sT sF sU fC fS fM fT fY ad C H locs ls cells slots (by omega) (by omega) hI hAd hP hS h0 h1 h2 h3 h4 h5 h6 h7 h8 h9 h10 h11 h12 h13 h14 h15 h16 h17 h18 h19 h20 h21 h22 h23 h60 h61 h65 h66 h77 h78 h79 h80 h81 h82 h83 h84 h86 h87 h88 h89 h90 h91 h92 h93 h94 h95 h96 h97 h98 h99 h100 h101 h102 h103 h104 h105 h106 h107 h108 hF_ hS_ (lv_sub hl [1, 2, 3, 0] rfl) hf
        · have hf := ie_e c329 hf
          refine lv_iconst (v := 0) hx hb dL_law_1001 (by decide) ?_
          exact absurd (Option.some.inj hf) (by decide)
      have hf := ie_e c322 hf
      by_cases c331 : x4 = 24
      · have hf := it_e c331 hf
        refine lv_tableIn (tgt := 1003) hx hb dL_law_33 (by rw [c331]; decide) (by rw [c331]; decide) (by rw [c331]; rfl) (by decide) ?_
        refine lv_aload_n hx hb dL_law_1003 rfl (lv_at hl 1 rfl) ?_
        refine lv_aload_n hx hb dL_law_1004 rfl (lv_at hl 0 rfl) ?_
        refine lv_iload_n hx hb dL_law_1005 rfl (lv_at hl 3 rfl) ?_
        refine lv_iconst (v := 1) hx hb dL_law_1006 (by decide) ?_
        refine lv_iadd hx hb dL_law_1007 ?_
        obtain ⟨i333, x332, ex332, hf⟩ := ri_e hf
        refine va_sld hx hb hX hbl hbA hS i333 dL_law_1008 ?_
        refine tp_i ex332 ?_
        refine lv_aload_n hx hb dL_law_1009 rfl (lv_at hl 0 rfl) ?_
        refine lv_iload_n hx hb dL_law_1010 rfl (lv_at hl 3 rfl) ?_
        refine lv_iconst (v := 2) hx hb dL_law_1011 (by decide) ?_
        refine lv_iadd hx hb dL_law_1012 ?_
        obtain ⟨i335, x334, ex334, hf⟩ := ri_e hf
        refine va_sld hx hb hX hbl hbA hS i335 dL_law_1013 ?_
        refine tp_i ex334 ?_
        refine lv_aload_n hx hb dL_law_1014 rfl (lv_at hl 0 rfl) ?_
        refine lv_iload_n hx hb dL_law_1015 rfl (lv_at hl 3 rfl) ?_
        refine lv_iconst (v := 3) hx hb dL_law_1016 (by decide) ?_
        refine lv_iadd hx hb dL_law_1017 ?_
        obtain ⟨i337, x336, ex336, hf⟩ := ri_e hf
        refine va_sld hx hb hX hbl hbA hS i337 dL_law_1018 ?_
        refine tp_i ex336 ?_
        obtain ⟨q338, hq338, hf⟩ := bd_e hf
        refine k_iA (va_runV (C := RX10) (As := [.int x332, .int x334, .int x336]) (rest := []) ⟨hx, hb, hml, hown, hts⟩ (c_X10_day (l := l) (sz := H.size) (p0 := x332) (p1 := x334) (p2 := x336) (by omega : 86 ≤ N) hI h0 h5 h6 h8 h11 h17 h18 h19 h20 h77 h78 h79 h80 h84 hq338) (cwV 3 hts gLV_X10_day rfl rfl rfl (by decide +kernel) ⟨Nat.le_of_ble_eq_true rfl, Nat.le_of_ble_eq_true rfl⟩) (preV_of hK hP (by omega) h0 rfl) rfl rfl hl.1 rfl (lv_room (Nat.le_of_ble_eq_true rfl)) dL_law_1019 ⟨fit1 (by omega), fit3 hc2⟩) hA hAd hS (fun ad C H locs hI hAd hP hS hpo hbz_q338 => ?_)
        obtain ⟨had, he, h77, h78, h79, h80, h84⟩ := hpo
        have h0 : C 0 = .inr (10, [.ref (ad 1), .ref (ad 5), .ref (ad 19), .ref (ad 21), .ref (ad 60), .ref (ad 77), .ref (ad 81), .ref (ad 84), .ref (ad 85)]) := by rw [had 1 (by decide) (by decide) (by decide), had 5 (by decide) (by decide) (by decide), had 19 (by decide) (by decide) (by decide), had 21 (by decide) (by decide) (by decide), had 60 (by decide) (by decide) (by decide), had 77 (by decide) (by decide) (by decide), had 81 (by decide) (by decide) (by decide), had 84 (by decide) (by decide) (by decide), had 85 (by decide) (by decide) (by decide)]; exact (he 0 (by decide)).trans h0
        have h1 : C 1 = .inr (5, [.ref (ad 2), .ref (ad 3), .ref (ad 4), .int tx_len, .int tx_lines, .int tx_ts, .int tx_te]) := by rw [had 2 (by decide) (by decide) (by decide), had 3 (by decide) (by decide) (by decide), had 4 (by decide) (by decide) (by decide)]; exact (he 1 (by decide)).trans h1
        have h2 := (he 2 (by decide)).trans h2
        have h3 := (he 3 (by decide)).trans h3
        have h4 := (he 4 (by decide)).trans h4
        have h5 : C 5 = .inr (7, [.ref (ad 6), .ref (ad 7), .ref (ad 8), .ref (ad 9), .ref (ad 10), .ref (ad 11), .ref (ad 12), .ref (ad 13), .ref (ad 14), .ref (ad 15), .ref (ad 16), .ref (ad 17), .ref (ad 18), .int t_there, .int t_lift, .int t_none]) := by rw [had 6 (by decide) (by decide) (by decide), had 7 (by decide) (by decide) (by decide), had 8 (by decide) (by decide) (by decide), had 9 (by decide) (by decide) (by decide), had 10 (by decide) (by decide) (by decide), had 11 (by decide) (by decide) (by decide), had 12 (by decide) (by decide) (by decide), had 13 (by decide) (by decide) (by decide), had 14 (by decide) (by decide) (by decide), had 15 (by decide) (by decide) (by decide), had 16 (by decide) (by decide) (by decide), had 17 (by decide) (by decide) (by decide), had 18 (by decide) (by decide) (by decide)]; exact (he 5 (by decide)).trans h5
        have h6 := (he 6 (by decide)).trans h6
        have h7 := (he 7 (by decide)).trans h7
        have h8 := (he 8 (by decide)).trans h8
        have h9 := (he 9 (by decide)).trans h9
        have h10 := (he 10 (by decide)).trans h10
        have h11 := (he 11 (by decide)).trans h11
        have h12 := (he 12 (by decide)).trans h12
        have h13 := (he 13 (by decide)).trans h13
        have h14 := (he 14 (by decide)).trans h14
        have h15 := (he 15 (by decide)).trans h15
        have h16 := (he 16 (by decide)).trans h16
        have h17 := (he 17 (by decide)).trans h17
        have h18 := (he 18 (by decide)).trans h18
        have h19 : C 19 = .inr (9, [.ref (ad 5), .ref (ad 20), .int w_src]) := by rw [had 5 (by decide) (by decide) (by decide), had 20 (by decide) (by decide) (by decide)]; exact (he 19 (by decide)).trans h19
        have h20 := (he 20 (by decide)).trans h20
        have h21 : C 21 = .inr (8, [.ref (ad 5), .ref (ad 19), .ref (ad 22), .ref (ad 23)]) := by rw [had 5 (by decide) (by decide) (by decide), had 19 (by decide) (by decide) (by decide), had 22 (by decide) (by decide) (by decide), had 23 (by decide) (by decide) (by decide)]; exact (he 21 (by decide)).trans h21
        have h22 := (he 22 (by decide)).trans h22
        have h23 : C 23 = aS g 12 (fun i => if i < 12 then some (ad (24 + 3 * i)) else none) := ((he 23 (by decide)).trans h23).trans (aS_re (fun i h => had i (by omega) (by omega) (by omega)))
        have h60 : C 60 = .inr (6, [.ref (ad 5), .ref (ad 19), .ref (ad 21), .ref (ad 61), .ref (ad 62), .ref (ad 65), .ref (ad 66), .long th_none, .long th_all1, .long th_all2, .int th_k1, .int th_k2, .int th_size]) := by rw [had 5 (by decide) (by decide) (by decide), had 19 (by decide) (by decide) (by decide), had 21 (by decide) (by decide) (by decide), had 61 (by decide) (by decide) (by decide), had 62 (by decide) (by decide) (by decide), had 65 (by decide) (by decide) (by decide), had 66 (by decide) (by decide) (by decide)]; exact (he 60 (by decide)).trans h60
        have h61 : C 61 = aF g 10 (fun i => if i < 10 then some (ad (67 + i)) else none) := ((he 61 (by decide)).trans h61).trans (aF_re (fun i h => had i (by omega) (by omega) (by omega)))
        have h65 := (he 65 (by decide)).trans h65
        have h66 := (he 66 (by decide)).trans h66
        have h81 : C 81 = .inr (3, [.ref (ad 5), .ref (ad 19), .ref (ad 82), .ref (ad 83)]) := by rw [had 5 (by decide) (by decide) (by decide), had 19 (by decide) (by decide) (by decide), had 82 (by decide) (by decide) (by decide), had 83 (by decide) (by decide) (by decide)]; exact (he 81 (by decide)).trans h81
        have h82 := (he 82 (by decide)).trans h82
        have h83 := (he 83 (by decide)).trans h83
        have h86 : C 86 = .inr (11, [.ref (ad 87), .int m_len, .ref (ad 88), .int m_rm, .int m_there, .ref (ad 89), .ref (ad 90), .ref (ad 91), .ref (ad 92), .ref (ad 93), .ref (ad 94), .ref (ad 95), .ref (ad 96), .ref (ad 97), .ref (ad 98), .ref (ad 99), .ref (ad 100), .ref (ad 101), .int m_lift, .int m_blank, .ref (ad 102), .int m_fm, .int m_at, .int m_pl, .int m_end, .ref (ad 103), .ref (ad 104), .ref (ad 105), .ref (ad 106), .ref (ad 107), .ref (ad 108), .int m_seed]) := by rw [had 87 (by decide) (by decide) (by decide), had 88 (by decide) (by decide) (by decide), had 89 (by decide) (by decide) (by decide), had 90 (by decide) (by decide) (by decide), had 91 (by decide) (by decide) (by decide), had 92 (by decide) (by decide) (by decide), had 93 (by decide) (by decide) (by decide), had 94 (by decide) (by decide) (by decide), had 95 (by decide) (by decide) (by decide), had 96 (by decide) (by decide) (by decide), had 97 (by decide) (by decide) (by decide), had 98 (by decide) (by decide) (by decide), had 99 (by decide) (by decide) (by decide), had 100 (by decide) (by decide) (by decide), had 101 (by decide) (by decide) (by decide), had 102 (by decide) (by decide) (by decide), had 103 (by decide) (by decide) (by decide), had 104 (by decide) (by decide) (by decide), had 105 (by decide) (by decide) (by decide), had 106 (by decide) (by decide) (by decide), had 107 (by decide) (by decide) (by decide), had 108 (by decide) (by decide) (by decide)]; exact (he 86 (by decide)).trans h86
        have h87 := (he 87 (by decide)).trans h87
        have h88 := (he 88 (by decide)).trans h88
        have h89 := (he 89 (by decide)).trans h89
        have h90 := (he 90 (by decide)).trans h90
        have h91 := (he 91 (by decide)).trans h91
        have h92 := (he 92 (by decide)).trans h92
        have h93 := (he 93 (by decide)).trans h93
        have h94 := (he 94 (by decide)).trans h94
        have h95 := (he 95 (by decide)).trans h95
        have h96 := (he 96 (by decide)).trans h96
        have h97 := (he 97 (by decide)).trans h97
        have h98 := (he 98 (by decide)).trans h98
        have h99 := (he 99 (by decide)).trans h99
        have h100 := (he 100 (by decide)).trans h100
        have h101 := (he 101 (by decide)).trans h101
        have h102 := (he 102 (by decide)).trans h102
        have h103 := (he 103 (by decide)).trans h103
        have h104 := (he 104 (by decide)).trans h104
        have h105 := (he 105 (by decide)).trans h105
        have h106 := (he 106 (by decide)).trans h106
        have h107 := (he 107 (by decide)).trans h107
        have h108 := (he 108 (by decide)).trans h108
        have hF_ := hF_.ne (fun i h1 => he i (by omega))
        have hS_ := (hS_.re had).ne (fun i h1 h2 => he i (by omega))
        have hl : lv_has ls 4 [(0, .ref b), (1, .ref (ad 0)), (2, .ref (ad 86)), (3, .int x3)] := by rw [had 0 (by decide) (by decide) (by decide), had 86 (by decide) (by decide) (by decide)]; exact hl
        refine lv_aload_n hx hb dL_law_1022 rfl (lv_at hl 2 rfl) ?_
        refine lv_aload_n hx hb dL_law_1023 rfl (lv_at hl 0 rfl) ?_
        refine lv_iload_n hx hb dL_law_1024 rfl (lv_at hl 3 rfl) ?_
        refine lv_iconst (v := 1) hx hb dL_law_1025 (by decide) ?_
        refine lv_iadd hx hb dL_law_1026 ?_
        obtain ⟨i340, x339, ex339, hf⟩ := ri_e hf
        refine va_sld hx hb hX hbl hbA hS i340 dL_law_1027 ?_
        refine tp_i ex339 ?_
        refine lv_aload_n hx hb dL_law_1028 rfl (lv_at hl 0 rfl) ?_
        refine lv_iload_n hx hb dL_law_1029 rfl (lv_at hl 3 rfl) ?_
        refine lv_iconst (v := 2) hx hb dL_law_1030 (by decide) ?_
        refine lv_iadd hx hb dL_law_1031 ?_
        obtain ⟨i342, x341, ex341, hf⟩ := ri_e hf
        refine va_sld hx hb hX hbl hbA hS i342 dL_law_1032 ?_
        refine tp_i ex341 ?_
        refine lv_aload_n hx hb dL_law_1033 rfl (lv_at hl 0 rfl) ?_
        refine lv_iload_n hx hb dL_law_1034 rfl (lv_at hl 3 rfl) ?_
        refine lv_iconst (v := 3) hx hb dL_law_1035 (by decide) ?_
        refine lv_iadd hx hb dL_law_1036 ?_
        obtain ⟨i344, x343, ex343, hf⟩ := ri_e hf
        refine va_sld hx hb hX hbl hbA hS i344 dL_law_1037 ?_
        refine tp_i ex343 ?_
        obtain ⟨q345, hq345, hf⟩ := bd_e hf
        refine k_iW (va_runV (C := RX11) (As := [.int x339, .int x341, .int x343]) (rest := [.int q338.1]) ⟨hx, hb, hml, hown, hts⟩ (c_X11_day (l := l) (sz := H.size) (p0 := x339) (p1 := x341) (p2 := x343) (by omega : 109 ≤ N) hI h86 h89 h91 h94 h100 h101 h103 h104 h107 hq345) (cwV 3 hts gLV_X11_day rfl rfl rfl (by decide +kernel) ⟨Nat.le_of_ble_eq_true rfl, Nat.le_of_ble_eq_true rfl⟩) (preV_of hK hP (by omega) h86 rfl) rfl rfl hl.1 rfl (lv_room (Nat.le_of_ble_eq_true rfl)) dL_law_1038 ⟨fit1 (by omega), fit4 hc2⟩) hA hAd hS (fun C H locs hP hS hpo hbz_q345 => ?_)
        obtain ⟨he, h103, h104, h107, h86⟩ := hpo
        have h0 := (he 0 (by decide)).trans h0
        have h1 := (he 1 (by decide)).trans h1
        have h2 := (he 2 (by decide)).trans h2
        have h3 := (he 3 (by decide)).trans h3
        have h4 := (he 4 (by decide)).trans h4
        have h5 := (he 5 (by decide)).trans h5
        have h6 := (he 6 (by decide)).trans h6
        have h7 := (he 7 (by decide)).trans h7
        have h8 := (he 8 (by decide)).trans h8
        have h9 := (he 9 (by decide)).trans h9
        have h10 := (he 10 (by decide)).trans h10
        have h11 := (he 11 (by decide)).trans h11
        have h12 := (he 12 (by decide)).trans h12
        have h13 := (he 13 (by decide)).trans h13
        have h14 := (he 14 (by decide)).trans h14
        have h15 := (he 15 (by decide)).trans h15
        have h16 := (he 16 (by decide)).trans h16
        have h17 := (he 17 (by decide)).trans h17
        have h18 := (he 18 (by decide)).trans h18
        have h19 := (he 19 (by decide)).trans h19
        have h20 := (he 20 (by decide)).trans h20
        have h21 := (he 21 (by decide)).trans h21
        have h22 := (he 22 (by decide)).trans h22
        have h23 := (he 23 (by decide)).trans h23
        have h60 := (he 60 (by decide)).trans h60
        have h61 := (he 61 (by decide)).trans h61
        have h65 := (he 65 (by decide)).trans h65
        have h66 := (he 66 (by decide)).trans h66
        have h77 := (he 77 (by decide)).trans h77
        have h78 := (he 78 (by decide)).trans h78
        have h79 := (he 79 (by decide)).trans h79
        have h80 := (he 80 (by decide)).trans h80
        have h81 := (he 81 (by decide)).trans h81
        have h82 := (he 82 (by decide)).trans h82
        have h83 := (he 83 (by decide)).trans h83
        have h84 := (he 84 (by decide)).trans h84
        have h87 := (he 87 (by decide)).trans h87
        have h88 := (he 88 (by decide)).trans h88
        have h89 := (he 89 (by decide)).trans h89
        have h90 := (he 90 (by decide)).trans h90
        have h91 := (he 91 (by decide)).trans h91
        have h92 := (he 92 (by decide)).trans h92
        have h93 := (he 93 (by decide)).trans h93
        have h94 := (he 94 (by decide)).trans h94
        have h95 := (he 95 (by decide)).trans h95
        have h96 := (he 96 (by decide)).trans h96
        have h97 := (he 97 (by decide)).trans h97
        have h98 := (he 98 (by decide)).trans h98
        have h99 := (he 99 (by decide)).trans h99
        have h100 := (he 100 (by decide)).trans h100
        have h101 := (he 101 (by decide)).trans h101
        have h102 := (he 102 (by decide)).trans h102
        have h105 := (he 105 (by decide)).trans h105
        have h106 := (he 106 (by decide)).trans h106
        have h108 := (he 108 (by decide)).trans h108
        have hF_ := hF_.ne (fun i h1 => he i (by omega))
        have hS_ := hS_.ne (fun i h1 h2 => he i (by omega))
        refine lv_icmp_eq (tgt := 1069) hx hb dL_law_1041 (by decide) (fun c346 => ?_) (fun c346 => ?_)
        · have hf := it_e c346 hf
          obtain ⟨x347, ex347, hf⟩ := lt_e hf
          refine lv_iinc (v := x347) (lv' := [(3, .int x347), (0, .ref b), (1, .ref (ad 0)), (2, .ref (ad 86))]) hx hb dL_law_1069 hl (k := 3) rfl (by rw [ex347]; rfl) (by decide) rfl (fun ls hl => ?_)
          refine lv_goto (tgt := 18) hx hb dL_law_1072 (by decide) ?_
          exact ih x347 tx_len tx_lines tx_ts tx_te tx_b tx_k tx_n t_down t_min t_pac t_gone t_infl t_lik t_str t_from t_unt t_rain t_tell t_wy t_wn t_there t_lift t_none w_src w_over wa_g th_none th_all1 th_all2 th_k1 th_k2 th_size th_one th_two q338.2.1 q338.2.2.1 q338.2.2.2.1 q338.2.2.2.2.1 q338.2.2.2.2.2.1 q338.2.2.2.2.2.2.1 q338.2.2.2.2.2.2.2.1 l_kinds l_unl q338.2.2.2.2.2.2.2.2.1 q338.2.2.2.2.2.2.2.2.2.1 q338.2.2.2.2.2.2.2.2.2.2.1 q338.2.2.2.2.2.2.2.2.2.2.2.1 q338.2.2.2.2.2.2.2.2.2.2.2.2 m_text m_read m_down m_min m_walk m_gone m_flow m_lik m_str m_from m_to m_rain m_tell m_fy m_fn m_finds q345.2.1 q345.2.2.1 m_few m_mean q345.2.2.2.1 m_kinds m_len m_rm m_there m_lift m_blank m_fm m_at m_pl m_end q345.2.2.2.2 sL sT sF sU fC fS fM fT fY ad C H locs ls (cells + 3) (slots + 57344) (by omega) (by omega) hI hAd hP hS h0 h1 h2 h3 h4 h5 h6 h7 h8 h9 h10 h11 h12 h13 h14 h15 h16 h17 h18 h19 h20 h21 h22 h23 h60 h61 h65 h66 h77 h78 h79 h80 h81 h82 h83 h84 h86 h87 h88 h89 h90 h91 h92 h93 h94 h95 h96 h97 h98 h99 h100 h101 h102 h103 h104 h105 h106 h107 h108 hF_ hS_ (lv_sub hl [1, 2, 3, 0] rfl) hf
        · have hf := ie_e c346 hf
          refine lv_iconst (v := 0) hx hb dL_law_1044 (by decide) ?_
          exact absurd (Option.some.inj hf) (by decide)
      have hf := ie_e c331 hf
      by_cases c348 : x4 = 25
      · have hf := it_e c348 hf
        refine lv_tableIn (tgt := 1046) hx hb dL_law_33 (by rw [c348]; decide) (by rw [c348]; decide) (by rw [c348]; rfl) (by decide) ?_
        refine lv_aload_n hx hb dL_law_1046 rfl (lv_at hl 1 rfl) ?_
        refine lv_aload_n hx hb dL_law_1047 rfl (lv_at hl 0 rfl) ?_
        refine lv_iload_n hx hb dL_law_1048 rfl (lv_at hl 3 rfl) ?_
        refine lv_iconst (v := 1) hx hb dL_law_1049 (by decide) ?_
        refine lv_iadd hx hb dL_law_1050 ?_
        obtain ⟨i350, x349, ex349, hf⟩ := ri_e hf
        refine va_sld hx hb hX hbl hbA hS i350 dL_law_1051 ?_
        refine tp_i ex349 ?_
        obtain ⟨q351, hq351, hf⟩ := bd_e hf
        refine k_iR (va_runV (C := RX10) (As := [.int x349]) (rest := []) ⟨hx, hb, hml, hown, hts⟩ (c_X10_count (l := l) (sz := H.size) (p0 := x349) (by omega : 86 ≤ N) h0 h1 h5 h8 h19 h60 hq351) (cwV 1 hts gLV_X10_count rfl rfl rfl (by decide +kernel) ⟨Nat.le_of_ble_eq_true rfl, Nat.le_of_ble_eq_true rfl⟩) (preV_of hK hP (by omega) h0 rfl) rfl rfl hl.1 rfl (lv_room (Nat.le_of_ble_eq_true rfl)) dL_law_1052 ⟨fit1 (by omega), fit2 (by omega)⟩) hA hP hS (fun H locs hP hS hbz_q351 => ?_)
        refine lv_aload_n hx hb dL_law_1055 rfl (lv_at hl 2 rfl) ?_
        refine lv_aload_n hx hb dL_law_1056 rfl (lv_at hl 0 rfl) ?_
        refine lv_iload_n hx hb dL_law_1057 rfl (lv_at hl 3 rfl) ?_
        refine lv_iconst (v := 1) hx hb dL_law_1058 (by decide) ?_
        refine lv_iadd hx hb dL_law_1059 ?_
        obtain ⟨i353, x352, ex352, hf⟩ := ri_e hf
        refine va_sld hx hb hX hbl hbA hS i353 dL_law_1060 ?_
        refine tp_i ex352 ?_
        obtain ⟨q354, hq354, hf⟩ := bd_e hf
        refine k_iR (va_runV (C := RX11) (As := [.int x352]) (rest := [.int q351]) ⟨hx, hb, hml, hown, hts⟩ (c_X11_count (l := l) (sz := H.size) (p0 := x352) (by omega : 109 ≤ N) h86 h91 h94 hq354) (cwV 1 hts gLV_X11_count rfl rfl rfl (by decide +kernel) ⟨Nat.le_of_ble_eq_true rfl, Nat.le_of_ble_eq_true rfl⟩) (preV_of hK hP (by omega) h86 rfl) rfl rfl hl.1 rfl (lv_room (Nat.le_of_ble_eq_true rfl)) dL_law_1061 ⟨fit1 (by omega), fit2 (by omega)⟩) hA hP hS (fun H locs hP hS hbz_q354 => ?_)
        refine lv_icmp_eq (tgt := 1069) hx hb dL_law_1064 (by decide) (fun c355 => ?_) (fun c355 => ?_)
        · have hf := it_e c355 hf
          obtain ⟨x356, ex356, hf⟩ := lt_e hf
          refine lv_iinc (v := x356) (lv' := [(3, .int x356), (0, .ref b), (1, .ref (ad 0)), (2, .ref (ad 86))]) hx hb dL_law_1069 hl (k := 3) rfl (by rw [ex356]; rfl) (by decide) rfl (fun ls hl => ?_)
          refine lv_goto (tgt := 18) hx hb dL_law_1072 (by decide) ?_
          exact ih x356 tx_len tx_lines tx_ts tx_te tx_b tx_k tx_n t_down t_min t_pac t_gone t_infl t_lik t_str t_from t_unt t_rain t_tell t_wy t_wn t_there t_lift t_none w_src w_over wa_g th_none th_all1 th_all2 th_k1 th_k2 th_size th_one th_two h_solved h_few h_sum h_min hn1 hn2 hn3 l_kinds l_unl d_seed d_min d_gue d_src d_lif m_text m_read m_down m_min m_walk m_gone m_flow m_lik m_str m_from m_to m_rain m_tell m_fy m_fn m_finds m_abv m_apart m_few m_mean m_soon m_kinds m_len m_rm m_there m_lift m_blank m_fm m_at m_pl m_end m_seed sL sT sF sU fC fS fM fT fY ad C H locs ls cells slots (by omega) (by omega) hI hAd hP hS h0 h1 h2 h3 h4 h5 h6 h7 h8 h9 h10 h11 h12 h13 h14 h15 h16 h17 h18 h19 h20 h21 h22 h23 h60 h61 h65 h66 h77 h78 h79 h80 h81 h82 h83 h84 h86 h87 h88 h89 h90 h91 h92 h93 h94 h95 h96 h97 h98 h99 h100 h101 h102 h103 h104 h105 h106 h107 h108 hF_ hS_ (lv_sub hl [1, 2, 3, 0] rfl) hf
        · have hf := ie_e c355 hf
          refine lv_iconst (v := 0) hx hb dL_law_1067 (by decide) ?_
          exact absurd (Option.some.inj hf) (by decide)
      have hf := ie_e c348 hf
      have hsw : Int32.toInt x4 < 0 ∨ 25 < Int32.toInt x4 := by
        have qc5 := ne_toInt c5
        rw [show Int32.toInt 0 = 0 from rfl] at qc5
        have qc22 := ne_toInt c22
        rw [show Int32.toInt 1 = 1 from rfl] at qc22
        have qc27 := ne_toInt c27
        rw [show Int32.toInt 2 = 2 from rfl] at qc27
        have qc32 := ne_toInt c32
        rw [show Int32.toInt 3 = 3 from rfl] at qc32
        have qc37 := ne_toInt c37
        rw [show Int32.toInt 4 = 4 from rfl] at qc37
        have qc50 := ne_toInt c50
        rw [show Int32.toInt 5 = 5 from rfl] at qc50
        have qc63 := ne_toInt c63
        rw [show Int32.toInt 6 = 6 from rfl] at qc63
        have qc72 := ne_toInt c72
        rw [show Int32.toInt 7 = 7 from rfl] at qc72
        have qc85 := ne_toInt c85
        rw [show Int32.toInt 8 = 8 from rfl] at qc85
        have qc98 := ne_toInt c98
        rw [show Int32.toInt 9 = 9 from rfl] at qc98
        have qc119 := ne_toInt c119
        rw [show Int32.toInt 10 = 10 from rfl] at qc119
        have qc144 := ne_toInt c144
        rw [show Int32.toInt 11 = 11 from rfl] at qc144
        have qc175 := ne_toInt c175
        rw [show Int32.toInt 12 = 12 from rfl] at qc175
        have qc180 := ne_toInt c180
        rw [show Int32.toInt 13 = 13 from rfl] at qc180
        have qc193 := ne_toInt c193
        rw [show Int32.toInt 14 = 14 from rfl] at qc193
        have qc210 := ne_toInt c210
        rw [show Int32.toInt 15 = 15 from rfl] at qc210
        have qc235 := ne_toInt c235
        rw [show Int32.toInt 16 = 16 from rfl] at qc235
        have qc240 := ne_toInt c240
        rw [show Int32.toInt 17 = 17 from rfl] at qc240
        have qc249 := ne_toInt c249
        rw [show Int32.toInt 18 = 18 from rfl] at qc249
        have qc258 := ne_toInt c258
        rw [show Int32.toInt 19 = 19 from rfl] at qc258
        have qc267 := ne_toInt c267
        rw [show Int32.toInt 20 = 20 from rfl] at qc267
        have qc280 := ne_toInt c280
        rw [show Int32.toInt 21 = 21 from rfl] at qc280
        have qc301 := ne_toInt c301
        rw [show Int32.toInt 22 = 22 from rfl] at qc301
        have qc322 := ne_toInt c322
        rw [show Int32.toInt 23 = 23 from rfl] at qc322
        have qc331 := ne_toInt c331
        rw [show Int32.toInt 24 = 24 from rfl] at qc331
        have qc348 := ne_toInt c348
        rw [show Int32.toInt 25 = 25 from rfl] at qc348
        omega
      refine lv_tableOut (tgt := 1069) hx hb dL_law_33 hsw (by decide) ?_
      obtain ⟨x357, ex357, hf⟩ := lt_e hf
      refine lv_iinc (v := x357) (lv' := [(3, .int x357), (0, .ref b), (1, .ref (ad 0)), (2, .ref (ad 86))]) hx hb dL_law_1069 hl (k := 3) rfl (by rw [ex357]; rfl) (by decide) rfl (fun ls hl => ?_)
      refine lv_goto (tgt := 18) hx hb dL_law_1072 (by decide) ?_
      exact ih x357 tx_len tx_lines tx_ts tx_te tx_b tx_k tx_n t_down t_min t_pac t_gone t_infl t_lik t_str t_from t_unt t_rain t_tell t_wy t_wn t_there t_lift t_none w_src w_over wa_g th_none th_all1 th_all2 th_k1 th_k2 th_size th_one th_two h_solved h_few h_sum h_min hn1 hn2 hn3 l_kinds l_unl d_seed d_min d_gue d_src d_lif m_text m_read m_down m_min m_walk m_gone m_flow m_lik m_str m_from m_to m_rain m_tell m_fy m_fn m_finds m_abv m_apart m_few m_mean m_soon m_kinds m_len m_rm m_there m_lift m_blank m_fm m_at m_pl m_end m_seed sL sT sF sU fC fS fM fT fY ad C H locs ls cells slots (by omega) (by omega) hI hAd hP hS h0 h1 h2 h3 h4 h5 h6 h7 h8 h9 h10 h11 h12 h13 h14 h15 h16 h17 h18 h19 h20 h21 h22 h23 h60 h61 h65 h66 h77 h78 h79 h80 h81 h82 h83 h84 h86 h87 h88 h89 h90 h91 h92 h93 h94 h95 h96 h97 h98 h99 h100 h101 h102 h103 h104 h105 h106 h107 h108 hF_ hS_ (lv_sub hl [1, 2, 3, 0] rfl) hf
