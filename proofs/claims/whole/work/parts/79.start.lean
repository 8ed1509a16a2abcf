def R_law : String := "MeanderBenchLaw"
def lw_P (b : Addr) (xs : List Int32) (args : Array Value) (s : State) : Prop := args = #[.ref b] ∧ s.IntsAt b xs ∧ xs.length ≤ 3584 ∧ (Jvm.Cond.and given_1 narrow_1).before args s = true
def lw_Q (_ : Array Value) (s : State) (o : Outcome) (t : State) : Prop := o = .returned (some (.int 1)) ∧ Framed s o t [] 1095 10507
def lw_Z (below : List Frame) (a : Array Value) (s : State) : State → Prop := fun t => ∃ o, t.status = .running ∧ Ended t below o ∧ lw_Q a s o t
/-- the law's own end, with 1 on the stack, nothing written that was there before, its room as the claim has it -/
theorem lw_ret {p : Program} {l : Launch} {e : Env} {s : State} {m : MethodId} {below : List Frame} {meth : Method} {c : Code} {b : Nat} (hx : p.tables.exec = Jvm.exec) (hb : c.code = code) (hr : meth.sig.returnType = ret) (hlocks : meth.locks = false) {pc : Nat} {H : Heap} {ls : Array Slot} (hdg : decode code pc = .ok (.ireturn, 1)) : W p l e room_1 s m #[Value.ref b] below meth c H [] 1095 10507 (lw_Z below #[Value.ref b] s) (F0 m pc ls [.int 1]) := by
  intro T hT X
  obtain ⟨fs, hret, hrun, hended, hW, hframe⟩ := X.leave (v := some (.int 1)) (hlocks := hlocks) (fun h => by rw [hr] at h; cases h)
  have hmeth' : T.vm.method? m = some meth := X.method'
  refine ⟨T.setFrames fs, ?_, .returned (some (.int 1)), hrun, hended, rfl, ⟨_, rfl⟩, hW, hframe⟩
  jvm_step X.here [X.here.top, hx, hb, hdg, hmeth', hr, ret, narrow_b1]
  (try refine ⟨rfl, ?_⟩); (try refine ⟨rfl, ?_⟩)
  first | (intro acts; rw [hret _ acts rfl rfl rfl]) | rw [hret _ _ rfl rfl rfl]
  exact Steps.refl _
/-- what holds at the law's entry: the machine, the code, the tables' words (any of lw_tbl by 'hts w (by decide +kernel)'), the script of L ints xs at the cell b, what the Statement gives of the start (any of its parts by flat_of_before) -/
def lw_At (p : Program) (s : State) (m : MethodId) (meth : Method) (c : Code) (b L : Nat) (xs : Nat → Int32) : Prop :=
  p.tables.exec = Jvm.exec ∧ c.code = code ∧ meth.sig.returnType = ret ∧ c.maxLocals = 7 ∧ s.vm.findClass R_law = some m.cls ∧ (∀ w ∈ lw_tbl, w.before #[Value.ref b] s = true) ∧ va_X b L xs s s.heap ∧ b < s.heap.size ∧ meth.locks = false ∧ (Jvm.Cond.and given_1 narrow_1).before #[Value.ref b] s = true
theorem gNs_in : ∀ q ∈ gNs, Cond.methodLinkNest q.1 q.2.1 q.2.2 RX8 ∈ lw_tbl := by decide +kernel
theorem g_arr {s : State} {args : Array Value} {ty : FieldType} (h : (Cond.arrayClass ty).before args s = true) : ∃ cA : ClassId, ArrOfT s cA ty ∧ s.vm.findClass ("[" ++ ty.toString) = some cA := by
  obtain ⟨cB, kB, comp, hcB, hkB, hkind⟩ := Cond.arrayClass_spec (args := args) (first := s) (o := none) (s := s) (idx := []) h
  exact ⟨cB, fun N z => ⟨(fun k h => by cases h), kB, hkB, comp, hkind⟩, hcB⟩
theorem g_known {s : State} {args : Array Value} (hts : ∀ w ∈ lw_tbl, w.before args s = true) : ∃ D : va_G, ∀ (c : Nat) (q : vw_C), vwCl[c]? = some q → u_Kn s q.1 q.2.1 q.2.2 (D.1 c) (D.2 c) := by
  have h : ∀ c : Nat, ∃ z : ClassId × (Nat → Nat), ∀ q : vw_C, vwCl[c]? = some q → u_Kn s q.1 q.2.1 q.2.2 z.1 z.2 := by
    intro c
    match c with
    | 0 =>
      obtain ⟨a, b, h⟩ := u_known (C := RX0) (T := TX0) (N := 4) (n := 4) hts inX0 (hts (.instantiable RX0 4) (by decide +kernel))
      exact ⟨(a, b), fun q hq => by cases hq; exact h⟩
    | 1 =>
      obtain ⟨a, b, h⟩ := u_known (C := RX1) (T := TX1) (N := 5) (n := 5) hts inX1 (hts (.instantiable RX1 5) (by decide +kernel))
      exact ⟨(a, b), fun q hq => by cases hq; exact h⟩
    | 2 =>
      obtain ⟨a, b, h⟩ := u_known (C := RX2) (T := TX2) (N := 6) (n := 6) hts inX2 (hts (.instantiable RX2 6) (by decide +kernel))
      exact ⟨(a, b), fun q hq => by cases hq; exact h⟩
    | 3 =>
      obtain ⟨a, b, h⟩ := u_known (C := RX3) (T := TX3) (N := 3) (n := 3) hts inX3 (hts (.instantiable RX3 3) (by decide +kernel))
      exact ⟨(a, b), fun q hq => by cases hq; exact h⟩
    | 4 =>
      obtain ⟨a, b, h⟩ := u_known (C := RX4) (T := TX4) (N := 2) (n := 2) hts inX4 (hts (.instantiable RX4 2) (by decide +kernel))
      exact ⟨(a, b), fun q hq => by cases hq; exact h⟩
    | 5 =>
      obtain ⟨a, b, h⟩ := u_known (C := RX5) (T := TX5) (N := 4) (n := 4) hts inX5 (hts (.instantiable RX5 4) (by decide +kernel))
      exact ⟨(a, b), fun q hq => by cases hq; exact h⟩
    | 6 =>
      obtain ⟨a, b, h⟩ := u_known (C := RX6) (T := TX6) (N := 7) (n := 7) hts inX6 (hts (.instantiable RX6 7) (by decide +kernel))
      exact ⟨(a, b), fun q hq => by cases hq; exact h⟩
    | 7 =>
      obtain ⟨a, b, h⟩ := u_known (C := RX7) (T := TX7) (N := 2) (n := 2) hts inX7 (hts (.instantiable RX7 2) (by decide +kernel))
      exact ⟨(a, b), fun q hq => by cases hq; exact h⟩
    | 8 =>
      obtain ⟨a, b, h⟩ := u_known (C := RX8) (T := TX8) (N := 8) (n := 8) hts inX8 (hts (.instantiable RX8 8) (by decide +kernel))
      exact ⟨(a, b), fun q hq => by cases hq; exact h⟩
    | 9 =>
      obtain ⟨a, b, h⟩ := u_known (C := RX9) (T := TX9) (N := 36) (n := 36) hts inX9 (hts (.instantiable RX9 36) (by decide +kernel))
      exact ⟨(a, b), fun q hq => by cases hq; exact h⟩
    | c + 10 => exact ⟨(0, fun _ => 0), fun q hq => by simp [vwCl] at hq⟩
  exact ⟨(fun c => (Classical.choose (h c)).1, fun c => (Classical.choose (h c)).2), fun c q hq => Classical.choose_spec (h c) q hq⟩
theorem g_throws {s : State} {args : Array Value} (hts : ∀ w ∈ lw_tbl, w.before args s = true) (hgv : (Jvm.Cond.and given_1 narrow_1).before args s = true) : gX (fun q : Nat => s.heap.size ≤ q) s s.heap := by
  have hs := flat_of_before _ hgv
  have hnA : ∀ a : Nat, a < s.heap.size → ¬ (fun q : Nat => s.heap.size ≤ q) a := fun a h => Nat.not_le.mpr h
  refine ⟨fun q hq => ?_, ⟨va_Nw.of rfl (hts (.castable gE gE) (by decide +kernel)), fun n hn => ?_⟩, vx_Zqof (hts (.laysStatic Bundle.tN "UNASSIGNED_STACK" Bundle.steD) (by decide +kernel)) (hts (.initialized Bundle.tN) (by decide +kernel)) (hs (.isRef (.static Bundle.tN "UNASSIGNED_STACK" Bundle.steD)) (by decide +kernel)) hnA, vx_Zqof (hts (.laysStatic Bundle.tN "SUPPRESSED_SENTINEL" Bundle.listD) (by decide +kernel)) (hts (.initialized Bundle.tN) (by decide +kernel)) (hs (.isRef (.static Bundle.tN "SUPPRESSED_SENTINEL" Bundle.listD)) (by decide +kernel)) hnA⟩
  · simp only [gStr, List.mem_cons, List.not_mem_nil, or_false] at hq
    rcases hq with rfl | rfl | rfl | rfl | rfl | rfl
    · obtain ⟨a, -, -, -, ha, -⟩ := Cond.exactly_spec (hs (.exactly (.string RX8 142) "java/lang/String") (by decide +kernel))
      exact ⟨a, vk_R.of (hts (.stringRef RX8 142 "no such point") (by decide +kernel)) ha⟩
    · obtain ⟨a, -, -, -, ha, -⟩ := Cond.exactly_spec (hs (.exactly (.string RX8 153) "java/lang/String") (by decide +kernel))
      exact ⟨a, vk_R.of (hts (.stringRef RX8 153 "a point has 0 x and 1 y alone") (by decide +kernel)) ha⟩
    · obtain ⟨a, -, -, -, ha, -⟩ := Cond.exactly_spec (hs (.exactly (.string RX8 166) "java/lang/String") (by decide +kernel))
      exact ⟨a, vk_R.of (hts (.stringRef RX8 166 "no such loop") (by decide +kernel)) ha⟩
    · obtain ⟨a, -, -, -, ha, -⟩ := Cond.exactly_spec (hs (.exactly (.string RX8 177) "java/lang/String") (by decide +kernel))
      exact ⟨a, vk_R.of (hts (.stringRef RX8 177 "a loop has 0 year, 1 points and 2 area alone") (by decide +kernel)) ha⟩
    · obtain ⟨a, -, -, -, ha, -⟩ := Cond.exactly_spec (hs (.exactly (.string RX8 191) "java/lang/String") (by decide +kernel))
      exact ⟨a, vk_R.of (hts (.stringRef RX8 191 "no such plot") (by decide +kernel)) ha⟩
    · obtain ⟨a, -, -, -, ha, -⟩ := Cond.exactly_spec (hs (.exactly (.string RX8 201) "java/lang/String") (by decide +kernel))
      exact ⟨a, vk_R.of (hts (.stringRef RX8 201 "a plot has 0 owner, 1 side and 2 changes alone") (by decide +kernel)) ha⟩
  · simp only [gDn, List.mem_cons, List.not_mem_nil, or_false] at hn
    rcases hn with rfl | rfl | rfl
    · exact va_Nw.of rfl (hts (.declares (Bundle.initS "java/lang/RuntimeException")) (by decide +kernel))
    · exact va_Nw.of rfl (hts (.declares (Bundle.initS "java/lang/Exception")) (by decide +kernel))
    · exact va_Nw.of rfl (hts (.declares (Bundle.initS "java/lang/Throwable")) (by decide +kernel))
theorem l_ok5 : okL (5, iX, iY) := by
  refine ⟨by decide, by decide, fun k hk => ?_⟩
  have hk' : k < 5 := hk
  match k, hk' with
  | 0, _ => exact ⟨⟨by decide, by decide⟩, ⟨by decide, by decide⟩⟩
  | 1, _ => exact ⟨⟨by decide, by decide⟩, ⟨by decide, by decide⟩⟩
  | 2, _ => exact ⟨⟨by decide, by decide⟩, ⟨by decide, by decide⟩⟩
  | 3, _ => exact ⟨⟨by decide, by decide⟩, ⟨by decide, by decide⟩⟩
  | 4, _ => exact ⟨⟨by decide, by decide⟩, ⟨by decide, by decide⟩⟩
theorem k_L_law_c8 : Cond.classLink RL 8 RX8 ∈ wsL_law := by decide +kernel
theorem k_L_law_n8 : Cond.instantiable RX8 8 ∈ wsL_law := by decide +kernel
theorem k_L_law_z8 : Cond.initialized RX8 ∈ wsL_law := by decide +kernel
theorem k_L_law_z21 : Cond.initialized yX8_init.cls ∈ wsL_law := by decide +kernel
theorem k_L_law_l21 : Cond.methodLink RL 21 yX8_init ∈ wsL_law := by decide +kernel
theorem k_L_law_j21 : Cond.instanceMethod yX8_init ∈ wsL_law := by decide +kernel
theorem k_L_law_c22 : Cond.classLink RL 22 RX9 ∈ wsL_law := by decide +kernel
theorem k_L_law_n22 : Cond.instantiable RX9 36 ∈ wsL_law := by decide +kernel
theorem k_L_law_z22 : Cond.initialized RX9 ∈ wsL_law := by decide +kernel
theorem k_L_law_z24 : Cond.initialized yX9_init.cls ∈ wsL_law := by decide +kernel
theorem k_L_law_l24 : Cond.methodLink RL 24 yX9_init ∈ wsL_law := by decide +kernel
theorem k_L_law_j24 : Cond.instanceMethod yX9_init ∈ wsL_law := by decide +kernel
theorem k_L_law_along : Cond.arrayClass .long ∈ wsL_law := by decide +kernel
theorem lw_end {p : Program} {l : Launch} {e : Env} {s : State} {m : MethodId} {below : List Frame} {meth : Method} {c : Code} {b : Nat} (hx : p.tables.exec = Jvm.exec) (hb : c.code = code) (hr : meth.sig.returnType = ret) (hlocks : meth.locks = false) {pc : Nat} {H : Heap} {locs : List Loc} {ls : Array Slot} (hnew : ∀ q ∈ locs, s.heap.size ≤ q.base) (hdg : decode code pc = .ok (.ireturn, 1)) : W p l e room_1 s m #[Value.ref b] below meth c H locs 1095 10507 (lw_Z below #[Value.ref b] s) (F0 m pc ls [.int 1]) := by
  intro T hT X
  have X' : Stand p l e room_1 s m #[Value.ref b] below meth c T [] 1095 10507 := ⟨X.admits, X.cas, X.clock, X.frames, X.room, X.hears, X.method, X.code, X.here, X.tail, X.warmed, X.limits, X.bytes, X.same.weaken (fun y hy hlt => absurd hlt (Nat.not_lt.mpr (hnew y hy))) (Nat.le_refl _) (Nat.le_refl _)⟩
  exact lw_ret (pc := pc) (ls := ls) hx hb hr hlocks hdg T hT X'
set_option maxHeartbeats 8000000 in
set_option maxRecDepth 100000 in
theorem whole_start {p : Program} {e : Env} {s : State} {m : MethodId} {below : List Frame} {meth : Method} {c : Code} (l : Launch) (hst : l.stackTraces = false) {b L : Nat} {xs : Nat → Int32} (hL : L ≤ 3584) (C0 : lw_At p s m meth c b L xs) : W p l e room_1 s m #[Value.ref b] below meth c s.heap [] 0 0 (lw_Z below #[Value.ref b] s) (entryFrame m ([Value.ref b] : List Value).toArray 7) := by
  obtain ⟨hx, hb, hr, hml, hown, hts, hX, hbl, hlocks, hgv⟩ := id C0
  have hA : ∀ q : Nat, s.heap.size ≤ q → (fun q : Nat => s.heap.size ≤ q) q := fun _ h => h
  have hbA : ¬ (fun q : Nat => s.heap.size ≤ q) b := Nat.not_le.mpr hbl
  have hXX := g_throws hts hgv
  obtain ⟨D, hKc⟩ := g_known hts
  obtain ⟨cI, hI1, hI2⟩ := g_arr (hts (.arrayClass .int) (by decide +kernel))
  obtain ⟨cB, hB1, hB2⟩ := g_arr (hts (.arrayClass .byte) (by decide +kernel))
  obtain ⟨cJ, hJ1, hJ2⟩ := g_arr (hts (.arrayClass .long) (by decide +kernel))
  obtain ⟨g, hg⟩ : ∃ g : gT, g = (D, cI, cB, cJ) := ⟨_, rfl⟩
  have hK : gK g s := by
    subst hg
    refine ⟨⟨hKc, fun k q h => ?_⟩, fun q hq => va_Nw.of rfl (hts _ (gNs_in q hq))⟩
    match k, h with
    | 0, h => cases h; exact ⟨hI1, hI2⟩
    | 1, h => cases h; exact ⟨hB1, hB2⟩
    | 2, h => cases h; exact ⟨hJ1, hJ2⟩
    | k + 3, h => simp [gTy] at h
  generalize hAe : (fun q : Nat => s.heap.size ≤ q) = A at hA hbA hXX
  have F : CallFix p m c cL_law 7 s #[Value.ref b] wsL_law RL := ⟨hx, hb, hml, hown, fun w h => hts w (wsL_law_in w h)⟩
  have hS : va_S A s.heap s.heap [] := va_S.rf
  have hP : gP g [] s.heap := fun k q h => by simp at h
  have hD : va_D A [] := ⟨fun i j p q h => by simp at h, fun k q h => by simp at h⟩
  have E : ∀ (H : Heap) (locs : List Loc) (ls : Array Slot), va_S A s.heap H locs → W p l e room_1 s m #[Value.ref b] below meth c H locs 1095 10507 (lw_Z below #[Value.ref b] s) (F0 m 864 ls [.int 1]) := fun H locs ls hS => lw_end hx hb hr hlocks (fun q hq => by have := hS.2.2 q hq; rw [← hAe] at this; exact this) dL_law_864
  have hl := lv_entry ([.ref b]) (n := 7) (Nat.le_of_ble_eq_true rfl)
  rw [lg_entry_eq]
  generalize (lg_sl ([.ref b]) ++ List.replicate (7 - (lg_sl ([.ref b])).length) Slot.unset).toArray = ls at hl ⊢
  have hl : lv_has ls 7 [(0, .ref b)] := hl
  generalize hQe : lw_Z below #[Value.ref b] s = Q at E ⊢
  refine g_new (C := RX8) (T := TX8) (N := 8) (ci := 8) (ws2 := fun q_0 => [gO q_0 8 [.null, .null, .null, .null, .null, .null, .null, .null]]) F inlX8 tyX8 tyX8_ok k_L_law_c8 k_L_law_n8 k_L_law_z8 hK hP hD hS hA rfl df_X8 (Nat.le_of_ble_eq_true rfl) (Nat.le_of_ble_eq_true rfl) (fun _ => rfl) dL_law_0 (fun q_0 H hP hD hS => ?_)
  refine W.widen (k := 1) (n := 8) (Nat.le_of_ble_eq_true rfl) (Nat.le_of_ble_eq_true rfl) ?_
  refine lv_dup hx hb dL_law_3 rfl ?_
  refine g_II (wr := []) (As := []) (rest := [.ref q_0]) (n := 0) F (c_X8_init l g q_0) gL_law_X8_init rfl k_L_law_z21 k_L_law_l21 k_L_law_j21 rfl (by decide) ⟨by decide, by decide⟩ rfl hl.1 rfl (Nat.le_of_ble_eq_true rfl) dL_law_4 ⟨Nat.le_of_ble_eq_true rfl, Nat.le_of_ble_eq_true rfl⟩ hK hP hD hS hA [0] [] (by decide +kernel) rfl rfl (by decide +kernel) (by decide +kernel) (fun u_4 H locs hw_4 hP hD hS => ?_)
  refine W.widen (k := 42) (n := 1195) (Nat.le_of_ble_eq_true rfl) (Nat.le_of_ble_eq_true rfl) ?_
  obtain ⟨ta_4, tb_4, so_4, bk_4, to_4, tx_4, ty_4, ro_4, lo_4, ly_4, lp_4, la_4, cp_4, cx_4, cy_4, sp_4, dx_4, dy_4, tr_4, lo2_4, ly2_4, lp2_4, la2_4, cp2_4, cx2_4, cy2_4, sp2_4, dx2_4, dy2_4, pl_4, px_4, py_4, pw_4, pc__4, pb_4, mo_4, mx_4, my_4, mz_4, ra_4, rv_4, fb_4, fx2_4, fy2_4⟩ := u_4
  have hP : gP g [gO q_0 8 [.ref ta_4, .ref so_4, .ref to_4, .ref ro_4, .ref tr_4, .ref pl_4, .ref mo_4, .ref ra_4], gO ta_4 7 [.ref tb_4, .int 0], gI g tb_4 200 (fun _ => 0), gO so_4 6 [.ref bk_4, .int 50, .int 4, .int 2, .int 1, .int 32, .int 8], gI g bk_4 64 fb_4, gO to_4 3 [.ref tx_4, .ref ty_4, .int (nI 5)], gI g tx_4 48 iX, gI g ty_4 48 iY, gO ro_4 5 [.ref lo_4, .ref cp_4, .ref sp_4, .int 0], gO lo_4 0 [.ref ly_4, .ref lp_4, .ref la_4, .int 0], gI g ly_4 30 (fun _ => 0), gI g lp_4 30 (fun _ => 0), gI g la_4 30 (fun _ => 0), gO cp_4 3 [.ref cx_4, .ref cy_4, .int (nI 5)], gI g cx_4 48 fx2_4, gI g cy_4 48 fy2_4, gO sp_4 3 [.ref dx_4, .ref dy_4, .int 0], gI g dx_4 48 (fun _ => 0), gI g dy_4 48 (fun _ => 0), gO tr_4 5 [.ref lo2_4, .ref cp2_4, .ref sp2_4, .int 0], gO lo2_4 0 [.ref ly2_4, .ref lp2_4, .ref la2_4, .int 0], gI g ly2_4 30 (fun _ => 0), gI g lp2_4 30 (fun _ => 0), gI g la2_4 30 (fun _ => 0), gO cp2_4 3 [.ref cx2_4, .ref cy2_4, .int 0], gI g cx2_4 48 (fun _ => 0), gI g cy2_4 48 (fun _ => 0), gO sp2_4 3 [.ref dx2_4, .ref dy2_4, .int 0], gI g dx2_4 48 (fun _ => 0), gI g dy2_4 48 (fun _ => 0), gO pl_4 2 [.ref px_4, .ref py_4, .ref pw_4, .ref pc__4, .ref pb_4, .int 0], gI g px_4 20 (fun _ => 0), gI g py_4 20 (fun _ => 0), gI g pw_4 20 (fun _ => 0), gI g pc__4 20 (fun _ => 0), gI g pb_4 20 (fun _ => 0), gO mo_4 1 [.ref mx_4, .ref my_4, .ref mz_4, .int 0, .int 8], gI g mx_4 30 (fun _ => 0), gI g my_4 30 (fun _ => 0), gI g mz_4 30 (fun _ => 0), gO ra_4 4 [.ref rv_4, .int 0], gI g rv_4 20 (fun _ => 0)] H := hP
  have hD : va_D A [gO q_0 8 [.ref ta_4, .ref so_4, .ref to_4, .ref ro_4, .ref tr_4, .ref pl_4, .ref mo_4, .ref ra_4], gO ta_4 7 [.ref tb_4, .int 0], gI g tb_4 200 (fun _ => 0), gO so_4 6 [.ref bk_4, .int 50, .int 4, .int 2, .int 1, .int 32, .int 8], gI g bk_4 64 fb_4, gO to_4 3 [.ref tx_4, .ref ty_4, .int (nI 5)], gI g tx_4 48 iX, gI g ty_4 48 iY, gO ro_4 5 [.ref lo_4, .ref cp_4, .ref sp_4, .int 0], gO lo_4 0 [.ref ly_4, .ref lp_4, .ref la_4, .int 0], gI g ly_4 30 (fun _ => 0), gI g lp_4 30 (fun _ => 0), gI g la_4 30 (fun _ => 0), gO cp_4 3 [.ref cx_4, .ref cy_4, .int (nI 5)], gI g cx_4 48 fx2_4, gI g cy_4 48 fy2_4, gO sp_4 3 [.ref dx_4, .ref dy_4, .int 0], gI g dx_4 48 (fun _ => 0), gI g dy_4 48 (fun _ => 0), gO tr_4 5 [.ref lo2_4, .ref cp2_4, .ref sp2_4, .int 0], gO lo2_4 0 [.ref ly2_4, .ref lp2_4, .ref la2_4, .int 0], gI g ly2_4 30 (fun _ => 0), gI g lp2_4 30 (fun _ => 0), gI g la2_4 30 (fun _ => 0), gO cp2_4 3 [.ref cx2_4, .ref cy2_4, .int 0], gI g cx2_4 48 (fun _ => 0), gI g cy2_4 48 (fun _ => 0), gO sp2_4 3 [.ref dx2_4, .ref dy2_4, .int 0], gI g dx2_4 48 (fun _ => 0), gI g dy2_4 48 (fun _ => 0), gO pl_4 2 [.ref px_4, .ref py_4, .ref pw_4, .ref pc__4, .ref pb_4, .int 0], gI g px_4 20 (fun _ => 0), gI g py_4 20 (fun _ => 0), gI g pw_4 20 (fun _ => 0), gI g pc__4 20 (fun _ => 0), gI g pb_4 20 (fun _ => 0), gO mo_4 1 [.ref mx_4, .ref my_4, .ref mz_4, .int 0, .int 8], gI g mx_4 30 (fun _ => 0), gI g my_4 30 (fun _ => 0), gI g mz_4 30 (fun _ => 0), gO ra_4 4 [.ref rv_4, .int 0], gI g rv_4 20 (fun _ => 0)] := hD
  try dsimp only at hw_4
  obtain ⟨hB_4, hX_4, hY_4⟩ := hw_4
  refine lv_astore_n (lv' := [(1, .ref q_0), (0, .ref b)]) hx hb dL_law_7 rfl hl (by decide) rfl (fun ls hl => ?_)
  refine g_new (C := RX9) (T := TX9) (N := 36) (ci := 9) (ws2 := fun q_8 => [gO q_0 8 [.ref ta_4, .ref so_4, .ref to_4, .ref ro_4, .ref tr_4, .ref pl_4, .ref mo_4, .ref ra_4], gO ta_4 7 [.ref tb_4, .int 0], gI g tb_4 200 (fun _ => 0), gO so_4 6 [.ref bk_4, .int 50, .int 4, .int 2, .int 1, .int 32, .int 8], gI g bk_4 64 fb_4, gO to_4 3 [.ref tx_4, .ref ty_4, .int (nI 5)], gI g tx_4 48 iX, gI g ty_4 48 iY, gO ro_4 5 [.ref lo_4, .ref cp_4, .ref sp_4, .int 0], gO lo_4 0 [.ref ly_4, .ref lp_4, .ref la_4, .int 0], gI g ly_4 30 (fun _ => 0), gI g lp_4 30 (fun _ => 0), gI g la_4 30 (fun _ => 0), gO cp_4 3 [.ref cx_4, .ref cy_4, .int (nI 5)], gI g cx_4 48 fx2_4, gI g cy_4 48 fy2_4, gO sp_4 3 [.ref dx_4, .ref dy_4, .int 0], gI g dx_4 48 (fun _ => 0), gI g dy_4 48 (fun _ => 0), gO tr_4 5 [.ref lo2_4, .ref cp2_4, .ref sp2_4, .int 0], gO lo2_4 0 [.ref ly2_4, .ref lp2_4, .ref la2_4, .int 0], gI g ly2_4 30 (fun _ => 0), gI g lp2_4 30 (fun _ => 0), gI g la2_4 30 (fun _ => 0), gO cp2_4 3 [.ref cx2_4, .ref cy2_4, .int 0], gI g cx2_4 48 (fun _ => 0), gI g cy2_4 48 (fun _ => 0), gO sp2_4 3 [.ref dx2_4, .ref dy2_4, .int 0], gI g dx2_4 48 (fun _ => 0), gI g dy2_4 48 (fun _ => 0), gO pl_4 2 [.ref px_4, .ref py_4, .ref pw_4, .ref pc__4, .ref pb_4, .int 0], gI g px_4 20 (fun _ => 0), gI g py_4 20 (fun _ => 0), gI g pw_4 20 (fun _ => 0), gI g pc__4 20 (fun _ => 0), gI g pb_4 20 (fun _ => 0), gO mo_4 1 [.ref mx_4, .ref my_4, .ref mz_4, .int 0, .int 8], gI g mx_4 30 (fun _ => 0), gI g my_4 30 (fun _ => 0), gI g mz_4 30 (fun _ => 0), gO ra_4 4 [.ref rv_4, .int 0], gI g rv_4 20 (fun _ => 0), gO q_8 9 [.int 0, .null, .int 0, .int 0, .null, .null, .null, .null, .int 0, .int 0, .int 0, .int 0, .int 0, .int 0, .int 0, .null, .null, .null, .null, .null, .null, .null, .int 0, .null, .null, .null, .null, .null, .int 0, .null, .null, .null, .null, .int 0, .int 0, .int 0]]) F inlX9 tyX9 tyX9_ok k_L_law_c22 k_L_law_n22 k_L_law_z22 hK hP hD hS hA rfl df_X9 (Nat.le_of_ble_eq_true rfl) (Nat.le_of_ble_eq_true rfl) (fun _ => rfl) dL_law_8 (fun q_8 H hP hD hS => ?_)
  refine W.widen (k := 43) (n := 1231) (Nat.le_of_ble_eq_true rfl) (Nat.le_of_ble_eq_true rfl) ?_
  refine lv_dup hx hb dL_law_11 rfl ?_
  refine g_II (wr := [gO q_0 8 [.ref ta_4, .ref so_4, .ref to_4, .ref ro_4, .ref tr_4, .ref pl_4, .ref mo_4, .ref ra_4], gO ta_4 7 [.ref tb_4, .int 0], gI g tb_4 200 (fun _ => 0), gO so_4 6 [.ref bk_4, .int 50, .int 4, .int 2, .int 1, .int 32, .int 8], gI g bk_4 64 fb_4, gO to_4 3 [.ref tx_4, .ref ty_4, .int (nI 5)], gI g tx_4 48 iX, gI g ty_4 48 iY, gO ro_4 5 [.ref lo_4, .ref cp_4, .ref sp_4, .int 0], gO lo_4 0 [.ref ly_4, .ref lp_4, .ref la_4, .int 0], gI g ly_4 30 (fun _ => 0), gI g lp_4 30 (fun _ => 0), gI g la_4 30 (fun _ => 0), gO cp_4 3 [.ref cx_4, .ref cy_4, .int (nI 5)], gI g cx_4 48 fx2_4, gI g cy_4 48 fy2_4, gO sp_4 3 [.ref dx_4, .ref dy_4, .int 0], gI g dx_4 48 (fun _ => 0), gI g dy_4 48 (fun _ => 0), gO tr_4 5 [.ref lo2_4, .ref cp2_4, .ref sp2_4, .int 0], gO lo2_4 0 [.ref ly2_4, .ref lp2_4, .ref la2_4, .int 0], gI g ly2_4 30 (fun _ => 0), gI g lp2_4 30 (fun _ => 0), gI g la2_4 30 (fun _ => 0), gO cp2_4 3 [.ref cx2_4, .ref cy2_4, .int 0], gI g cx2_4 48 (fun _ => 0), gI g cy2_4 48 (fun _ => 0), gO sp2_4 3 [.ref dx2_4, .ref dy2_4, .int 0], gI g dx2_4 48 (fun _ => 0), gI g dy2_4 48 (fun _ => 0), gO pl_4 2 [.ref px_4, .ref py_4, .ref pw_4, .ref pc__4, .ref pb_4, .int 0], gI g px_4 20 (fun _ => 0), gI g py_4 20 (fun _ => 0), gI g pw_4 20 (fun _ => 0), gI g pc__4 20 (fun _ => 0), gI g pb_4 20 (fun _ => 0), gO mo_4 1 [.ref mx_4, .ref my_4, .ref mz_4, .int 0, .int 8], gI g mx_4 30 (fun _ => 0), gI g my_4 30 (fun _ => 0), gI g mz_4 30 (fun _ => 0), gO ra_4 4 [.ref rv_4, .int 0], gI g rv_4 20 (fun _ => 0)]) (As := []) (rest := [.ref q_8]) (n := 0) F (c_X9_init l g q_8) gL_law_X9_init rfl k_L_law_z24 k_L_law_l24 k_L_law_j24 rfl (by decide) ⟨by decide, by decide⟩ rfl hl.1 rfl (Nat.le_of_ble_eq_true rfl) dL_law_12 ⟨Nat.le_of_ble_eq_true rfl, Nat.le_of_ble_eq_true rfl⟩ hK hP hD hS hA [42] [0, 1, 2, 3, 4, 5, 6, 7, 8, 9, 10, 11, 12, 13, 14, 15, 16, 17, 18, 19, 20, 21, 22, 23, 24, 25, 26, 27, 28, 29, 30, 31, 32, 33, 34, 35, 36, 37, 38, 39, 40, 41] (by decide +kernel) rfl rfl (by decide +kernel) (by decide +kernel) (fun u_12 H locs hw_12 hP hD hS => ?_)
  refine W.widen (k := 64) (n := 2278) (Nat.le_of_ble_eq_true rfl) (Nat.le_of_ble_eq_true rfl) ?_
  obtain ⟨zt_12, zx_12, zy_12, zm_12, zb_12, va_12, vb_12, vc_12, vd_12, qa_12, qb_12, qc_12, sa_12, sb_12, sc_12, sd_12, se_12, ma_12, mb_12, mc_12, rv_12, fb_12, fx2_12, fy2_12⟩ := u_12
  have hP : gP g [gO q_0 8 [.ref ta_4, .ref so_4, .ref to_4, .ref ro_4, .ref tr_4, .ref pl_4, .ref mo_4, .ref ra_4], gO ta_4 7 [.ref tb_4, .int 0], gI g tb_4 200 (fun _ => 0), gO so_4 6 [.ref bk_4, .int 50, .int 4, .int 2, .int 1, .int 32, .int 8], gI g bk_4 64 fb_4, gO to_4 3 [.ref tx_4, .ref ty_4, .int (nI 5)], gI g tx_4 48 iX, gI g ty_4 48 iY, gO ro_4 5 [.ref lo_4, .ref cp_4, .ref sp_4, .int 0], gO lo_4 0 [.ref ly_4, .ref lp_4, .ref la_4, .int 0], gI g ly_4 30 (fun _ => 0), gI g lp_4 30 (fun _ => 0), gI g la_4 30 (fun _ => 0), gO cp_4 3 [.ref cx_4, .ref cy_4, .int (nI 5)], gI g cx_4 48 fx2_4, gI g cy_4 48 fy2_4, gO sp_4 3 [.ref dx_4, .ref dy_4, .int 0], gI g dx_4 48 (fun _ => 0), gI g dy_4 48 (fun _ => 0), gO tr_4 5 [.ref lo2_4, .ref cp2_4, .ref sp2_4, .int 0], gO lo2_4 0 [.ref ly2_4, .ref lp2_4, .ref la2_4, .int 0], gI g ly2_4 30 (fun _ => 0), gI g lp2_4 30 (fun _ => 0), gI g la2_4 30 (fun _ => 0), gO cp2_4 3 [.ref cx2_4, .ref cy2_4, .int 0], gI g cx2_4 48 (fun _ => 0), gI g cy2_4 48 (fun _ => 0), gO sp2_4 3 [.ref dx2_4, .ref dy2_4, .int 0], gI g dx2_4 48 (fun _ => 0), gI g dy2_4 48 (fun _ => 0), gO pl_4 2 [.ref px_4, .ref py_4, .ref pw_4, .ref pc__4, .ref pb_4, .int 0], gI g px_4 20 (fun _ => 0), gI g py_4 20 (fun _ => 0), gI g pw_4 20 (fun _ => 0), gI g pc__4 20 (fun _ => 0), gI g pb_4 20 (fun _ => 0), gO mo_4 1 [.ref mx_4, .ref my_4, .ref mz_4, .int 0, .int 8], gI g mx_4 30 (fun _ => 0), gI g my_4 30 (fun _ => 0), gI g mz_4 30 (fun _ => 0), gO ra_4 4 [.ref rv_4, .int 0], gI g rv_4 20 (fun _ => 0), gO q_8 9 [.int 0, .ref zt_12, .int 0, .int 0, .ref zx_12, .ref zy_12, .ref zm_12, .ref zb_12, .int 50, .int 4, .int 2, .int 1, .int 32, .int 8, .int 0, .ref va_12, .ref vb_12, .ref vc_12, .ref vd_12, .ref qa_12, .ref qb_12, .ref qc_12, .int 0, .ref sa_12, .ref sb_12, .ref sc_12, .ref sd_12, .ref se_12, .int 0, .ref ma_12, .ref mb_12, .ref mc_12, .ref rv_12, .int 0, .int 8, .int 0], gB g zt_12 200 (fun _ => 0), gI g zx_12 144 fx2_12, gI g zy_12 144 fy2_12, gI g zm_12 3 (upd (upd (fun _ => 0) 2 5) 0 (nI 5)), gI g zb_12 64 fb_12, gI g va_12 48 (fun _ => 0), gI g vb_12 48 (fun _ => 0), gI g vc_12 48 (fun _ => 0), gI g vd_12 48 (fun _ => 0), gI g qa_12 30 (fun _ => 0), gI g qb_12 30 (fun _ => 0), gI g qc_12 30 (fun _ => 0), gI g sa_12 20 (fun _ => 0), gI g sb_12 20 (fun _ => 0), gI g sc_12 20 (fun _ => 0), gI g sd_12 20 (fun _ => 0), gI g se_12 20 (fun _ => 0), gI g ma_12 30 (fun _ => 0), gI g mb_12 30 (fun _ => 0), gI g mc_12 30 (fun _ => 0), gI g rv_12 20 (fun _ => 0)] H := hP
  have hD : va_D A [gO q_0 8 [.ref ta_4, .ref so_4, .ref to_4, .ref ro_4, .ref tr_4, .ref pl_4, .ref mo_4, .ref ra_4], gO ta_4 7 [.ref tb_4, .int 0], gI g tb_4 200 (fun _ => 0), gO so_4 6 [.ref bk_4, .int 50, .int 4, .int 2, .int 1, .int 32, .int 8], gI g bk_4 64 fb_4, gO to_4 3 [.ref tx_4, .ref ty_4, .int (nI 5)], gI g tx_4 48 iX, gI g ty_4 48 iY, gO ro_4 5 [.ref lo_4, .ref cp_4, .ref sp_4, .int 0], gO lo_4 0 [.ref ly_4, .ref lp_4, .ref la_4, .int 0], gI g ly_4 30 (fun _ => 0), gI g lp_4 30 (fun _ => 0), gI g la_4 30 (fun _ => 0), gO cp_4 3 [.ref cx_4, .ref cy_4, .int (nI 5)], gI g cx_4 48 fx2_4, gI g cy_4 48 fy2_4, gO sp_4 3 [.ref dx_4, .ref dy_4, .int 0], gI g dx_4 48 (fun _ => 0), gI g dy_4 48 (fun _ => 0), gO tr_4 5 [.ref lo2_4, .ref cp2_4, .ref sp2_4, .int 0], gO lo2_4 0 [.ref ly2_4, .ref lp2_4, .ref la2_4, .int 0], gI g ly2_4 30 (fun _ => 0), gI g lp2_4 30 (fun _ => 0), gI g la2_4 30 (fun _ => 0), gO cp2_4 3 [.ref cx2_4, .ref cy2_4, .int 0], gI g cx2_4 48 (fun _ => 0), gI g cy2_4 48 (fun _ => 0), gO sp2_4 3 [.ref dx2_4, .ref dy2_4, .int 0], gI g dx2_4 48 (fun _ => 0), gI g dy2_4 48 (fun _ => 0), gO pl_4 2 [.ref px_4, .ref py_4, .ref pw_4, .ref pc__4, .ref pb_4, .int 0], gI g px_4 20 (fun _ => 0), gI g py_4 20 (fun _ => 0), gI g pw_4 20 (fun _ => 0), gI g pc__4 20 (fun _ => 0), gI g pb_4 20 (fun _ => 0), gO mo_4 1 [.ref mx_4, .ref my_4, .ref mz_4, .int 0, .int 8], gI g mx_4 30 (fun _ => 0), gI g my_4 30 (fun _ => 0), gI g mz_4 30 (fun _ => 0), gO ra_4 4 [.ref rv_4, .int 0], gI g rv_4 20 (fun _ => 0), gO q_8 9 [.int 0, .ref zt_12, .int 0, .int 0, .ref zx_12, .ref zy_12, .ref zm_12, .ref zb_12, .int 50, .int 4, .int 2, .int 1, .int 32, .int 8, .int 0, .ref va_12, .ref vb_12, .ref vc_12, .ref vd_12, .ref qa_12, .ref qb_12, .ref qc_12, .int 0, .ref sa_12, .ref sb_12, .ref sc_12, .ref sd_12, .ref se_12, .int 0, .ref ma_12, .ref mb_12, .ref mc_12, .ref rv_12, .int 0, .int 8, .int 0], gB g zt_12 200 (fun _ => 0), gI g zx_12 144 fx2_12, gI g zy_12 144 fy2_12, gI g zm_12 3 (upd (upd (fun _ => 0) 2 5) 0 (nI 5)), gI g zb_12 64 fb_12, gI g va_12 48 (fun _ => 0), gI g vb_12 48 (fun _ => 0), gI g vc_12 48 (fun _ => 0), gI g vd_12 48 (fun _ => 0), gI g qa_12 30 (fun _ => 0), gI g qb_12 30 (fun _ => 0), gI g qc_12 30 (fun _ => 0), gI g sa_12 20 (fun _ => 0), gI g sb_12 20 (fun _ => 0), gI g sc_12 20 (fun _ => 0), gI g sd_12 20 (fun _ => 0), gI g se_12 20 (fun _ => 0), gI g ma_12 30 (fun _ => 0), gI g mb_12 30 (fun _ => 0), gI g mc_12 30 (fun _ => 0), gI g rv_12 20 (fun _ => 0)] := hD
  try dsimp only at hw_12
  obtain ⟨hB_12, hT_12, hX_12, hY_12⟩ := hw_12
  refine lv_astore_n (lv' := [(2, .ref q_8), (1, .ref q_0), (0, .ref b)]) hx hb dL_law_15 rfl hl (by decide) rfl (fun ls hl => ?_)
  refine lv_iconst (v := 1) hx hb dL_law_16 (by decide) ?_
  refine g_newl (N := 1) (ws2 := fun q_17 => [gO q_0 8 [.ref ta_4, .ref so_4, .ref to_4, .ref ro_4, .ref tr_4, .ref pl_4, .ref mo_4, .ref ra_4], gO ta_4 7 [.ref tb_4, .int 0], gI g tb_4 200 (fun _ => 0), gO so_4 6 [.ref bk_4, .int 50, .int 4, .int 2, .int 1, .int 32, .int 8], gI g bk_4 64 fb_4, gO to_4 3 [.ref tx_4, .ref ty_4, .int (nI 5)], gI g tx_4 48 iX, gI g ty_4 48 iY, gO ro_4 5 [.ref lo_4, .ref cp_4, .ref sp_4, .int 0], gO lo_4 0 [.ref ly_4, .ref lp_4, .ref la_4, .int 0], gI g ly_4 30 (fun _ => 0), gI g lp_4 30 (fun _ => 0), gI g la_4 30 (fun _ => 0), gO cp_4 3 [.ref cx_4, .ref cy_4, .int (nI 5)], gI g cx_4 48 fx2_4, gI g cy_4 48 fy2_4, gO sp_4 3 [.ref dx_4, .ref dy_4, .int 0], gI g dx_4 48 (fun _ => 0), gI g dy_4 48 (fun _ => 0), gO tr_4 5 [.ref lo2_4, .ref cp2_4, .ref sp2_4, .int 0], gO lo2_4 0 [.ref ly2_4, .ref lp2_4, .ref la2_4, .int 0], gI g ly2_4 30 (fun _ => 0), gI g lp2_4 30 (fun _ => 0), gI g la2_4 30 (fun _ => 0), gO cp2_4 3 [.ref cx2_4, .ref cy2_4, .int 0], gI g cx2_4 48 (fun _ => 0), gI g cy2_4 48 (fun _ => 0), gO sp2_4 3 [.ref dx2_4, .ref dy2_4, .int 0], gI g dx2_4 48 (fun _ => 0), gI g dy2_4 48 (fun _ => 0), gO pl_4 2 [.ref px_4, .ref py_4, .ref pw_4, .ref pc__4, .ref pb_4, .int 0], gI g px_4 20 (fun _ => 0), gI g py_4 20 (fun _ => 0), gI g pw_4 20 (fun _ => 0), gI g pc__4 20 (fun _ => 0), gI g pb_4 20 (fun _ => 0), gO mo_4 1 [.ref mx_4, .ref my_4, .ref mz_4, .int 0, .int 8], gI g mx_4 30 (fun _ => 0), gI g my_4 30 (fun _ => 0), gI g mz_4 30 (fun _ => 0), gO ra_4 4 [.ref rv_4, .int 0], gI g rv_4 20 (fun _ => 0), gO q_8 9 [.int 0, .ref zt_12, .int 0, .int 0, .ref zx_12, .ref zy_12, .ref zm_12, .ref zb_12, .int 50, .int 4, .int 2, .int 1, .int 32, .int 8, .int 0, .ref va_12, .ref vb_12, .ref vc_12, .ref vd_12, .ref qa_12, .ref qb_12, .ref qc_12, .int 0, .ref sa_12, .ref sb_12, .ref sc_12, .ref sd_12, .ref se_12, .int 0, .ref ma_12, .ref mb_12, .ref mc_12, .ref rv_12, .int 0, .int 8, .int 0], gB g zt_12 200 (fun _ => 0), gI g zx_12 144 fx2_12, gI g zy_12 144 fy2_12, gI g zm_12 3 (upd (upd (fun _ => 0) 2 5) 0 (nI 5)), gI g zb_12 64 fb_12, gI g va_12 48 (fun _ => 0), gI g vb_12 48 (fun _ => 0), gI g vc_12 48 (fun _ => 0), gI g vd_12 48 (fun _ => 0), gI g qa_12 30 (fun _ => 0), gI g qb_12 30 (fun _ => 0), gI g qc_12 30 (fun _ => 0), gI g sa_12 20 (fun _ => 0), gI g sb_12 20 (fun _ => 0), gI g sc_12 20 (fun _ => 0), gI g sd_12 20 (fun _ => 0), gI g se_12 20 (fun _ => 0), gI g ma_12 30 (fun _ => 0), gI g mb_12 30 (fun _ => 0), gI g mc_12 30 (fun _ => 0), gI g rv_12 20 (fun _ => 0), gL g q_17 1 (fun _ => 0)]) F k_L_law_along hK hP hD hS hA (by decide) (by decide) (by decide) (Nat.le_of_ble_eq_true rfl) (Nat.le_of_ble_eq_true rfl) (fun _ => rfl) dL_law_17 (fun q_17 H hP hD hS => ?_)
  refine W.widen (k := 65) (n := 2279) (Nat.le_of_ble_eq_true rfl) (Nat.le_of_ble_eq_true rfl) ?_
  refine lv_astore_n (lv' := [(3, .ref q_17), (2, .ref q_8), (1, .ref q_0), (0, .ref b)]) hx hb dL_law_19 rfl hl (by decide) rfl (fun ls hl => ?_)
  refine lv_iconst (v := 0) hx hb dL_law_20 (by decide) ?_
  refine lv_istore (lv' := [(4, .int 0), (3, .ref q_17), (2, .ref q_8), (1, .ref q_0), (0, .ref b)]) hx hb dL_law_21 hl (by decide) rfl (fun ls hl => ?_)
  exact law_loop ⟨F, hK, hXX, hA, hX, hbl, hbA, hL, hst⟩ E (L + 1) 0 ta_4 so_4 to_4 ro_4 tr_4 pl_4 mo_4 ra_4 tb_4 bk_4 tx_4 ty_4 lo_4 ly_4 lp_4 la_4 cp_4 cx_4 cy_4 sp_4 dx_4 dy_4 lo2_4 ly2_4 lp2_4 la2_4 cp2_4 cx2_4 cy2_4 sp2_4 dx2_4 dy2_4 px_4 py_4 pw_4 pc__4 pb_4 mx_4 my_4 mz_4 rv_4 zt_12 zx_12 zy_12 zm_12 zb_12 va_12 vb_12 vc_12 vd_12 qa_12 qb_12 qc_12 sa_12 sb_12 sc_12 sd_12 se_12 ma_12 mb_12 mc_12 rv_12 0 5 0 0 5 0 0 0 0 0 0 0 0 0 50 4 2 1 32 8 8 0 (fun _ => 0) fb_4 iX iY (fun _ => 0) (fun _ => 0) (fun _ => 0) fx2_4 fy2_4 (fun _ => 0) (fun _ => 0) (fun _ => 0) (fun _ => 0) (fun _ => 0) (fun _ => 0) (fun _ => 0) (fun _ => 0) (fun _ => 0) (fun _ => 0) (fun _ => 0) (fun _ => 0) (fun _ => 0) (fun _ => 0) (fun _ => 0) (fun _ => 0) (fun _ => 0) (fun _ => 0) (fun _ => 0) fx2_12 fy2_12 (upd (upd (fun _ => 0) 2 5) 0 (nI 5)) fb_12 (fun _ => 0) (fun _ => 0) (fun _ => 0) (fun _ => 0) (fun _ => 0) (fun _ => 0) (fun _ => 0) (fun _ => 0) (fun _ => 0) (fun _ => 0) (fun _ => 0) (fun _ => 0) (fun _ => 0) (fun _ => 0) (fun _ => 0) (fun _ => 0) (fun _ => 5) iX iY iX iY (fun _ => 0) (fun _ => 0) ls _ _ (by omega) (by omega) (⟨by decide, fun _ => (by decide : 0 < 256), fun k hk => absurd hk (Nat.not_lt_zero k), fun k hk => absurd hk (Nat.not_lt_zero k)⟩) (⟨hB_4, hB_12⟩) (⟨l_ok5, fun _ _ => rfl, fun _ _ => rfl, by rw [pk_un (by decide), pk_us]; rfl, hT_12.1, hT_12.2⟩) (⟨l_ok5, hX_4, hY_4, pk_us, hX_12, hY_12, by decide⟩) (⟨by decide, rfl, fun k hk => absurd hk (Nat.not_lt_zero k)⟩) (⟨by decide, fun k hk => absurd hk (Nat.not_lt_zero k), fun k hk => absurd hk (Nat.not_lt_zero k), fun k hk => absurd hk (Nat.not_lt_zero k), fun k hk => absurd hk (Nat.not_lt_zero k), fun k hk => absurd hk (Nat.not_lt_zero k)⟩) (⟨⟨by decide, fun k hk => absurd hk (Nat.not_lt_zero k)⟩, fun k hk => absurd hk (Nat.not_lt_zero k), fun k hk => absurd hk (Nat.not_lt_zero k), fun k hk => absurd hk (Nat.not_lt_zero k)⟩) (⟨by decide, fun k hk => absurd hk (Nat.not_lt_zero k)⟩) (lv_sub hl [4, 3, 2, 1, 0] rfl) (hP.sub [64, 0, 1, 2, 3, 4, 5, 6, 7, 8, 9, 10, 11, 12, 13, 14, 15, 16, 17, 18, 19, 20, 21, 22, 23, 24, 25, 26, 27, 28, 29, 30, 31, 32, 33, 34, 35, 36, 37, 38, 39, 40, 41, 42, 43, 44, 45, 46, 47, 48, 49, 50, 51, 52, 53, 54, 55, 56, 57, 58, 59, 60, 61, 62, 63] rfl) (hD.sub [64, 0, 1, 2, 3, 4, 5, 6, 7, 8, 9, 10, 11, 12, 13, 14, 15, 16, 17, 18, 19, 20, 21, 22, 23, 24, 25, 26, 27, 28, 29, 30, 31, 32, 33, 34, 35, 36, 37, 38, 39, 40, 41, 42, 43, 44, 45, 46, 47, 48, 49, 50, 51, 52, 53, 54, 55, 56, 57, 58, 59, 60, 61, 62, 63] (by decide +kernel) rfl) hS
