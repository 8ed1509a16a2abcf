/-! methods that throw, and methods that catch: contracts, entries, calls -/
def gStr : List (Nat × String) := [(142, "no such point"), (153, "a point has 0 x and 1 y alone"), (166, "no such loop"), (177, "a loop has 0 year, 1 points and 2 area alone"), (191, "no such plot"), (201, "a plot has 0 owner, 1 side and 2 changes alone")]
def gDn : List String := ["java/lang/RuntimeException", "java/lang/Exception", "java/lang/Throwable"]
/-- what a throw asks of a state and a heap, A the cells that may be written -/
def gX (A : Nat → Prop) (U : State) (H : Heap) : Prop := (∀ q ∈ gStr, ∃ sa, vk_R RX8 q.1 q.2 sa U) ∧ (va_Nw (.castable gE gE) U ∧ ∀ n ∈ gDn, va_Nw (.declares (Bundle.initS n)) U) ∧ vx_Zq Bundle.tN "UNASSIGNED_STACK" Bundle.steD A U H ∧ vx_Zq Bundle.tN "SUPPRESSED_SENTINEL" Bundle.listD A U H
theorem gX.warm {A : Nat → Prop} {s U : State} {H : Heap} (hW : s.WarmedH U.vm) (h : gX A s H) : gX A U H :=
  ⟨fun q hq => by obtain ⟨sa, h1⟩ := h.1 q hq; exact ⟨sa, vk_R.warm hW h1⟩, ⟨va_Nw.warmC hW h.2.1.1, fun n hn => va_Nw.warmD hW (h.2.1.2 n hn)⟩, vx_Zq.moved hW.alike h.2.2.1, vx_Zq.moved hW.alike h.2.2.2⟩
theorem gX.call {A : Nat → Prop} {U : State} {H : Heap} {j : JFrame} {mk : MethodId} {a : Array Value} (h : gX A U H) : gX A (U.calling j mk a) H := gX.warm (s := U) (U := U.calling j mk a) (State.WarmedH.refl U) h
theorem gX.kept {A : Nat → Prop} {s : State} {H : Heap} {locs : List Loc} (h : gX A s s.heap) (hS : va_S A s.heap H locs) : gX A s H := ⟨h.1, h.2.1, h.2.2.1.kept hS.2.1, h.2.2.2.kept hS.2.1⟩
theorem gX.narrow {A B : Nat → Prop} {s : State} {H : Heap} (h : gX A s H) (hAB : ∀ q, B q → A q) : gX B s H := ⟨h.1, h.2.1, h.2.2.1.narrow hAB, h.2.2.2.narrow hAB⟩
def gPreX (g : gT) (ws : va_W) (sz : Nat) : State → Prop := fun U => gPre g ws sz U ∧ gX (va_A ws sz) U U.heap
theorem gPreX.blind {g : gT} {ws : va_W} {sz : Nat} {av : List Value} : FrameBlind (va_Pc av (gPreX g ws sz)) := fun a U j mk h => ⟨h.1, ⟨h.2.1.1, h.2.1.2.1, h.2.1.2.2.1.call, h.2.1.2.2.2⟩, h.2.2.call⟩
/-- a method that throws the one exception there is, and leaves the cells as they are -/
def CtT (l : Launch) (g : gT) (y : MethodName) (w : List Cond) (rm : Room) (av : List Value) (ws : va_W) : Prop :=
  ∀ sz : Nat, vx_Met l y w rm (va_Pc av (gPreX g ws sz)) (va_Qi (S := Unit) (fun _ _ => False) (fun _ _ => True) (va_A ws sz)) (vx_X (S := Unit) (fun _ => True) (fun E _ t => E = gE ∧ gP g ws t.heap ∧ va_D (va_A ws sz) ws) (va_A ws sz)) rm.cells rm.slots (va_A ws sz)
/-- as CtI, where a throw may lie below -/
def CtIX {S : Type} (l : Launch) (g : gT) (y : MethodName) (w : List Cond) (rm : Room) (av : List Value) (ws : va_W) (post : Int32 → S → Prop) (ws' : S → va_W) : Prop :=
  ∀ sz : Nat, Met l y w rm (va_Pc av (gPreX g ws sz)) (va_Qi post (fun u t => gP g (ws' u) t.heap ∧ va_D (va_A ws sz) (ws' u)) (va_A ws sz)) rm.cells rm.slots (va_A ws sz)
theorem gBad : ∀ w ∈ gAt.filter (fun w => !goodWord w), w ∈ Cond.castable gE gE :: gDn.map (fun n => Cond.declares (Bundle.initS n)) := by decide +kernel
theorem gGood : ∀ w ∈ Cond.classLink RX8 140 gE :: Cond.initialized gE :: gAt, vx_ot w = true := by decide +kernel
theorem gFit : Bundle.fit gE = true := by decide +kernel
theorem gFits : ∀ n ∈ gEn, Bundle.fit n = true := by decide +kernel
/-- entry of a method that throws -/
theorem CtT.of {l : Launch} {g : gT} {y : MethodName} {w w' : List Cond} {rm : Room} {av : List Value} {ws : va_W} {cc : ByteArray} {maxL : Nat} {ret : FieldType} (hst : l.stackTraces = false) (hy : plainName y.cls = true) (hyc : y.cls = RX8) (hw : w = Cond.code y cc maxL (some ret) :: w') (hav : (lg_sl av).length ≤ maxL)
    (hwl : Cond.classLink RX8 140 gE ∈ w) (hwi : Cond.initialized gE ∈ w) (hwx : ∀ z ∈ gAt.filter goodWord, z ∈ w) (hrm : 5 < rm.frames ∧ 82 ≤ rm.locals ∧ rm.cells = 1 ∧ rm.slots = 6)
    (body : ∀ (p : Program) (e : Env) (s : State) (m : MethodId) (args : Array Value) (below : List Frame) (meth : Method) (c : Code) (A : Nat → Prop) (Q : State → Prop), meth.name = y.name →
      CallFix p m c cc maxL s args w y.cls → gK g s → (∀ q, s.heap.size ≤ q → A q) → gP g ws s.heap → va_D A ws → va_S A s.heap s.heap [] →
      (∀ (H : Heap) (locs : List Loc) (pc : Nat) (ls : Array Slot) (is : Nat) (tx : String), gP g ws H → va_D A ws → va_S A s.heap H locs → (is, tx) ∈ gStr → ls.size = maxL → decode cc pc = .ok (.new 140, 3) → decode cc (pc + 3) = .ok (.dup, 1) → decode cc (pc + 4) = .ok (.ldc is, 2) → decode cc (pc + 6) = .ok (.invokespecial 144, 3) → decode cc (pc + 9) = .ok (.athrow, 1) → W p l e rm s m args below meth c H locs 0 0 Q (F0 m pc ls [])) →
      ∀ ls : Array Slot, lv_has ls maxL (lv_args 0 av) → W p l e rm s m args below meth c s.heap [] 0 0 Q (F0 m 0 ls [])) : CtT l g y w rm av ws := by
  intro sz
  refine vx_ofW (cc := cc) (maxL := maxL) (ret := some ret) hy hw ?_
  intro p e s m args below meth c s₁ B hml ht hv
  obtain ⟨rfl, ⟨hsz, hP, hK, hD0⟩, hX⟩ := hv
  have hts := atoms_spec (ws := w) B.pre
  have hown : s.vm.findClass y.cls = some m.cls := findClass_of_methodNamed B.named
  have hlocks := B.notSynchronized
  subst hsz
  have hD := hD0.self (sz := s.heap.size)
  have hl := lv_entry av (n := maxL) hav
  rw [lg_entry_eq]
  refine body p e s m _ below meth c (va_A ws s.heap.size) _ (name_of_methodNamed B.named B.method).1 ⟨B.exec, B.bytes, hml, hown, hts⟩ hK (fun q h => Or.inr h) hP hD va_S.rf ?_ _ hl
  intro H locs pc ls is tx hP9 hD9 hS hin hls d0 d3 d4 d6 d9
  obtain ⟨sa, hstr⟩ := hX.1 _ hin
  obtain ⟨r1, r2, r3, r4⟩ := hrm
  refine g_throwS (own := RX8) (cls := gE) (text := tx) (names := gEn) (ik := 140) (is := is) (ic := 144) (ix := 13) (rx := gRx) (sa := sa) (A := va_A ws s.heap.size) B.exec B.bytes hst gRx_0 gRx_1 gRx_2 gRx_5 (by rw [← hyc]; exact hown) gFit gFits (hts _ hwl) (hts _ hwi) hstr
    (vx_hat (L := gAt) (B := Cond.castable gE gE :: gDn.map (fun n => Cond.declares (Bundle.initS n))) (fun z hz => hts z (hwx z hz)) gBad (vx_c (va_Nw.use rfl hX.2.1.1) (fun z hz => by obtain ⟨n, hn, rfl⟩ := List.mem_map.mp hz; exact va_Nw.use rfl (hX.2.1.2 n hn)))) gGood hX.2.2.1 hX.2.2.2 hS (hls.trans hml.symm) d0 d3 d4 d6 d9 (fun x hx => (ht x hx).elim) r1 r2 (by show 0 + 1 ≤ rm.cells; omega) (by show 0 + 6 ≤ rm.slots; omega) hlocks ?_ hS.2.2 (by omega) (by omega)
  intro t hvm hz hk
  refine ⟨(), trivial, ⟨rfl, hP9.kept (fun k q hq => hk q.1 (hP9 k q hq).lt), hD9⟩, ⟨Nat.le_trans hS.1 hz, fun q h1 h2 => ?_⟩⟩
  rw [hk q (Nat.lt_of_lt_of_le h1 hS.1)]
  exact hS.2.1 q h1 h2
/-- a body with a table of its own that returns -/
theorem gMet_of {l : Launch} {y : MethodName} {ws ws' : List Cond} {rm : Room} {Pc : Array Value → State → Prop} {Qc : Array Value → State → Outcome → State → Prop} {mc ms : Nat} {free : Addr → Prop} {cc : ByteArray} {maxL : Nat} {ret : Option FieldType} {hh : List (Nat × Nat × Nat × Nat)}
    (hy : plainName y.cls = true) (hw : ws = Cond.codeWith y cc maxL ret hh :: ws')
    (body : ∀ p e s m args below meth c s₁, BodyLoose p l y (headSpec ws rm) cc maxL ret e s m args below meth c s₁ → c.maxLocals = maxL → Pc args s →
      W p l e (headSpec ws rm).room s m args below meth c s.heap [] 0 0 (MQ below Qc args s mc ms free) (entryFrame m args maxL)) : Met l y ws rm Pc Qc mc ms free := by
  refine MetFree.of_bodyS (code := cc) (maxLocals := maxL) (ret := ret) hy ?_ ?_
  · intro args s m h hn
    obtain ⟨m9, meth, c, hn9, h1, h2, h3, h4, -, h5, h6, -⟩ := Cond.codeWith_spec (atoms_spec (ws := ws) h _ (by rw [hw]; exact List.mem_cons_self))
    cases hn.symm.trans hn9
    exact ⟨meth, c, h1, h2, h3, h4, h5, h6⟩
  · intro p e s m args below meth c s₁ B hml hP _
    have hh0 : s₁.heap = s.heap := by rw [B.state]; rfl
    obtain ⟨t, a1, o, b1, b2, b3⟩ := body p e s m args below meth c s₁ B hml hP s₁ hh0 (Stand.of_body B)
    exact ⟨t, o, a1, b1, b2, ⟨b3.1, b3.2⟩⟩
theorem CtIX.of {S : Type} {l : Launch} {g : gT} {y : MethodName} {w w' : List Cond} {rm : Room} {av : List Value} {ws : va_W} {post : Int32 → S → Prop} {ws' : S → va_W} {cc : ByteArray} {maxL : Nat} {ret : FieldType} {hh : List (Nat × Nat × Nat × Nat)} (hy : plainName y.cls = true) (hw : w = Cond.codeWith y cc maxL (some ret) hh :: w') (hav : (lg_sl av).length ≤ maxL)
    (body : ∀ (p : Program) (e : Env) (s : State) (m : MethodId) (args : Array Value) (below : List Frame) (meth : Method) (c : Code) (A : Nat → Prop) (Q : State → Prop), c.exceptionTable.toList = tableOf hh →
      CallFix p m c cc maxL s args w y.cls → gK g s → gX A s s.heap → (∀ q, s.heap.size ≤ q → A q) → gP g ws s.heap → va_D A ws → va_S A s.heap s.heap [] →
      (∀ (H : Heap) (locs : List Loc) (pc : Nat) (ls : Array Slot) (r : Int32) (u : S), decode cc pc = .ok (.ireturn, 1) → narrow ret (.int r) = .int r → post r u → gP g (ws' u) H → va_D A (ws' u) → va_S A s.heap H locs → W p l e rm s m args below meth c H locs rm.cells rm.slots Q (F0 m pc ls [.int r])) →
      ∀ ls : Array Slot, lv_has ls maxL (lv_args 0 av) → W p l e rm s m args below meth c s.heap [] 0 0 Q (F0 m 0 ls [])) : CtIX l g y w rm av ws post ws' := by
  intro sz
  refine gMet_of (cc := cc) (maxL := maxL) (ret := some ret) (hh := hh) hy hw ?_
  intro p e s m args below meth c s₁ B hml hv
  obtain ⟨rfl, ⟨hsz, hP, hK, hD0⟩, hX⟩ := hv
  have hts := atoms_spec (ws := w) B.pre
  have hown : s.vm.findClass y.cls = some m.cls := findClass_of_methodNamed B.named
  have hlocks := B.notSynchronized
  have htab : c.exceptionTable.toList = tableOf hh := vx_table (x := y) B (hts _ (by rw [hw]; exact List.mem_cons_self))
  subst hsz
  have hD := hD0.self (sz := s.heap.size)
  have hl := lv_entry av (n := maxL) hav
  rw [lg_entry_eq]
  refine body p e s m _ below meth c (va_A ws s.heap.size) _ htab ⟨B.exec, B.bytes, hml, hown, hts⟩ hK hX (fun q h => Or.inr h) hP hD va_S.rf ?_ _ hl
  intro H locs pc ls r u hd hn hp hP9 hD9 hS
  exact W.zret B.exec B.bytes B.returns hn (fun t ht hW => ⟨⟨r, u, rfl, hp, by rw [ht]; exact hP9, hD9⟩, hS.F ht⟩) hS.2.2 hd
section GX
variable {p : Program} {l : Launch} {e : Env} {R : Room} {s : State} {m : MethodId} {args : Array Value} {below : List Frame} {meth : Method} {c : Code} {H : Heap} {locs : List Loc} {cells slots : Nat} {Q : State → Prop}
variable {pc : Nat} {ls : Array Slot} {As rest st0 : List Value} {A : Nat → Prop} {g : gT} {ws wsc wr : va_W} {cc bytes : ByteArray} {nL maxL n index : Nat} {Ts w w' : List Cond} {own C : String} {y : MethodName} {rm : Room} {ret : Option FieldType} {b : Nat}
theorem g_preX {av : List Value} (hK : gK g s) (hX : gX A s s.heap) (hP : gP g ws H) (hD : va_D A ws) (hS : va_S A s.heap H locs) (hA : ∀ q, s.heap.size ≤ q → A q) (isC : List Nat) (hC : isC.map (fun i => ws[i]?) = wsc.map some) (hnC : va_nd isC = true) : ∀ U : State, U.heap = H → s.WarmedH U.vm → va_Pc av (gPreX g wsc H.size) av.toArray U := by
  intro U hU hW
  obtain ⟨h1, h2⟩ := g_pre (av := av) hK hP hD isC hC hnC U hU hW
  refine ⟨h1, h2, ?_⟩
  rw [hU]
  exact gX.warm hW ((hX.kept hS).narrow (va_free hD hS hA isC hC))
/-- a virtual call that throws -/
theorem g_VT (F : CallFix p m c cc nL s args Ts own) (hct : CtT l g y w rm (.ref b :: As) wsc) (hG : GoodIn Ts (wsV own index C y w)) (hw : w = Cond.code y bytes maxL ret :: w')
    (hd : y.cls = C ∧ y.cls ≠ "java/lang/invoke/MethodHandle" ∧ y.cls ≠ "java/lang/invoke/VarHandle" ∧ (parseMethodDescriptor y.desc).map (fun d => d.parameters.length) = some n) (hRm : rm.frames + 1 ≤ R.frames ∧ 8 + (maxL + 11) + rm.locals ≤ R.locals)
    (q0 ci : Nat) {qc : vw_C} {fs : List Value} (hcl : vwCl[ci]? = some qc) (hqc : qc.1 = C) (he : ws[q0]? = some (b, .inr (ci, fs)))
    (hn : As.length = n) (hsz : ls.size = nL) (hst : st0 = As.reverse ++ .ref b :: rest) (hrm : (rest.map fun v => v.category).sum ≤ 8) (hdg : decode cc pc = .ok (.invokevirtual index, 3)) (hf : cells + rm.cells ≤ R.cells ∧ slots + rm.slots ≤ R.slots)
    (hK : gK g s) (hX : gX A s s.heap) (hP : gP g ws H) (hD : va_D A ws) (hS : va_S A s.heap H locs) (hA : ∀ q, s.heap.size ≤ q → A q) (isC isR : List Nat) (hnC : va_nd isC = true) (hC : isC.map (fun i => ws[i]?) = wsc.map some) (hR : isR.map (fun i => ws[i]?) = wr.map some) (hnR : va_nd isR = true) (hdis : ∀ i ∈ isR, i ∉ isC)
    (kx : ∀ (ce : Cell) (q9 : Addr) (H1 : Heap) (locs1 : List Loc), gP g (wr ++ wsc) H1 → va_D A (wr ++ wsc) → va_S A s.heap H1 locs1 → H1[q9]? = some ce → ce.vm = .none → s.vm.findClass gE = some ce.cls → vx_W p l e R s m args below meth c H1 locs1 (cells + rm.cells) (slots + rm.slots) Q (F0 m pc ls rest) q9) : W p l e R s m args below meth c H locs cells slots Q (F0 m pc ls st0) := by
  subst hqc
  have hFc := va_free (wc := wsc) hD hS hA isC hC
  have hr := vx_runV (As := As) (rest := rest) (e := e) (below := below) (meth := meth) (locs := locs) (cells := cells) (slots := slots) (H := H) (g := F0 m pc ls st0) F (hct H.size) (cwV n F.2.2.2.2 hG hw rfl rfl hd hRm) ⟨gPreX.blind, va_recv hK.1 hP hcl he, g_preX hK hX hP hD hS hA isC hC hnC⟩ rfl hn hsz hst (lv_room hrm) hdg hf
  refine vx_calli hr hS (fun q _ h => hFc q h) hFc (fun q _ h => hFc q h) (fun E ce q9 u t H1 locs1 ht hvm _ hB hz1 hk1 hS1 hce hcv hcl9 => ?_) (fun r u t H1 locs1 ht hvm hpo => hpo.elim)
  obtain ⟨rfl, hP1, hD1⟩ := hB
  rw [ht] at hP1
  obtain ⟨hP2, hD2⟩ := va_join (wr := wr) (w1 := wsc) hP hD isC isR hC hR hnR hdis hk1 hFc hP1 hD1
  exact kx ce q9 H1 locs1 hP2 hD2 hS1 hce hcv hcl9
/-- a static call of a method with a table of its own -/
theorem g_SX {S : Type} {post : Int32 → S → Prop} {ws' : S → va_W} {hh : List (Nat × Nat × Nat × Nat)} (F : CallFix p m c cc nL s args Ts own) (hct : CtIX l g y w rm As wsc post ws') (hG : GoodIn Ts (va_wsS own index y w)) (hw : w = Cond.codeWith y bytes maxL ret hh :: w')
    (hd : y.cls ≠ "java/lang/invoke/MethodHandle" ∧ y.cls ≠ "java/lang/invoke/VarHandle" ∧ (parseMethodDescriptor y.desc).map (fun d => d.parameters.length) = some n) (hRm : rm.frames + 1 ≤ R.frames ∧ 8 + (maxL + 11) + rm.locals ≤ R.locals)
    (hn : As.length = n) (hsz : ls.size = nL) (hst : st0 = As.reverse ++ rest) (hrm : (rest.map fun v => v.category).sum ≤ 8) (hdg : decode cc pc = .ok (.invokestatic index, 3)) (hf : cells + rm.cells ≤ R.cells ∧ slots + rm.slots ≤ R.slots)
    (hK : gK g s) (hX : gX A s s.heap) (hP : gP g ws H) (hD : va_D A ws) (hS : va_S A s.heap H locs) (hA : ∀ q, s.heap.size ≤ q → A q) (isC isR : List Nat) (hnC : va_nd isC = true) (hC : isC.map (fun i => ws[i]?) = wsc.map some) (hR : isR.map (fun i => ws[i]?) = wr.map some) (hnR : va_nd isR = true) (hdis : ∀ i ∈ isR, i ∉ isC)
    (kk : ∀ (r : Int32) (u : S) (H1 : Heap) (locs1 : List Loc), post r u → gP g (wr ++ ws' u) H1 → va_D A (wr ++ ws' u) → va_S A s.heap H1 locs1 → W p l e R s m args below meth c H1 locs1 (cells + rm.cells) (slots + rm.slots) Q (F0 m (pc + 3) ls (.int r :: rest))) : W p l e R s m args below meth c H locs cells slots Q (F0 m pc ls st0) :=
  g_calli (vx_runSW (As := As) (rest := rest) F (hct H.size) (vx_cwSW n F.2.2.2.2 hG hw rfl rfl hd hRm) ⟨gPreX.blind, g_preX hK hX hP hD hS hA isC hC hnC⟩ rfl hn hsz hst (lv_room hrm) hdg hf) hP hD hS hA isC isR hC hR hnR hdis kk
end GX
