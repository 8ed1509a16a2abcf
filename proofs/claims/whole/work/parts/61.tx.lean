/-! An exception whose constructor E(String) hands its text on by an entry of its own (ix; 13 in java/util/NoSuchElementException), in launches without stack traces: g_made, the constructor's call, put together from the library's laws of the single pieces; g_ctor, with the athrow behind it; g_throwS, 'throw new E("text")' (after the printed vx_throwS) -/
def gAtS (own : String) (ic : Nat) (X : String) (ix : Nat) (rx : ByteArray) (names : List String) : List Cond := (Bundle.ownAtomsX own ic X ix rx names).filter vx_no
section GTA
variable {s : State} {args : Array Value}
/-! which words stand in the list: of Throwable, of its constructor, of the chain, the rest -/
variable {own cls : String} {ic ix : Nat} {rx : ByteArray} {names : List String} {w : Cond}
theorem g_in0 (h : w ∈ Bundle.throwableAtoms) : w ∈ Bundle.ownAtomsX own ic cls ix rx names := List.mem_append_left _ (List.mem_append_left _ (List.mem_append_left _ h))
theorem g_in1 (h : w ∈ Bundle.throwableSAtoms) : w ∈ Bundle.ownAtomsX own ic cls ix rx names := List.mem_append_left _ (List.mem_append_left _ (List.mem_append_right _ h))
theorem g_in2 (h : w ∈ Bundle.chainSAtomsX cls ix rx names) : w ∈ Bundle.ownAtomsX own ic cls ix rx names := List.mem_append_left _ (List.mem_append_right _ h)
/-- the field has its slot for itself among the fields of class k -/
def gNm (s : State) (k : Nat) (f : Field) : Prop := ∃ d, Jmm.declares? s.vm f.slot (k + 1) k = some d ∧ d.2.name = f.name
theorem gNm_ne {k : Nat} {f g : Field} (hf : gNm s k f) (hg : gNm s k g) (h : g.name ≠ f.name) : g.slot ≠ f.slot :=
  hf.elim fun _ u => hg.elim fun _ v => Cond.laysApart v.1 u.1 v.2 u.2 h
/-- a field of a fresh object of class k: what may be put there, what it holds, its name -/
def gFd (s : State) (k : Nat) (K : Class) (f : Field) : Prop :=
  (∀ v : Value, fits f.type v = true → Takes s (freshCell k K) f v) ∧ (freshCell k K).slots[f.slot]? = some (defaultValue f.type) ∧ gNm s k f
theorem gFd_of {C O nm ds : String} {k k' i : Nat} {K K' : Class} {f : Field} (hC : s.vm.findClass C = some k) (hK : s.vm.classes[k]? = some K) (ho : K.kind = .ordinary)
    (hf : s.fieldFound? O nm ds = some (k', K', i, f)) (hw : (Cond.lays C O nm ds).before args s = true) : gFd s k K f := by
  obtain ⟨ty, nd⟩ := Cond.laysAt (args := args) (first := s) (o := none) (idx := []) hC hK hf hw
  exact ⟨fun v hv => Takes.of_laid hK ho ty hv, fresh_default ty, nd⟩
/-- a method that the class doesn't override -/
theorem g_pick {l : Launch} {e : Env} (ha : l.admits e) {C : String} {t : MethodName} {k : Nat} {f : MethodId} (hC : s.vm.findClass C = some k) (hf : s.methodNamed? t = some f)
    (ht : t.cls ≠ "java/lang/invoke/MethodHandle" ∧ t.cls ≠ "java/lang/invoke/VarHandle") (hw : (Cond.selects C t t).before args s = true) : selectMethod e.platform s.vm k f = .method f := by
  obtain ⟨k', r, f', hk, hr, hf', hsel, -⟩ := Cond.selects_spec (args := args) (first := s) (o := none) (idx := []) hw
  rw [State.methodFound?_of_named hf ht] at hr
  rw [hC] at hk
  rw [hf] at hf'
  cases hk
  cases hr
  cases hf'
  exact (Launch.admits_selectMethod ha _ _ _).trans hsel
theorem g_past {z : Cell} {i j : Nat} {v u : Value} (h : z.slots[j]? = some u) (hne : i ≠ j) : (z.setSlot i v).slots[j]? = some u := by
  show (z.slots.setIfInBounds i v)[j]? = some u
  rw [Array.getElem?_setIfInBounds_ne hne]
  exact h
/-- 'backtrace' is null still when the native is skipped -/
theorem g_skip {T : ThrowableC} {pl : Platform} {B : BackC} (hB : B.Links T pl s) {k : Nat} {K : Class} {a : Addr} {u v : RefV} {n : Nat} (fb : gFd s k K B.fBack) (hty : B.fBack.type = .object "java/lang/Object")
    (h1 : T.fCause.slot ≠ B.fBack.slot) (h2 : T.fStack.slot ≠ B.fBack.slot) (h3 : T.fSupp.slot ≠ B.fBack.slot) :
    SkipFacts T pl s (fun z => z) u ((preparedCellV T.toThrowableT (freshCell k K) a u v).withEntry n) := by
  have h0 : (freshCell k K).slots[B.fBack.slot]? = some Value.null := by
    rw [fb.2.1, hty]
    rfl
  exact ⟨B, hB, g_past (g_past (g_past h0 h1) h2) h3, fun _ _ => rfl⟩
end GTA
section GTX
variable {p : Program} {l : Launch} {e : Env} {R : Room} {s : State} {m : MethodId} {args : Array Value} {below : List Frame} {meth : Method} {c : Code} {V : State} {cells slots : Nat}
set_option maxHeartbeats 1000000 in
theorem g_made (X : Stand p l e R s m args below meth c V [] cells slots) (hexec : p.tables.exec = Jvm.exec) (htr : e.platform.stackTraces = false) {ix : Nat} {rx : ByteArray} (x0 : decode rx 0 = .ok (.aload_n 0, 1)) (x1 : decode rx 1 = .ok (.aload_n 1, 1)) (x2 : decode rx 2 = .ok (.invokespecial ix, 3)) (x5 : decode rx 5 = .ok (.return_, 1))
    {own cls : String} {names : List String} {ic : Nat} (hown : s.vm.findClass own = some m.cls) (hcls : Bundle.fit cls = true) (hnames : ∀ n ∈ names, Bundle.fit n = true)
    (h : ∀ w ∈ Bundle.ownAtomsX own ic cls ix rx names, w.before args s = true) {a : Addr} {k : ClassId} {K : Class} (hk : s.vm.findClass cls = some k) (hK : s.vm.classes[k]? = some K) (hcell : V.heap[a]? = some (freshCell k K)) (hnew : s.heap.size ≤ a)
    {msg : Value} (hmsg : msg.isRef = true) {g : JFrame} (hg : g.method = m) (hsize : g.locals.size = c.maxLocals) {rest : List Value} (hstack : g.stack = msg :: .ref a :: .ref a :: rest) (hd : decode c.code g.pc = .ok (.invokespecial ic, 3))
    (hRf : names.length + 3 < R.frames) (hRl : 2 * g.monitorRoom + ((Value.ref a :: rest).map fun v => v.category).sum + (13 * (names.length + 1) + 42) ≤ R.locals) :
    ∃ (V' : State) (ls : List Loc) (ce : Cell), Stand p l e R s m args below meth c V' ls cells slots ∧ (∀ z ∈ ls, z.base = a) ∧ V'.heap[a]? = some ce ∧ ce.vm = .none ∧ ce.cls = k ∧
      ∀ t : State, Steps p.tables e below (V'.setTop { g with stack := .ref a :: rest, pc := g.pc + 3 }) t → Steps p.tables e below (V.setTop g) t := by
  have hpl : e.platform.magicAccessors = ({} : Platform).magicAccessors := by rw [X.admits.platform]
  obtain ⟨T, Z0, hT, -, ti⟩ := ThrowableC.of_atoms (args := args) (pl := e.platform) (by rw [X.admits.platform]) (by rw [X.admits.platform]) hpl fun w hw => h w (g_in0 hw)
  obtain ⟨Z, M, hZ, hM, hin⟩ := Init0T.ofS_atoms (args := args) hpl hT ti fun w hw => h w (g_in1 hw)
  obtain ⟨Q, Qs, hlen, hQ, hQs, hnm, hup⟩ := Bundle.chainSX (args := args) hpl hin x0 x1 x2 x5 names cls hcls hnames fun w hw => h w (g_in2 hw)
  have hord : K.kind = .ordinary := by
    obtain ⟨k', K', e1, e2, e3, -⟩ := Cond.instantiable_spec (args := args) (first := s) (o := none) (idx := []) (h (.instantiable cls 6) (by simp [Bundle.ownAtomsX]))
    rw [hk] at e1
    cases e1
    rw [hK] at e2
    cases e2
    exact e3
  obtain ⟨iM, hfm⟩ := ti.msg
  have fC := gFd_of (args := args) hk hK hord ti.cause (h _ (by simp [Bundle.ownAtomsX]))
  have fS := gFd_of (args := args) hk hK hord ti.stack (h _ (by simp [Bundle.ownAtomsX]))
  have fP := gFd_of (args := args) hk hK hord ti.supp (h _ (by simp [Bundle.ownAtomsX]))
  have fM := gFd_of (args := args) hk hK hord hfm (h _ (by simp [Bundle.ownAtomsX]))
  obtain ⟨ci, ib, fb, b1, b2, b3, b4, -, b6, b7, b8⟩ := Cond.ownField (args := args) (first := s) (o := none) (idx := []) (t := .object "java/lang/Object") ti.found hT.cls (by decide +kernel)
    (h (.fieldLink Bundle.tN 198 Bundle.tN "backtrace" "Ljava/lang/Object;") (by simp [Bundle.ownAtomsX])) (h (.lays Bundle.tN Bundle.tN "backtrace" "Ljava/lang/Object;") (by simp [Bundle.ownAtomsX])) e.platform hpl
  have fB := gFd_of (args := args) hk hK hord b8 (h _ (by simp [Bundle.ownAtomsX]))
  obtain ⟨S0, hS0, hst⟩ := ti.statics
  obtain ⟨u, hu⟩ := Cond.staticRefV (args := args) (first := s) (o := none) (idx := []) ti.unassigned hT.unassignedStatic hT.statics hS0 hst (h _ (by simp [Bundle.ownAtomsX]))
  obtain ⟨v, hv⟩ := Cond.staticRefV (args := args) (first := s) (o := none) (idx := []) ti.sentinel hT.sentinelStatic hT.statics hS0 hst (h _ (by simp [Bundle.ownAtomsX]))
  obtain ⟨S1, hS1, hvm, -, hsl⟩ := X.same.2.2.2.2.2 T.aS S0 hS0
  have hsl' : ∀ i : Nat, S1.slots[i]? = S0.slots[i]? := fun i => hsl i (fun hi => nomatch hi)
  have hun : S1.vm ≠ .unknown := fun hz => by
    rw [show S0.vm = .unknown from (congrArg Cell.vm hvm).symm.trans hz] at hst
    cases hst
  have hne : T.aS ≠ a := fun hz => Nat.lt_irrefl _ (Nat.lt_of_lt_of_le (hz ▸ (Array.getElem?_eq_some_iff.mp hS0).1) hnew)
  have hin2 : ∀ w ∈ [Cond.instanceMethod (Bundle.initS cls), Cond.code (Bundle.initS cls) rx 2 none], w.before args s = true := fun w hw => h w (g_in2 (by
    simp only [List.mem_cons, List.not_mem_nil, or_false] at hw
    rcases hw with rfl | rfl <;> cases names <;> simp [Bundle.chainSAtomsX, Bundle.passSAtoms]))
  obtain ⟨tm, -, -, -, vm₁, htm, -, -, -, -, -, -, -, hW, st1⟩ := Steps.initColdS (tb := p.tables) (e := e) (below := below) X.here hexec X.warmed hpl hown (t := Bundle.initS cls) rfl rfl (Bundle.fit_spec hcls).2
    (h (.methodLink own ic (Bundle.initS cls)) (by simp [Bundle.ownAtomsX])) (hin2 _ List.mem_cons_self) (hin2 _ (List.mem_cons_of_mem _ List.mem_cons_self)) hg hstack hd
  have htm' : tm = Q.m := Option.some.inj (htm.symm.trans hnm)
  obtain ⟨vm₂, X₂, st2⟩ := (X.noted hW).ctorMessageOffV hexec (g := { g with stack := .ref a :: rest }) hg hsize T hT Z hZ M hM (Q :: Qs) (List.forall_mem_cons.mpr ⟨hQ, hQs⟩) hup (u0 := u) (sen := v) hmsg
    hcell (fun _ hz => nomatch hz) (fun hz => nomatch hz) rfl rfl (g_pick (args := args) X.admits hk ti.fill0 (by decide) (h _ (by simp [Bundle.ownAtomsX]))) (g_pick (args := args) X.admits hk ti.fill (by decide) (h _ (by simp [Bundle.ownAtomsX])))
    hS1 hne hun ((hsl' _).trans hu) ((hsl' _).trans hv) (fC.1 _ (by rw [ti.causeType]; rfl)) (fS.1 _ (by rw [ti.stackType]; exact fits_refV_array _ u)) (fP.1 _ (by rw [ti.suppType]; exact fits_refV_object _ v))
    (fM.1 _ (by rw [ti.msgType]; exact fits_refV_object _ ⟨msg, hmsg⟩)) ti.objLocals
    (g_skip (B := { ci198 := ci, i198 := ib, fBack := fb }) ⟨b1, b2, b3, b4⟩ fB b7 (gNm_ne fB.2.2 fC.2.2 (by rw [ti.causeName, b6]; decide)) (gNm_ne fB.2.2 fS.2.2 (by rw [ti.stackName, b6]; decide)) (gNm_ne fB.2.2 fP.2.2 (by rw [ti.suppName, b6]; decide)))
    htr [] hd (by rw [List.length_cons, hlen]; omega) (by rw [List.length_cons, hlen]; exact hRl)
  refine ⟨_, _, _, X₂, fun z hz => ?_, heapAt_setCell_self _ (Array.getElem?_eq_some_iff.mp hcell).1, rfl, rfl, fun t ht => st1 t fun acts => ?_⟩
  · simp only [List.nil_append, List.mem_cons, List.not_mem_nil, or_false] at hz
    rcases hz with rfl | rfl | rfl | rfl | rfl <;> rfl
  · rw [doInvoke_state, htm']
    exact st2 t ht
theorem g_ctor (X : Stand p l e R s m args below meth c V [] cells slots) (hexec : p.tables.exec = Jvm.exec) (htr : e.platform.stackTraces = false) {ix : Nat} {rx : ByteArray} (x0 : decode rx 0 = .ok (.aload_n 0, 1)) (x1 : decode rx 1 = .ok (.aload_n 1, 1)) (x2 : decode rx 2 = .ok (.invokespecial ix, 3)) (x5 : decode rx 5 = .ok (.return_, 1))
    {own cls : String} {names : List String} {ic : Nat} (hown : s.vm.findClass own = some m.cls) (hcls : Bundle.fit cls = true) (hnames : ∀ n ∈ names, Bundle.fit n = true)
    (h : ∀ w ∈ Bundle.ownAtomsX own ic cls ix rx names, w.before args s = true) {a : Addr} {k : ClassId} {K : Class} (hk : s.vm.findClass cls = some k) (hK : s.vm.classes[k]? = some K) (hcell : V.heap[a]? = some (freshCell k K)) (hnew : s.heap.size ≤ a)
    {msg : Value} (hmsg : msg.isRef = true) {g : JFrame} (hg : g.method = m) (hsize : g.locals.size = c.maxLocals) (hlocked : g.locked = none) (hentered : g.entered = []) {rest : List Value} (hstack : g.stack = msg :: .ref a :: .ref a :: rest)
    (hd : decode c.code g.pc = .ok (.invokespecial ic, 3)) (hd' : decode c.code (g.pc + 3) = .ok (.athrow, 1)) (hout : ∀ z ∈ c.exceptionTable.toList, covers z (g.pc + 3) = false)
    (hRf : names.length + 3 < R.frames) (hRl : 2 * g.monitorRoom + ((Value.ref a :: rest).map fun v => v.category).sum + (13 * (names.length + 1) + 42) ≤ R.locals) (hlocks : meth.locks = false) :
    ∃ U : State, Steps p.tables e below (V.setTop g) U ∧ U.status = .running ∧ Ended U below (.threw a) ∧ s.WarmedH U.vm ∧ s.sameButNew ({ U with vm := s.vm } : State) [] cells slots ∧ ∃ ce, U.heap[a]? = some ce ∧ ce.vm = .none ∧ s.vm.findClass cls = some ce.cls := by
  obtain ⟨V', ls, ce, X', hls, hce, hvm, hcc, st⟩ := g_made X hexec htr x0 x1 x2 x5 hown hcls hnames h hk hK hcell hnew hmsg hg hsize hstack hd hRf hRl
  obtain ⟨y1, y2, y3, y4, y5⟩ := X'.athrowLeaves hexec (g := { g with stack := .ref a :: rest, pc := g.pc + 3 }) hg hlocked hentered hout rfl hd' hlocks
  refine ⟨_, st _ y1, y2, y3, y4, y5.weaken (fun z hz hlt => ?_) (Nat.le_refl _) (Nat.le_refl _), ce, hce, hvm, by rw [hcc]; exact hk⟩
  rw [hls z hz] at hlt
  exact absurd hlt (Nat.not_lt.mpr hnew)
end GTX
section GTY
variable {p : Program} {l : Launch} {e : Env} {R : Room} {s : State} {m : MethodId} {args : Array Value} {below : List Frame} {meth : Method} {c : Code} {H : Heap} {locs : List Loc} {cells slots : Nat} {Q : State → Prop}
variable {mc ms : Nat} {free : Addr → Prop} {A0 A1 : Nat → Prop} {H0 : Heap} {a : Array Value} {ls : Array Slot} {st0 rest : List Value}
variable {Qc : Array Value → State → Outcome → State → Prop} {XC : String → State → State → Prop}
/-- 'throw new E("text")' -/
theorem g_throwS {cc : ByteArray} {pc : Nat} (hexec : p.tables.exec = Jvm.exec) (hb : c.code = cc) (hl : l.stackTraces = false) {own cls text : String} {names : List String} {ik is ic ix mc ms sa : Nat} {rx : ByteArray} {A : Nat → Prop} (x0 : decode rx 0 = .ok (.aload_n 0, 1)) (x1 : decode rx 1 = .ok (.aload_n 1, 1)) (x2 : decode rx 2 = .ok (.invokespecial ix, 3)) (x5 : decode rx 5 = .ok (.return_, 1))
    (hown : s.vm.findClass own = some m.cls) (hcls : Bundle.fit cls = true) (hnames : ∀ n ∈ names, Bundle.fit n = true)
    (hk : (Cond.classLink own ik cls).before args s = true) (hini : (Cond.initialized cls).before args s = true) (hstr : vk_R own is text sa s) (hat : ∀ w ∈ gAtS own ic cls ix rx names, w.before args s = true)
    (hgood : ∀ w ∈ Cond.classLink own ik cls :: Cond.initialized cls :: gAtS own ic cls ix rx names, vx_ot w = true)
    (hU : vx_Zq Bundle.tN "UNASSIGNED_STACK" Bundle.steD A s s.heap) (hN : vx_Zq Bundle.tN "SUPPRESSED_SENTINEL" Bundle.listD A s s.heap) (hS : va_S A s.heap H locs) (hsize : ls.size = c.maxLocals)
    (d0 : decode cc pc = .ok (.new ik, 3)) (d3 : decode cc (pc + 3) = .ok (.dup, 1)) (d4 : decode cc (pc + 4) = .ok (.ldc is, 2)) (d6 : decode cc (pc + 6) = .ok (.invokespecial ic, 3)) (d9 : decode cc (pc + 9) = .ok (.athrow, 1))
    (hout : ∀ x ∈ c.exceptionTable.toList, covers x (pc + 9) = false)
    (hRframes : names.length + 3 < R.frames) (hRlocals : (rest.map fun v => v.category).sum + (13 * (names.length + 1) + 43) ≤ R.locals) (hRcells : cells + 1 ≤ R.cells) (hRslots : slots + 6 ≤ R.slots) (hlocks : meth.locks = false)
    (hx : ∀ t : State, s.vm.Alike t.vm → H.size ≤ t.heap.size → (∀ q : Nat, q < H.size → t.heap[q]? = H[q]?) → XC cls s t)
    (hf : ∀ z ∈ locs, free z.base) (hc : cells + 1 ≤ mc) (hs : slots + 6 ≤ ms) :
    W p l e R s m args below meth c H locs cells slots (vx_MQ below Qc XC args s mc ms free) (F0 m pc ls rest) := by
  intro T hT X
  have htr : e.platform.stackTraces = false := (show e.platform.stackTraces = l.stackTraces by rw [X.admits.platform]).trans hl
  have Y := vx_rebase X (R' := { frames := R.frames, locals := R.locals, cells := 1, slots := 6 }) (Nat.le_refl _) (Nat.le_refl _) hRcells hRslots
  obtain ⟨s', hA⟩ : ∃ z, z = (T.setVm s.vm).setFrames (.invoking m args :: below) := ⟨_, rfl⟩
  rw [← hA] at Y
  have hvm : s'.vm = s.vm := by rw [hA]; rfl
  have hhp : s'.heap = H := by rw [hA]; exact hT
  have hW0 : s.WarmedH s'.vm := by rw [hvm]; exact State.WarmedH.refl s
  have hat' : ∀ w ∈ gAtS own ic cls ix rx names, w.before args s' = true := fun w hw => vx_ot_at hW0 hvm.symm (hgood w (List.mem_cons_of_mem _ (List.mem_cons_of_mem _ hw))) (hat w hw)
  have hk' : (Cond.classLink own ik cls).before args s' = true := vx_ot_at hW0 hvm.symm (hgood _ List.mem_cons_self) hk
  have hini' : (Cond.initialized cls).before args s' = true := vx_ot_at hW0 hvm.symm (hgood _ (List.mem_cons_of_mem _ List.mem_cons_self)) hini
  have hU' : vx_Zq Bundle.tN "UNASSIGNED_STACK" Bundle.steD A s' s'.heap := by rw [hhp]; exact vx_Zq.moved hW0.alike (hU.kept hS.2.1)
  have hN' : vx_Zq Bundle.tN "SUPPRESSED_SENTINEL" Bundle.listD A s' s'.heap := by rw [hhp]; exact vx_Zq.moved hW0.alike (hN.kept hS.2.1)
  have h : ∀ w ∈ Bundle.ownAtomsX own ic cls ix rx names, w.before args s' = true := vx_own hat' (vx_isRefq hU'.1) (vx_isRefq hN'.1) hU'.2.word hN'.2.word
  have hown' : s'.vm.findClass own = some m.cls := by rw [hvm]; exact hown
  have hins : (Cond.instantiable cls 6).before args s' = true := h _ (by simp [Bundle.ownAtomsX])
  obtain ⟨vm₁, cX, kX, hfX, hkX, -, -, X₁, st1⟩ := Y.newCold hexec (own := own) (C := cls) (index := ik) (n := 6) hown' hk' hins hini'
    (g := F0 m pc ls rest) rfl (by rw [hb]; exact d0) (Nat.le_refl _) (Nat.le_refl _)
  generalize hT1 : (T.setVm vm₁).pushCell { cls := cX, slots := kX.instanceTypes.map defaultValue, vm := .none } = T1 at X₁ st1
  have hcat : (Value.ref T.heap.size).category = 1 := rfl
  have hcellA : T1.heap[T.heap.size]? = some (freshCell cX kX) := by rw [← hT1]; exact State.heap_pushCell_size _ _
  have d3' : decode c.code (pc + 3) = .ok (.dup, 1) := by rw [hb]; exact d3
  have d4' : decode c.code (pc + 4) = .ok (.ldc is, 2) := by rw [hb]; exact d4
  have hstr' : vk_R own is text sa s' := vk_R.warm hW0 hstr
  obtain ⟨U, hsteps, hrun, hend, hW, hsame, ce, hce, hOv, hOc⟩ := g_ctor X₁ hexec htr x0 x1 x2 x5 (own := own) (cls := cls) (names := names) (ic := ic) hown' hcls hnames h hfX hkX hcellA (by rw [hhp, hT]; exact Nat.le_refl _) (msg := .ref sa) rfl
    (g := { method := m, pc := pc + 6, locals := ls, stack := .ref sa :: .ref T.heap.size :: .ref T.heap.size :: rest, locked := none }) rfl hsize rfl rfl (rest := rest) rfl
    (by rw [hb]; exact d6) (by rw [hb]; exact d9) hout hRframes (by simp only [List.map_cons, List.sum_cons, hcat]; omega) hlocks
  obtain ⟨f1, f2⟩ := vx_frame hsame
  rw [hhp] at f1 f2
  have hWs : s.WarmedH U.vm := State.WarmedH.trans hW0 hW
  have hcl : s.vm.findClass cls = some ce.cls := by
    have h9 := hOc
    rw [hvm] at h9
    exact h9
  have hall : s.sameButNew ({ U with vm := s.vm } : State) locs mc ms := by
    subst hA
    obtain ⟨e1, e2⟩ := hsame
    rw [State.setFrames_setFrames] at e1
    have h2 : (T.setVm s.vm).sameButNew ({ U with vm := s.vm } : State) [] (0 + 1) (0 + 6) := ⟨e1, e2⟩
    have h3 := X.same.trans h2
    rw [List.append_nil] at h3
    exact h3.mono hc hs
  refine ⟨U, ?_, .threw T.heap.size, hrun, hend, Or.inr ⟨T.heap.size, rfl, cls, ce, locs, hx U hWs.alike f1 (fun q hq => f2 q hq (fun z hz => nomatch hz)), hce, hOv, hcl, hWs, hall, hf⟩⟩
  refine st1 _ ?_
  show Steps p.tables e below (T1.setTop { method := m, pc := pc + 3, locals := ls, stack := .ref T.heap.size :: rest, locked := none }) _
  jvm_step X₁.here [X₁.here.top, hexec, d3', Value.category]
  exact X₁.ldcString hexec (own := own) (text := text) (index := is) (a := sa) hown' hstr'.1 hstr'.2
    (g := { method := m, pc := pc + 4, locals := ls, stack := .ref T.heap.size :: .ref T.heap.size :: rest, locked := none }) rfl d4' _ hsteps
end GTY
abbrev gE : String := "java/util/NoSuchElementException"
abbrev gEn : List String := ["java/lang/RuntimeException", "java/lang/Exception"]
def gRx : ByteArray := ⟨#[0x2a, 0x2b, 0xb7, 0x00, 0x0d, 0xb1]⟩
theorem gRx_0 : decode gRx 0 = .ok (.aload_n 0, 1) := by decide +kernel
theorem gRx_1 : decode gRx 1 = .ok (.aload_n 1, 1) := by decide +kernel
theorem gRx_2 : decode gRx 2 = .ok (.invokespecial 13, 3) := by decide +kernel
theorem gRx_5 : decode gRx 5 = .ok (.return_, 1) := by decide +kernel
def gAt : List Cond := gAtS RX8 144 gE 13 gRx gEn
