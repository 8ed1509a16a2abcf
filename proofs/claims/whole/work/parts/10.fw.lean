/-! the frame of all contracts: one form, one rule of entry, one rule of call -/
abbrev gT : Type := va_G × ClassId × ClassId × ClassId
def gNs : List (String × Nat × MethodName) := [(RX8, 25, yX3_init), (RX8, 32, yX5_init), (RX8, 42, yX2_init), (RX8, 49, yX1_init), (RX8, 56, yX4_init), (RX8, 9, yX7_init), (RX5, 11, yX0_init), (RX5, 113, yX8_clamp), (RX5, 20, yX3_init), (RX7, 19, yX8_isWithin)]
def gNw (U : State) : Prop := ∀ q ∈ gNs, va_Nw (.methodLinkNest q.1 q.2.1 q.2.2 RX8) U
abbrev gTy (g : gT) : List (ClassId × FieldType) := [(g.2.1, .int), (g.2.2.1, .byte), (g.2.2.2, .long)]
def gK (g : gT) (U : State) : Prop := va_K g.1 vwCl (gTy g) U ∧ gNw U
abbrev gP (g : gT) (ws : va_W) (H : Heap) : Prop := va_P g.1 vwCl ws H
abbrev gI (g : gT) (a n : Nat) (f : Nat → Int32) : Nat × va_E := (a, .inl (g.2.1, n, .inl f))
abbrev gB (g : gT) (a n : Nat) (f : Nat → Int32) : Nat × va_E := (a, .inl (g.2.2.1, n, .inl f))
abbrev gL (g : gT) (a n : Nat) (f : Nat → Int64) : Nat × va_E := (a, .inl (g.2.2.2, n, .inr (.inl f)))
abbrev gO (a ci : Nat) (fs : List Value) : Nat × va_E := (a, .inr (ci, fs))
theorem gK.warm {g : gT} {s U : State} (hW : s.WarmedH U.vm) (h : gK g s) : gK g U := ⟨va_K.moved hW.alike h.1, fun q hq => va_Nw.warmM hW (h.2 q hq)⟩
theorem gK.call {g : gT} {U : State} {j : JFrame} {mk : MethodId} {a : Array Value} (h : gK g U) : gK g (U.calling j mk a) := ⟨va_K.moved (u := U) (U := U.calling j mk a) (Vm.Alike.refl U.vm) h.1, fun q hq => va_Nw.same rfl rfl (h.2 q hq)⟩
def gPre (g : gT) (ws : va_W) (sz : Nat) : State → Prop := fun U => U.heap.size = sz ∧ gP g ws U.heap ∧ gK g U ∧ va_D (fun _ => True) ws
theorem gPre.blind {g : gT} {ws : va_W} {sz : Nat} {av : List Value} : FrameBlind (va_Pc av (gPre g ws sz)) := fun a U j mk h => ⟨h.1, h.2.1, h.2.2.1, h.2.2.2.1.call, h.2.2.2.2⟩
def CtI {S : Type} (l : Launch) (g : gT) (y : MethodName) (w : List Cond) (rm : Room) (av : List Value) (ws : va_W) (post : Int32 → S → Prop) (ws' : S → va_W) : Prop :=
  ∀ sz : Nat, Met l y w rm (va_Pc av (gPre g ws sz)) (va_Qi post (fun u t => gP g (ws' u) t.heap ∧ va_D (va_A ws sz) (ws' u)) (va_A ws sz)) rm.cells rm.slots (va_A ws sz)
def CtV {S : Type} (l : Launch) (g : gT) (y : MethodName) (w : List Cond) (rm : Room) (av : List Value) (ws : va_W) (post : S → Prop) (ws' : S → va_W) : Prop :=
  ∀ sz : Nat, Met l y w rm (va_Pc av (gPre g ws sz)) (va_Qv post (fun u t => gP g (ws' u) t.heap ∧ va_D (va_A ws sz) (ws' u)) (va_A ws sz)) rm.cells rm.slots (va_A ws sz)
/-- entry of a method with an int or boolean answer -/
theorem CtI.of {S : Type} {l : Launch} {g : gT} {y : MethodName} {w w' : List Cond} {rm : Room} {av : List Value} {ws : va_W} {post : Int32 → S → Prop} {ws' : S → va_W} {cc : ByteArray} {maxL : Nat} {ret : FieldType} (hy : plainName y.cls = true) (hw : w = Cond.code y cc maxL (some ret) :: w') (hav : (lg_sl av).length ≤ maxL)
    (body : ∀ (p : Program) (e : Env) (s : State) (m : MethodId) (args : Array Value) (below : List Frame) (meth : Method) (c : Code) (A : Nat → Prop) (Q : State → Prop), meth.name = y.name →
      CallFix p m c cc maxL s args w y.cls → gK g s → (∀ q, s.heap.size ≤ q → A q) → gP g ws s.heap → va_D A ws → va_S A s.heap s.heap [] →
      (∀ (H : Heap) (locs : List Loc) (pc : Nat) (ls : Array Slot) (r : Int32) (u : S), decode cc pc = .ok (.ireturn, 1) → narrow ret (.int r) = .int r → post r u → gP g (ws' u) H → va_D A (ws' u) → va_S A s.heap H locs → W p l e rm s m args below meth c H locs rm.cells rm.slots Q (F0 m pc ls [.int r])) →
      ∀ ls : Array Slot, lv_has ls maxL (lv_args 0 av) → W p l e rm s m args below meth c s.heap [] 0 0 Q (F0 m 0 ls [])) : CtI l g y w rm av ws post ws' := by
  intro sz
  refine Met.ofW (cc := cc) (maxL := maxL) (ret := some ret) hy hw ?_
  intro p e s m args below meth c s₁ B hml hv
  obtain ⟨rfl, hsz, hP, hK, hD0⟩ := hv
  have hts := atoms_spec (ws := w) B.pre
  have hown : s.vm.findClass y.cls = some m.cls := findClass_of_methodNamed B.named
  have hlocks := B.notSynchronized
  subst hsz
  have hD := hD0.self (sz := s.heap.size)
  have hl := lv_entry av (n := maxL) hav
  rw [lg_entry_eq]
  refine body p e s m _ below meth c (va_A ws s.heap.size) _ (name_of_methodNamed B.named B.method).1 ⟨B.exec, B.bytes, hml, hown, hts⟩ hK (fun q h => Or.inr h) hP hD va_S.rf ?_ _ hl
  intro H locs pc ls r u hd hn hp hP9 hD9 hS
  exact W.zret B.exec B.bytes B.returns hn (fun t ht hW => ⟨⟨r, u, rfl, hp, by rw [ht]; exact hP9, hD9⟩, hS.F ht⟩) hS.2.2 hd
/-- entry of a void method -/
theorem CtV.of {S : Type} {l : Launch} {g : gT} {y : MethodName} {w w' : List Cond} {rm : Room} {av : List Value} {ws : va_W} {post : S → Prop} {ws' : S → va_W} {cc : ByteArray} {maxL : Nat} (hy : plainName y.cls = true) (hw : w = Cond.code y cc maxL none :: w') (hav : (lg_sl av).length ≤ maxL)
    (body : ∀ (p : Program) (e : Env) (s : State) (m : MethodId) (args : Array Value) (below : List Frame) (meth : Method) (c : Code) (A : Nat → Prop) (Q : State → Prop), meth.name = y.name →
      CallFix p m c cc maxL s args w y.cls → gK g s → (∀ q, s.heap.size ≤ q → A q) → gP g ws s.heap → va_D A ws → va_S A s.heap s.heap [] →
      (∀ (H : Heap) (locs : List Loc) (pc : Nat) (ls : Array Slot) (u : S), decode cc pc = .ok (.return_, 1) → post u → gP g (ws' u) H → va_D A (ws' u) → va_S A s.heap H locs → W p l e rm s m args below meth c H locs rm.cells rm.slots Q (F0 m pc ls [])) →
      ∀ ls : Array Slot, lv_has ls maxL (lv_args 0 av) → W p l e rm s m args below meth c s.heap [] 0 0 Q (F0 m 0 ls [])) : CtV l g y w rm av ws post ws' := by
  intro sz
  refine Met.ofW (cc := cc) (maxL := maxL) (ret := none) hy hw ?_
  intro p e s m args below meth c s₁ B hml hv
  obtain ⟨rfl, hsz, hP, hK, hD0⟩ := hv
  have hts := atoms_spec (ws := w) B.pre
  have hown : s.vm.findClass y.cls = some m.cls := findClass_of_methodNamed B.named
  have hlocks := B.notSynchronized
  subst hsz
  have hD := hD0.self (sz := s.heap.size)
  have hl := lv_entry av (n := maxL) hav
  rw [lg_entry_eq]
  refine body p e s m _ below meth c (va_A ws s.heap.size) _ (name_of_methodNamed B.named B.method).1 ⟨B.exec, B.bytes, hml, hown, hts⟩ hK (fun q h => Or.inr h) hP hD va_S.rf ?_ _ hl
  intro H locs pc ls u hd hp hP9 hD9 hS
  exact W.vret B.exec B.bytes B.returns (fun t ht hW => ⟨⟨u, rfl, hp, by rw [ht]; exact hP9, hD9⟩, hS.F ht⟩) hS.2.2 hd
theorem g_fm {ws wc : va_W} : ∀ (is : List Nat) (wc : va_W), is.map (fun i => ws[i]?) = wc.map some → is.filterMap (fun i => ws[i]?) = wc
  | [], [], _ => rfl
  | [], _ :: _, h => by cases h
  | _ :: _, [], h => by cases h
  | i :: is, x :: wc, h => by
    simp only [List.map_cons, List.cons.injEq] at h
    rw [List.filterMap_cons, h.1]
    simp only [g_fm (wc := wc) is wc h.2]
section GC
variable {p : Program} {l : Launch} {e : Env} {R : Room} {s : State} {m : MethodId} {args : Array Value} {below : List Frame} {meth : Method} {c : Code} {H : Heap} {locs : List Loc} {cells slots : Nat} {Q : State → Prop}
variable {pc : Nat} {ls : Array Slot} {rest st0 : List Value} {a : Array Value} {A : Nat → Prop} {mc ms : Nat} {g : gT} {ws wsc wr : va_W}
theorem g_calli {S : Type} {post : Int32 → S → Prop} {ws' : S → va_W} (hr : va_Run p l e R s m args below meth c H locs cells slots mc ms (F0 m pc ls st0) rest (va_Qi post (fun u t => gP g (ws' u) t.heap ∧ va_D (va_A wsc H.size) (ws' u)) (va_A wsc H.size) a) (va_A wsc H.size))
    (hP : gP g ws H) (hD : va_D A ws) (hS : va_S A s.heap H locs) (hA : ∀ q, s.heap.size ≤ q → A q) (isC isR : List Nat) (hC : isC.map (fun i => ws[i]?) = wsc.map some) (hR : isR.map (fun i => ws[i]?) = wr.map some) (hn : va_nd isR = true) (hdis : ∀ i ∈ isR, i ∉ isC)
    (kk : ∀ (r : Int32) (u : S) (H1 : Heap) (locs1 : List Loc), post r u → gP g (wr ++ ws' u) H1 → va_D A (wr ++ ws' u) → va_S A s.heap H1 locs1 → W p l e R s m args below meth c H1 locs1 (cells + mc) (slots + ms) Q (F0 m (pc + 3) ls (.int r :: rest))) : W p l e R s m args below meth c H locs cells slots Q (F0 m pc ls st0) := by
  have hFc := va_free (wc := wsc) hD hS hA isC hC
  refine va_calli hr hS (fun q _ h => hFc q h) hFc (fun r u t H1 locs1 ht hvm hw hB hz1 hk1 hS1 => ?_)
  obtain ⟨hP1, hD1⟩ := hB
  rw [ht] at hP1
  obtain ⟨hP2, hD2⟩ := va_join (wr := wr) (w1 := ws' u) hP hD isC isR hC hR hn hdis hk1 hFc hP1 hD1
  exact kk r u H1 locs1 hw hP2 hD2 hS1
theorem g_callv {S : Type} {post : S → Prop} {ws' : S → va_W} (hr : va_Run p l e R s m args below meth c H locs cells slots mc ms (F0 m pc ls st0) rest (va_Qv post (fun u t => gP g (ws' u) t.heap ∧ va_D (va_A wsc H.size) (ws' u)) (va_A wsc H.size) a) (va_A wsc H.size))
    (hP : gP g ws H) (hD : va_D A ws) (hS : va_S A s.heap H locs) (hA : ∀ q, s.heap.size ≤ q → A q) (isC isR : List Nat) (hC : isC.map (fun i => ws[i]?) = wsc.map some) (hR : isR.map (fun i => ws[i]?) = wr.map some) (hn : va_nd isR = true) (hdis : ∀ i ∈ isR, i ∉ isC)
    (kk : ∀ (u : S) (H1 : Heap) (locs1 : List Loc), post u → gP g (wr ++ ws' u) H1 → va_D A (wr ++ ws' u) → va_S A s.heap H1 locs1 → W p l e R s m args below meth c H1 locs1 (cells + mc) (slots + ms) Q (F0 m (pc + 3) ls rest)) : W p l e R s m args below meth c H locs cells slots Q (F0 m pc ls st0) := by
  have hFc := va_free (wc := wsc) hD hS hA isC hC
  refine va_callv hr hS (fun q _ h => hFc q h) hFc (fun u t H1 locs1 ht hvm hw hB hz1 hk1 hS1 => ?_)
  obtain ⟨hP1, hD1⟩ := hB
  rw [ht] at hP1
  obtain ⟨hP2, hD2⟩ := va_join (wr := wr) (w1 := ws' u) hP hD isC isR hC hR hn hdis hk1 hFc hP1 hD1
  exact kk u H1 locs1 hw hP2 hD2 hS1
theorem g_pre {av : List Value} (hK : gK g s) (hP : gP g ws H) (hD : va_D A ws) (isC : List Nat) (hC : isC.map (fun i => ws[i]?) = wsc.map some) (hnC : va_nd isC = true) : ∀ U : State, U.heap = H → s.WarmedH U.vm → va_Pc av (gPre g wsc H.size) av.toArray U := by
  intro U hU hW
  refine ⟨rfl, by rw [hU], ?_, hK.warm hW, (hD.sub isC hnC hC).weaken (fun _ _ _ _ => trivial)⟩
  rw [hU]
  exact hP.sub isC (g_fm (wc := wsc) isC wsc hC)
end GC
section GV
variable {p : Program} {l : Launch} {e : Env} {R : Room} {s : State} {m : MethodId} {args : Array Value} {below : List Frame} {meth : Method} {c : Code} {H : Heap} {locs : List Loc} {cells slots : Nat} {Q : State → Prop}
variable {pc : Nat} {ls : Array Slot} {As rest st0 : List Value} {A : Nat → Prop} {g : gT} {ws wsc wr : va_W} {cc bytes : ByteArray} {nL maxL n index : Nat} {Ts w w' : List Cond} {own C : String} {y : MethodName} {rm : Room} {ret : Option FieldType} {b : Nat}
/-- a virtual call with an int answer -/
theorem g_VI {S : Type} {post : Int32 → S → Prop} {ws' : S → va_W} (F : CallFix p m c cc nL s args Ts own) (hct : CtI l g y w rm (.ref b :: As) wsc post ws') (hG : GoodIn Ts (wsV own index C y w)) (hw : w = Cond.code y bytes maxL ret :: w')
    (hd : y.cls = C ∧ y.cls ≠ "java/lang/invoke/MethodHandle" ∧ y.cls ≠ "java/lang/invoke/VarHandle" ∧ (parseMethodDescriptor y.desc).map (fun d => d.parameters.length) = some n) (hRm : rm.frames + 1 ≤ R.frames ∧ 8 + (maxL + 11) + rm.locals ≤ R.locals)
    (q0 ci : Nat) {qc : vw_C} {fs : List Value} (hcl : vwCl[ci]? = some qc) (hqc : qc.1 = C) (he : ws[q0]? = some (b, .inr (ci, fs)))
    (hn : As.length = n) (hsz : ls.size = nL) (hst : st0 = As.reverse ++ .ref b :: rest) (hrm : (rest.map fun v => v.category).sum ≤ 8) (hdg : decode cc pc = .ok (.invokevirtual index, 3)) (hf : cells + rm.cells ≤ R.cells ∧ slots + rm.slots ≤ R.slots)
    (hK : gK g s) (hP : gP g ws H) (hD : va_D A ws) (hS : va_S A s.heap H locs) (hA : ∀ q, s.heap.size ≤ q → A q) (isC isR : List Nat) (hnC : va_nd isC = true) (hC : isC.map (fun i => ws[i]?) = wsc.map some) (hR : isR.map (fun i => ws[i]?) = wr.map some) (hnR : va_nd isR = true) (hdis : ∀ i ∈ isR, i ∉ isC)
    (kk : ∀ (r : Int32) (u : S) (H1 : Heap) (locs1 : List Loc), post r u → gP g (wr ++ ws' u) H1 → va_D A (wr ++ ws' u) → va_S A s.heap H1 locs1 → W p l e R s m args below meth c H1 locs1 (cells + rm.cells) (slots + rm.slots) Q (F0 m (pc + 3) ls (.int r :: rest))) : W p l e R s m args below meth c H locs cells slots Q (F0 m pc ls st0) := by
  subst hqc
  exact g_calli (va_runV (As := As) (rest := rest) F (hct H.size) (cwV n F.2.2.2.2 hG hw rfl rfl hd hRm) ⟨gPre.blind, va_recv hK.1 hP hcl he, g_pre hK hP hD isC hC hnC⟩ rfl hn hsz hst (lv_room hrm) hdg hf) hP hD hS hA isC isR hC hR hnR hdis kk
theorem g_VV {S : Type} {post : S → Prop} {ws' : S → va_W} (F : CallFix p m c cc nL s args Ts own) (hct : CtV l g y w rm (.ref b :: As) wsc post ws') (hG : GoodIn Ts (wsV own index C y w)) (hw : w = Cond.code y bytes maxL ret :: w')
    (hd : y.cls = C ∧ y.cls ≠ "java/lang/invoke/MethodHandle" ∧ y.cls ≠ "java/lang/invoke/VarHandle" ∧ (parseMethodDescriptor y.desc).map (fun d => d.parameters.length) = some n) (hRm : rm.frames + 1 ≤ R.frames ∧ 8 + (maxL + 11) + rm.locals ≤ R.locals)
    (q0 ci : Nat) {qc : vw_C} {fs : List Value} (hcl : vwCl[ci]? = some qc) (hqc : qc.1 = C) (he : ws[q0]? = some (b, .inr (ci, fs)))
    (hn : As.length = n) (hsz : ls.size = nL) (hst : st0 = As.reverse ++ .ref b :: rest) (hrm : (rest.map fun v => v.category).sum ≤ 8) (hdg : decode cc pc = .ok (.invokevirtual index, 3)) (hf : cells + rm.cells ≤ R.cells ∧ slots + rm.slots ≤ R.slots)
    (hK : gK g s) (hP : gP g ws H) (hD : va_D A ws) (hS : va_S A s.heap H locs) (hA : ∀ q, s.heap.size ≤ q → A q) (isC isR : List Nat) (hnC : va_nd isC = true) (hC : isC.map (fun i => ws[i]?) = wsc.map some) (hR : isR.map (fun i => ws[i]?) = wr.map some) (hnR : va_nd isR = true) (hdis : ∀ i ∈ isR, i ∉ isC)
    (kk : ∀ (u : S) (H1 : Heap) (locs1 : List Loc), post u → gP g (wr ++ ws' u) H1 → va_D A (wr ++ ws' u) → va_S A s.heap H1 locs1 → W p l e R s m args below meth c H1 locs1 (cells + rm.cells) (slots + rm.slots) Q (F0 m (pc + 3) ls rest)) : W p l e R s m args below meth c H locs cells slots Q (F0 m pc ls st0) := by
  subst hqc
  exact g_callv (va_runV (As := As) (rest := rest) F (hct H.size) (cwV n F.2.2.2.2 hG hw rfl rfl hd hRm) ⟨gPre.blind, va_recv hK.1 hP hcl he, g_pre hK hP hD isC hC hnC⟩ rfl hn hsz hst (lv_room hrm) hdg hf) hP hD hS hA isC isR hC hR hnR hdis kk
/-- a static call with an int answer -/
theorem g_SI {S : Type} {post : Int32 → S → Prop} {ws' : S → va_W} (F : CallFix p m c cc nL s args Ts own) (hct : CtI l g y w rm As wsc post ws') (hG : GoodIn Ts (va_wsS own index y w)) (hw : w = Cond.code y bytes maxL ret :: w')
    (hd : y.cls ≠ "java/lang/invoke/MethodHandle" ∧ y.cls ≠ "java/lang/invoke/VarHandle" ∧ (parseMethodDescriptor y.desc).map (fun d => d.parameters.length) = some n) (hRm : rm.frames + 1 ≤ R.frames ∧ 8 + (maxL + 11) + rm.locals ≤ R.locals)
    (hn : As.length = n) (hsz : ls.size = nL) (hst : st0 = As.reverse ++ rest) (hrm : (rest.map fun v => v.category).sum ≤ 8) (hdg : decode cc pc = .ok (.invokestatic index, 3)) (hf : cells + rm.cells ≤ R.cells ∧ slots + rm.slots ≤ R.slots)
    (hK : gK g s) (hP : gP g ws H) (hD : va_D A ws) (hS : va_S A s.heap H locs) (hA : ∀ q, s.heap.size ≤ q → A q) (isC isR : List Nat) (hnC : va_nd isC = true) (hC : isC.map (fun i => ws[i]?) = wsc.map some) (hR : isR.map (fun i => ws[i]?) = wr.map some) (hnR : va_nd isR = true) (hdis : ∀ i ∈ isR, i ∉ isC)
    (kk : ∀ (r : Int32) (u : S) (H1 : Heap) (locs1 : List Loc), post r u → gP g (wr ++ ws' u) H1 → va_D A (wr ++ ws' u) → va_S A s.heap H1 locs1 → W p l e R s m args below meth c H1 locs1 (cells + rm.cells) (slots + rm.slots) Q (F0 m (pc + 3) ls (.int r :: rest))) : W p l e R s m args below meth c H locs cells slots Q (F0 m pc ls st0) :=
  g_calli (va_runS (As := As) (rest := rest) F (hct H.size) (va_cwS n F.2.2.2.2 hG hw rfl rfl hd hRm) ⟨gPre.blind, g_pre hK hP hD isC hC hnC⟩ rfl hn hsz hst (lv_room hrm) hdg hf) hP hD hS hA isC isR hC hR hnR hdis kk
/-- a static call of a nest mate's private method -/
theorem g_NI {S : Type} {post : Int32 → S → Prop} {ws' : S → va_W} (F : CallFix p m c cc nL s args Ts own) (hct : CtI l g y w rm As wsc post ws') (hG : GoodIn Ts w) (hw : w = Cond.code y bytes maxL ret :: w') (hN : (own, index, y) ∈ gNs) (hini : Cond.initialized y.cls ∈ Ts) (hstt : Cond.static y ∈ Ts)
    (hd : y.cls ≠ "java/lang/invoke/MethodHandle" ∧ y.cls ≠ "java/lang/invoke/VarHandle" ∧ (parseMethodDescriptor y.desc).map (fun d => d.parameters.length) = some n) (hRm : rm.frames + 1 ≤ R.frames ∧ 8 + (maxL + 11) + rm.locals ≤ R.locals)
    (hn : As.length = n) (hsz : ls.size = nL) (hst : st0 = As.reverse ++ rest) (hrm : (rest.map fun v => v.category).sum ≤ 8) (hdg : decode cc pc = .ok (.invokestatic index, 3)) (hf : cells + rm.cells ≤ R.cells ∧ slots + rm.slots ≤ R.slots)
    (hK : gK g s) (hP : gP g ws H) (hD : va_D A ws) (hS : va_S A s.heap H locs) (hA : ∀ q, s.heap.size ≤ q → A q) (isC isR : List Nat) (hnC : va_nd isC = true) (hC : isC.map (fun i => ws[i]?) = wsc.map some) (hR : isR.map (fun i => ws[i]?) = wr.map some) (hnR : va_nd isR = true) (hdis : ∀ i ∈ isR, i ∉ isC)
    (kk : ∀ (r : Int32) (u : S) (H1 : Heap) (locs1 : List Loc), post r u → gP g (wr ++ ws' u) H1 → va_D A (wr ++ ws' u) → va_S A s.heap H1 locs1 → W p l e R s m args below meth c H1 locs1 (cells + rm.cells) (slots + rm.slots) Q (F0 m (pc + 3) ls (.int r :: rest))) : W p l e R s m args below meth c H locs cells slots Q (F0 m pc ls st0) :=
  g_calli (va_runSN (As := As) (rest := rest) F (hct H.size) ⟨va_cnB n F.2.2.2.2 hG hw rfl rfl (hK.2 _ hN) (F.2.2.2.2 _ hini) hd hRm, F.2.2.2.2 _ hstt, trivial⟩ ⟨gPre.blind, g_pre hK hP hD isC hC hnC⟩ rfl hn hsz hst (lv_room hrm) hdg hf) hP hD hS hA isC isR hC hR hnR hdis kk
/-- a constructor's call -/
theorem g_II {S : Type} {post : S → Prop} {ws' : S → va_W} (F : CallFix p m c cc nL s args Ts own) (hct : CtV l g y w rm (.ref b :: As) wsc post ws') (hG : GoodIn Ts w) (hw : w = Cond.code y bytes maxL none :: w') (hini : Cond.initialized y.cls ∈ Ts) (hl : Cond.methodLink own index y ∈ Ts) (hin : Cond.instanceMethod y ∈ Ts) (hy1 : y.name = "<init>")
    (hd : y.cls ≠ "java/lang/invoke/MethodHandle" ∧ y.cls ≠ "java/lang/invoke/VarHandle" ∧ (parseMethodDescriptor y.desc).map (fun d => d.parameters.length) = some n) (hRm : rm.frames + 1 ≤ R.frames ∧ 8 + (maxL + 11) + rm.locals ≤ R.locals)
    (hn : As.length = n) (hsz : ls.size = nL) (hst : st0 = As.reverse ++ .ref b :: rest) (hrm : (rest.map fun v => v.category).sum ≤ 8) (hdg : decode cc pc = .ok (.invokespecial index, 3)) (hf : cells + rm.cells ≤ R.cells ∧ slots + rm.slots ≤ R.slots)
    (hK : gK g s) (hP : gP g ws H) (hD : va_D A ws) (hS : va_S A s.heap H locs) (hA : ∀ q, s.heap.size ≤ q → A q) (isC isR : List Nat) (hnC : va_nd isC = true) (hC : isC.map (fun i => ws[i]?) = wsc.map some) (hR : isR.map (fun i => ws[i]?) = wr.map some) (hnR : va_nd isR = true) (hdis : ∀ i ∈ isR, i ∉ isC)
    (kk : ∀ (u : S) (H1 : Heap) (locs1 : List Loc), post u → gP g (wr ++ ws' u) H1 → va_D A (wr ++ ws' u) → va_S A s.heap H1 locs1 → W p l e R s m args below meth c H1 locs1 (cells + rm.cells) (slots + rm.slots) Q (F0 m (pc + 3) ls rest)) : W p l e R s m args below meth c H locs cells slots Q (F0 m pc ls st0) :=
  g_callv (va_runI (As := As) (rest := rest) F (hct H.size) (cwI n F.2.2.2.2 hG hw rfl rfl (F.2.2.2.2 _ hini) (F.2.2.2.2 _ hl) (F.2.2.2.2 _ hin) hy1 hd hRm) ⟨gPre.blind, g_pre hK hP hD isC hC hnC⟩ rfl hn hsz hst (lv_room hrm) hdg hf) hP hD hS hA isC isR hC hR hnR hdis kk
/-- the call of a nest mate's private constructor -/
theorem g_NN {S : Type} {post : S → Prop} {ws' : S → va_W} (F : CallFix p m c cc nL s args Ts own) (hct : CtV l g y w rm (.ref b :: As) wsc post ws') (hG : GoodIn Ts w) (hw : w = Cond.code y bytes maxL none :: w') (hN : (own, index, y) ∈ gNs) (hini : Cond.initialized y.cls ∈ Ts) (hin : Cond.instanceMethod y ∈ Ts) (hy1 : y.name = "<init>")
    (hd : y.cls ≠ "java/lang/invoke/MethodHandle" ∧ y.cls ≠ "java/lang/invoke/VarHandle" ∧ (parseMethodDescriptor y.desc).map (fun d => d.parameters.length) = some n) (hRm : rm.frames + 1 ≤ R.frames ∧ 8 + (maxL + 11) + rm.locals ≤ R.locals)
    (hn : As.length = n) (hsz : ls.size = nL) (hst : st0 = As.reverse ++ .ref b :: rest) (hrm : (rest.map fun v => v.category).sum ≤ 8) (hdg : decode cc pc = .ok (.invokespecial index, 3)) (hf : cells + rm.cells ≤ R.cells ∧ slots + rm.slots ≤ R.slots)
    (hK : gK g s) (hP : gP g ws H) (hD : va_D A ws) (hS : va_S A s.heap H locs) (hA : ∀ q, s.heap.size ≤ q → A q) (isC isR : List Nat) (hnC : va_nd isC = true) (hC : isC.map (fun i => ws[i]?) = wsc.map some) (hR : isR.map (fun i => ws[i]?) = wr.map some) (hnR : va_nd isR = true) (hdis : ∀ i ∈ isR, i ∉ isC)
    (kk : ∀ (u : S) (H1 : Heap) (locs1 : List Loc), post u → gP g (wr ++ ws' u) H1 → va_D A (wr ++ ws' u) → va_S A s.heap H1 locs1 → W p l e R s m args below meth c H1 locs1 (cells + rm.cells) (slots + rm.slots) Q (F0 m (pc + 3) ls rest)) : W p l e R s m args below meth c H locs cells slots Q (F0 m pc ls st0) :=
  g_callv (va_runIN (As := As) (rest := rest) F (hct H.size) ⟨va_cnB n F.2.2.2.2 hG hw rfl rfl (hK.2 _ hN) (F.2.2.2.2 _ hini) hd hRm, hy1, F.2.2.2.2 _ hin⟩ ⟨gPre.blind, g_pre hK hP hD isC hC hnC⟩ rfl hn hsz hst (lv_room hrm) hdg hf) hP hD hS hA isC isR hC hR hnR hdis kk
end GV
