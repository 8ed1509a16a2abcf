abbrev rm_X9_line : Room := { frames := 1, cells := 0, slots := 0, locals := 30 }
theorem i_X9_line_X9 : ∀ w ∈ wsX90, w ∈ wsX9_line := by decide +kernel
theorem k_X9_line_f1 : Cond.fieldLink RX9 1 (TX9 0).1 (TX9 0).2.1 (TX9 0).2.2.1 ∈ wsX9_line := by decide +kernel
theorem k_X9_line_f18 : Cond.fieldLink RX9 18 (TX9 3).1 (TX9 3).2.1 (TX9 3).2.2.1 ∈ wsX9_line := by decide +kernel
set_option maxHeartbeats 4000000 in
set_option maxRecDepth 100000 in
theorem c_X9_line_n (l : Launch) (g : gT) (mo : Nat) (th : Int32) (zt : Nat) (tn : Nat) (sz : Nat) (zx : Nat) (zy : Nat) (zm : Nat) (zb : Nat) (rt : Int32) (w0 : Int32) (w1 : Int32) (w2 : Int32) (lg : Int32) (nr : Int32) (yr : Nat) (va : Nat) (vb : Nat) (vc : Nat) (vd : Nat) (qa : Nat) (qb : Nat) (qc : Nat) (ln : Nat) (sa : Nat) (sb : Nat) (sc : Nat) (sd : Nat) (se : Nat) (pn : Nat) (ma : Nat) (mb : Nat) (mc : Nat) (rv : Nat) (mn : Nat) (tol : Int32) (rn : Nat) (ft : Nat → Int32) (T : Nat → Nat) (htn : tn ≤ 200) (hT : ∀ k, k < tn → ft k = (nI (T k)).toInt8.toInt32) (h256 : ∀ k, T k < 256) (h : ¬ linP T tn) : CtI l g yX9_line wsX9_line rm_X9_line [.ref mo] [gO mo 9 [.int th, .ref zt, .int (nI tn), .int (nI sz), .ref zx, .ref zy, .ref zm, .ref zb, .int rt, .int w0, .int w1, .int w2, .int lg, .int nr, .int (nI yr), .ref va, .ref vb, .ref vc, .ref vd, .ref qa, .ref qb, .ref qc, .int (nI ln), .ref sa, .ref sb, .ref sc, .ref sd, .ref se, .int (nI pn), .ref ma, .ref mb, .ref mc, .ref rv, .int (nI mn), .int tol, .int (nI rn)], gB g zt 200 ft] (fun (r : Int32) (_ : Unit) => r = 0) (fun (_ : Unit) => [gO mo 9 [.int 0, .ref zt, .int 0, .int (nI tn), .ref zx, .ref zy, .ref zm, .ref zb, .int rt, .int w0, .int w1, .int w2, .int lg, .int nr, .int (nI yr), .ref va, .ref vb, .ref vc, .ref vd, .ref qa, .ref qb, .ref qc, .int (nI ln), .ref sa, .ref sb, .ref sc, .ref sd, .ref se, .int (nI pn), .ref ma, .ref mb, .ref mc, .ref rv, .int (nI mn), .int tol, .int (nI rn)], gB g zt 200 ft]) := by
  refine CtI.of (cc := cX9_line) (maxL := 2) (ret := .boolean) (by decide) rfl (Nat.le_of_ble_eq_true rfl) ?_
  intro p e s m args below meth c A Q hnm F hK hA hP hD hS hret ls hl
  have hx := F.1
  have hb := F.2.1
  have hl : lv_has ls 2 [(0, .ref mo)] := hl
  refine lv_aload_n hx hb dX9_line_0 rfl (lv_at hl 0 rfl) ?_
  refine lv_iconst (v := 0) hx hb dX9_line_1 (by decide) ?_
  refine g_put (C := RX9) (T := TX9) (N := 36) (ws2 := [gO mo 9 [.int 0, .ref zt, .int (nI tn), .int (nI sz), .ref zx, .ref zy, .ref zm, .ref zb, .int rt, .int w0, .int w1, .int w2, .int lg, .int nr, .int (nI yr), .ref va, .ref vb, .ref vc, .ref vd, .ref qa, .ref qb, .ref qc, .int (nI ln), .ref sa, .ref sb, .ref sc, .ref sd, .ref se, .int (nI pn), .ref ma, .ref mb, .ref mc, .ref rv, .int (nI mn), .int tol, .int (nI rn)], gB g zt 200 ft]) F hK hP hD hS i_X9_line_X9 tyX9 tyX9_ok nmX9 0 rfl rfl 0 (by decide) k_X9_line_f1 rfl (v := .int 0) rfl rfl (Nat.le_of_ble_eq_true rfl) rfl dX9_line_2 (fun H locs hP hD hS => ?_)
  refine lv_aload_n hx hb dX9_line_5 rfl (lv_at hl 0 rfl) ?_
  refine g_VV (wr := [gB g zt 200 ft]) (As := []) (rest := []) (n := 0) F (c_X9_taken l g mo 0 zt tn sz zx zy zm zb rt w0 w1 w2 lg nr yr va vb vc vd qa qb qc ln sa sb sc sd se pn ma mb mc rv mn tol rn) gX9_line_X9_taken rfl (by decide) ⟨by decide, by decide⟩ 0 9 rfl rfl rfl rfl hl.1 rfl (Nat.le_of_ble_eq_true rfl) dX9_line_6 ⟨Nat.le_of_ble_eq_true rfl, Nat.le_of_ble_eq_true rfl⟩ hK hP hD hS hA [0] [1] (by decide) rfl rfl (by decide) (by decide) (fun u_6 H locs hw_6 hP hD hS => ?_)
  have hP : gP g [gB g zt 200 ft, gO mo 9 [.int 0, .ref zt, .int 0, .int (nI tn), .ref zx, .ref zy, .ref zm, .ref zb, .int rt, .int w0, .int w1, .int w2, .int lg, .int nr, .int (nI yr), .ref va, .ref vb, .ref vc, .ref vd, .ref qa, .ref qb, .ref qc, .int (nI ln), .ref sa, .ref sb, .ref sc, .ref sd, .ref se, .int (nI pn), .ref ma, .ref mb, .ref mc, .ref rv, .int (nI mn), .int tol, .int (nI rn)]] H := hP
  have hD : va_D A [gB g zt 200 ft, gO mo 9 [.int 0, .ref zt, .int 0, .int (nI tn), .ref zx, .ref zy, .ref zm, .ref zb, .int rt, .int w0, .int w1, .int w2, .int lg, .int nr, .int (nI yr), .ref va, .ref vb, .ref vc, .ref vd, .ref qa, .ref qb, .ref qc, .int (nI ln), .ref sa, .ref sb, .ref sc, .ref sd, .ref se, .int (nI pn), .ref ma, .ref mb, .ref mc, .ref rv, .int (nI mn), .int tol, .int (nI rn)]] := hD
  refine lv_aload_n hx hb dX9_line_9 rfl (lv_at hl 0 rfl) ?_
  refine g_get (C := RX9) (T := TX9) (N := 36) F hK hP i_X9_line_X9 1 rfl rfl 3 (by decide) k_X9_line_f18 (v := .int (nI tn)) rfl dX9_line_10 ?_
  refine lv_iconst (v := 4) hx hb dX9_line_13 (by decide) ?_
  refine n_irem (a := tn) (b := 4) (d := tn % 4) hx hb dX9_line_14 (by omega) (by decide) (by decide) (rfl) ?_
  refine n_if_ne (a := tn % 4) (tgt := 37) hx hb dX9_line_15 (by decide) (by omega) (fun c_15 => ?_) (fun c_15 => ?_)
  · refine lv_iconst (v := 0) hx hb dX9_line_37 (by decide) ?_
    have hP9 := hP.sub (ws' := [gO mo 9 [.int 0, .ref zt, .int 0, .int (nI tn), .ref zx, .ref zy, .ref zm, .ref zb, .int rt, .int w0, .int w1, .int w2, .int lg, .int nr, .int (nI yr), .ref va, .ref vb, .ref vc, .ref vd, .ref qa, .ref qb, .ref qc, .int (nI ln), .ref sa, .ref sb, .ref sc, .ref sd, .ref se, .int (nI pn), .ref ma, .ref mb, .ref mc, .ref rv, .int (nI mn), .int tol, .int (nI rn)], gB g zt 200 ft]) [1, 0] rfl
    have hD9 := hD.sub (ws' := [gO mo 9 [.int 0, .ref zt, .int 0, .int (nI tn), .ref zx, .ref zy, .ref zm, .ref zb, .int rt, .int w0, .int w1, .int w2, .int lg, .int nr, .int (nI yr), .ref va, .ref vb, .ref vc, .ref vd, .ref qa, .ref qb, .ref qc, .int (nI ln), .ref sa, .ref sb, .ref sc, .ref sd, .ref se, .int (nI pn), .ref ma, .ref mb, .ref mc, .ref rv, .int (nI mn), .int tol, .int (nI rn)], gB g zt 200 ft]) [1, 0] (by decide) rfl
    exact hret _ _ _ _ 0 () dX9_line_38 rfl (rfl) hP9 hD9 hS
  · refine lv_aload_n hx hb dX9_line_18 rfl (lv_at hl 0 rfl) ?_
    refine g_get (C := RX9) (T := TX9) (N := 36) F hK hP i_X9_line_X9 1 rfl rfl 3 (by decide) k_X9_line_f18 (v := .int (nI tn)) rfl dX9_line_19 ?_
    refine lv_bipush (v := 16) hx hb dX9_line_22 (by decide) ?_
    refine n_icmp_lt (a := tn) (b := 16) (tgt := 37) hx hb dX9_line_24 (by decide) (by omega) (by omega) (fun c_24 => ?_) (fun c_24 => ?_)
    · refine lv_iconst (v := 0) hx hb dX9_line_37 (by decide) ?_
      have hP9 := hP.sub (ws' := [gO mo 9 [.int 0, .ref zt, .int 0, .int (nI tn), .ref zx, .ref zy, .ref zm, .ref zb, .int rt, .int w0, .int w1, .int w2, .int lg, .int nr, .int (nI yr), .ref va, .ref vb, .ref vc, .ref vd, .ref qa, .ref qb, .ref qc, .int (nI ln), .ref sa, .ref sb, .ref sc, .ref sd, .ref se, .int (nI pn), .ref ma, .ref mb, .ref mc, .ref rv, .int (nI mn), .int tol, .int (nI rn)], gB g zt 200 ft]) [1, 0] rfl
      have hD9 := hD.sub (ws' := [gO mo 9 [.int 0, .ref zt, .int 0, .int (nI tn), .ref zx, .ref zy, .ref zm, .ref zb, .int rt, .int w0, .int w1, .int w2, .int lg, .int nr, .int (nI yr), .ref va, .ref vb, .ref vc, .ref vd, .ref qa, .ref qb, .ref qc, .int (nI ln), .ref sa, .ref sb, .ref sc, .ref sd, .ref se, .int (nI pn), .ref ma, .ref mb, .ref mc, .ref rv, .int (nI mn), .int tol, .int (nI rn)], gB g zt 200 ft]) [1, 0] (by decide) rfl
      exact hret _ _ _ _ 0 () dX9_line_38 rfl (rfl) hP9 hD9 hS
    · refine lv_aload_n hx hb dX9_line_27 rfl (lv_at hl 0 rfl) ?_
      refine g_get (C := RX9) (T := TX9) (N := 36) F hK hP i_X9_line_X9 1 rfl rfl 3 (by decide) k_X9_line_f18 (v := .int (nI tn)) rfl dX9_line_28 ?_
      refine lv_sipush (v := 192) hx hb dX9_line_31 (by decide) ?_
      refine n_icmp_le (a := tn) (b := 192) (tgt := 39) hx hb dX9_line_34 (by decide) (by omega) (by omega) (fun c_34 => ?_) (fun c_34 => ?_)
      · refine lv_iconst (v := 0) hx hb dX9_line_39 (by decide) ?_
        refine lv_istore_n (lv' := [(1, .int 0), (0, .ref mo)]) hx hb dX9_line_40 rfl hl (by decide) rfl (fun ls hl => ?_)
        have L41 : ∀ (fuel : Nat) (a : Nat) (k : Nat) (ls : Array Slot) (H : Heap) (locs : List Loc), 200 - a < fuel → (a = 2 * k) → (a ≤ tn) → (∀ j, j < k → corN T (2 * j) ≤ 511) → lv_has ls 2 [(0, .ref mo), (1, .int (nI a))] → gP g [gO mo 9 [.int 0, .ref zt, .int 0, .int (nI tn), .ref zx, .ref zy, .ref zm, .ref zb, .int rt, .int w0, .int w1, .int w2, .int lg, .int nr, .int (nI yr), .ref va, .ref vb, .ref vc, .ref vd, .ref qa, .ref qb, .ref qc, .int (nI ln), .ref sa, .ref sb, .ref sc, .ref sd, .ref se, .int (nI pn), .ref ma, .ref mb, .ref mc, .ref rv, .int (nI mn), .int tol, .int (nI rn)], gB g zt 200 ft] H → va_D A [gO mo 9 [.int 0, .ref zt, .int 0, .int (nI tn), .ref zx, .ref zy, .ref zm, .ref zb, .int rt, .int w0, .int w1, .int w2, .int lg, .int nr, .int (nI yr), .ref va, .ref vb, .ref vc, .ref vd, .ref qa, .ref qb, .ref qc, .int (nI ln), .ref sa, .ref sb, .ref sc, .ref sd, .ref se, .int (nI pn), .ref ma, .ref mb, .ref mc, .ref rv, .int (nI mn), .int tol, .int (nI rn)], gB g zt 200 ft] → va_S A s.heap H locs → W p l e rm_X9_line s m args below meth c H locs 0 0 Q (F0 m 41 ls []) := by
          intro fuel
          induction fuel with
          | zero => intro a k _ _ _ hk; exact absurd hk (Nat.not_lt_zero _)
          | succ fuel_41 ih_41 =>
            intro a k ls H locs hk_41 ha hat h1 hl hP hD hS
            refine lv_iload_n hx hb dX9_line_41 rfl (lv_at hl 1 rfl) ?_
            refine lv_aload_n hx hb dX9_line_42 rfl (lv_at hl 0 rfl) ?_
            refine g_get (C := RX9) (T := TX9) (N := 36) F hK hP i_X9_line_X9 0 rfl rfl 3 (by decide) k_X9_line_f18 (v := .int (nI tn)) rfl dX9_line_43 ?_
            refine n_icmp_ge (a := a) (b := tn) (tgt := 68) hx hb dX9_line_46 (by decide) (by omega) (by omega) (fun c_46 => ?_) (fun c_46 => ?_)
            · exact absurd ⟨⟨c_15, by omega, by omega⟩, fun j hj => h1 j (by omega)⟩ h
            · refine lv_aload_n hx hb dX9_line_49 rfl (lv_at hl 0 rfl) ?_
              refine lv_iload_n hx hb dX9_line_50 rfl (lv_at hl 1 rfl) ?_
              refine g_VI (wr := []) (As := [.int (nI a)]) (rest := []) (n := 1) F (c_X9_two l g mo 0 zt 0 tn zx zy zm zb rt w0 w1 w2 lg nr yr va vb vc vd qa qb qc ln sa sb sc sd se pn ma mb mc rv mn tol rn ft T a tn (htn) (hT) (h256) (by omega)) gX9_line_X9_two rfl (by decide) ⟨by decide, by decide⟩ 0 9 rfl rfl rfl rfl hl.1 rfl (Nat.le_of_ble_eq_true rfl) dX9_line_51 ⟨Nat.le_of_ble_eq_true rfl, Nat.le_of_ble_eq_true rfl⟩ hK hP hD hS hA [0, 1] [] (by decide) rfl rfl (by decide) (by decide) (fun r_51 u_51 H locs hw_51 hP hD hS => ?_)
              have hP : gP g [gO mo 9 [.int 0, .ref zt, .int (nI 0), .int (nI tn), .ref zx, .ref zy, .ref zm, .ref zb, .int rt, .int w0, .int w1, .int w2, .int lg, .int nr, .int (nI yr), .ref va, .ref vb, .ref vc, .ref vd, .ref qa, .ref qb, .ref qc, .int (nI ln), .ref sa, .ref sb, .ref sc, .ref sd, .ref se, .int (nI pn), .ref ma, .ref mb, .ref mc, .ref rv, .int (nI mn), .int tol, .int (nI rn)], gB g zt 200 ft] H := hP
              have hD : va_D A [gO mo 9 [.int 0, .ref zt, .int (nI 0), .int (nI tn), .ref zx, .ref zy, .ref zm, .ref zb, .int rt, .int w0, .int w1, .int w2, .int lg, .int nr, .int (nI yr), .ref va, .ref vb, .ref vc, .ref vd, .ref qa, .ref qb, .ref qc, .int (nI ln), .ref sa, .ref sb, .ref sc, .ref sd, .ref se, .int (nI pn), .ref ma, .ref mb, .ref mc, .ref rv, .int (nI mn), .int tol, .int (nI rn)], gB g zt 200 ft] := hD
              obtain rfl := hw_51
              have hq1 := h256 a
              have hq2 := h256 (a + 1)
              refine lv_sipush (v := 511) hx hb dX9_line_54 (by decide) ?_
              refine n_icmp_le (a := T a * 256 + T (a + 1)) (b := 511) (tgt := 62) hx hb dX9_line_57 (by decide) (by omega) (by omega) (fun c_57 => ?_) (fun c_57 => ?_)
              · refine lv_iinc (v := (nI (a + 2))) (lv' := [(1, .int (nI (a + 2))), (0, .ref mo)]) hx hb dX9_line_62 hl (k := 1) rfl (g_inc a 2 (by decide)) (by decide) rfl (fun ls hl => ?_)
                refine lv_goto (tgt := 41) hx hb dX9_line_65 (by decide) ?_
                exact ih_41 (a + 2) (k + 1) ls _ _ (by omega) (by omega) (by omega) (fun j hj => by by_cases e : j = k; (subst e; rw [corN, ← ha]; exact c_57); exact h1 j (by omega)) (lv_sub hl [1, 0] rfl) hP hD hS
              · refine lv_iconst (v := 0) hx hb dX9_line_60 (by decide) ?_
                exact hret _ _ _ _ 0 () dX9_line_61 rfl (rfl) hP hD hS
        exact L41 ((200 - 0) + 1) 0 0 ls _ _ (Nat.lt_succ_self _) (rfl) (by omega) (fun j hj => absurd hj (Nat.not_lt_zero j)) (lv_sub hl [1, 0] rfl) (hP.sub [1, 0] rfl) (hD.sub [1, 0] (by decide) rfl) hS
      · refine lv_iconst (v := 0) hx hb dX9_line_37 (by decide) ?_
        have hP9 := hP.sub (ws' := [gO mo 9 [.int 0, .ref zt, .int 0, .int (nI tn), .ref zx, .ref zy, .ref zm, .ref zb, .int rt, .int w0, .int w1, .int w2, .int lg, .int nr, .int (nI yr), .ref va, .ref vb, .ref vc, .ref vd, .ref qa, .ref qb, .ref qc, .int (nI ln), .ref sa, .ref sb, .ref sc, .ref sd, .ref se, .int (nI pn), .ref ma, .ref mb, .ref mc, .ref rv, .int (nI mn), .int tol, .int (nI rn)], gB g zt 200 ft]) [1, 0] rfl
        have hD9 := hD.sub (ws' := [gO mo 9 [.int 0, .ref zt, .int 0, .int (nI tn), .ref zx, .ref zy, .ref zm, .ref zb, .int rt, .int w0, .int w1, .int w2, .int lg, .int nr, .int (nI yr), .ref va, .ref vb, .ref vc, .ref vd, .ref qa, .ref qb, .ref qc, .int (nI ln), .ref sa, .ref sb, .ref sc, .ref sd, .ref se, .int (nI pn), .ref ma, .ref mb, .ref mc, .ref rv, .int (nI mn), .int tol, .int (nI rn)], gB g zt 200 ft]) [1, 0] (by decide) rfl
        exact hret _ _ _ _ 0 () dX9_line_38 rfl (rfl) hP9 hD9 hS

theorem lin_ok {T : Nat → Nat} {n : Nat} (h : linP T n) : okL (n / 4, linX T, linY T) := by
  obtain ⟨⟨h1, h2, h3⟩, h4⟩ := h
  refine ⟨h2, h3, fun k hk => ?_⟩
  have hk' : k < n / 4 := hk
  refine ⟨inP_of ?_, inP_of ?_⟩
  · have := h4 (2 * k) (by omega)
    rw [show 2 * (2 * k) = 4 * k by omega] at this; exact this
  · have := h4 (2 * k + 1) (by omega)
    rw [show 2 * (2 * k + 1) = 4 * k + 2 by omega] at this; exact this
/-- rows behind line(): line 2 and line 0 as told, line 1 as it was -/
def lineW (n : Nat) (X f g : RW) : Prop := (∀ j, j < n → g (48 * 2 + j) = X j) ∧ (∀ j, j < n → g (48 * 0 + j) = X j)
theorem lineW_of {n : Nat} {X f g h : RW} (hn : n ≤ 48) (h1 : lnW 2 n X f g) (h2 : lnW 0 n X g h) : lineW n X f h := ⟨fun j hj => by rw [h2.2 _ (by omega)]; exact h1.1 j hj, h2.1⟩
theorem k_X9_line_f34 : Cond.fieldLink RX9 34 (TX9 6).1 (TX9 6).2.1 (TX9 6).2.2.1 ∈ wsX9_line := by decide +kernel
theorem k_X9_line_f120 : Cond.fieldLink RX9 120 (TX9 14).1 (TX9 14).2.1 (TX9 14).2.2.1 ∈ wsX9_line := by decide +kernel
theorem k_X9_line_f123 : Cond.fieldLink RX9 123 (TX9 22).1 (TX9 22).2.1 (TX9 22).2.2.1 ∈ wsX9_line := by decide +kernel
theorem k_X9_line_f126 : Cond.fieldLink RX9 126 (TX9 28).1 (TX9 28).2.1 (TX9 28).2.2.1 ∈ wsX9_line := by decide +kernel
theorem k_X9_line_f85 : Cond.fieldLink RX9 85 (TX9 25).1 (TX9 25).2.1 (TX9 25).2.2.1 ∈ wsX9_line := by decide +kernel
theorem k_X9_line_f79 : Cond.fieldLink RX9 79 (TX9 23).1 (TX9 23).2.1 (TX9 23).2.2.1 ∈ wsX9_line := by decide +kernel
theorem k_X9_line_f82 : Cond.fieldLink RX9 82 (TX9 24).1 (TX9 24).2.1 (TX9 24).2.2.1 ∈ wsX9_line := by decide +kernel
theorem k_X9_line_f88 : Cond.fieldLink RX9 88 (TX9 26).1 (TX9 26).2.1 (TX9 26).2.2.1 ∈ wsX9_line := by decide +kernel
theorem k_X9_line_f27 : Cond.fieldLink RX9 27 (TX9 4).1 (TX9 4).2.1 (TX9 4).2.2.1 ∈ wsX9_line := by decide +kernel
theorem k_X9_line_f31 : Cond.fieldLink RX9 31 (TX9 5).1 (TX9 5).2.1 (TX9 5).2.2.1 ∈ wsX9_line := by decide +kernel
set_option maxHeartbeats 4000000 in
set_option maxRecDepth 100000 in
theorem c_X9_line_y (l : Launch) (g : gT) (mo : Nat) (th : Int32) (zt : Nat) (tn : Nat) (sz : Nat) (zx : Nat) (zy : Nat) (zm : Nat) (zb : Nat) (rt : Int32) (w0 : Int32) (w1 : Int32) (w2 : Int32) (lg : Int32) (nr : Int32) (yr : Nat) (va : Nat) (vb : Nat) (vc : Nat) (vd : Nat) (qa : Nat) (qb : Nat) (qc : Nat) (ln : Nat) (sa : Nat) (sb : Nat) (sc : Nat) (sd : Nat) (se : Nat) (pn : Nat) (ma : Nat) (mb : Nat) (mc : Nat) (rv : Nat) (mn : Nat) (tol : Int32) (rn : Nat) (ft : Nat → Int32) (T : Nat → Nat) (fm : Nat → Int32) (fx : Nat → Int32) (fy : Nat → Int32) (d1 : Nat → Int32) (d2 : Nat → Int32) (d3 : Nat → Int32) (d4 : Nat → Int32) (d5 : Nat → Int32) (htn : tn ≤ 200) (hT : ∀ k, k < tn → ft k = (nI (T k)).toInt8.toInt32) (h256 : ∀ k, T k < 256) (hpn : pn ≤ 20) (hpl : ∀ k, k < pn → inP (d1 k) ∧ inP (d2 k)) (h : linP T tn) : CtI l g yX9_line wsX9_line rm_X9_line [.ref mo] [gO mo 9 [.int th, .ref zt, .int (nI tn), .int (nI sz), .ref zx, .ref zy, .ref zm, .ref zb, .int rt, .int w0, .int w1, .int w2, .int lg, .int nr, .int (nI yr), .ref va, .ref vb, .ref vc, .ref vd, .ref qa, .ref qb, .ref qc, .int (nI ln), .ref sa, .ref sb, .ref sc, .ref sd, .ref se, .int (nI pn), .ref ma, .ref mb, .ref mc, .ref rv, .int (nI mn), .int tol, .int (nI rn)], gB g zt 200 ft, gI g zx 144 fx, gI g zy 144 fy, gI g zm 3 fm, gI g sa 20 d1, gI g sb 20 d2, gI g sc 20 d3, gI g sd 20 d4, gI g se 20 d5] (fun (r : Int32) (u : (Nat → Int32) × (Nat → Int32)) => r = 1 ∧ lineW (tn / 4) (linX T) fx u.1 ∧ lineW (tn / 4) (linY T) fy u.2) (fun (u : (Nat → Int32) × (Nat → Int32)) => [gO mo 9 [.int 0, .ref zt, .int 0, .int (nI tn), .ref zx, .ref zy, .ref zm, .ref zb, .int rt, .int w0, .int w1, .int w2, .int lg, .int nr, .int 0, .ref va, .ref vb, .ref vc, .ref vd, .ref qa, .ref qb, .ref qc, .int 0, .ref sa, .ref sb, .ref sc, .ref sd, .ref se, .int (nI pn), .ref ma, .ref mb, .ref mc, .ref rv, .int (nI mn), .int tol, .int (nI rn)], gB g zt 200 ft, gI g zx 144 u.1, gI g zy 144 u.2, gI g zm 3 (upd (upd fm 2 (nI (tn / 4))) 0 (nI (tn / 4))), gI g sa 20 d1, gI g sb 20 d2, gI g sc 20 (setR d3 (sdR (linX T) (linY T) (tn / 4) d1 d2) pn), gI g sd 20 (setR d4 (fun _ => 0) pn), gI g se 20 d5]) := by
  refine CtI.of (cc := cX9_line) (maxL := 2) (ret := .boolean) (by decide) rfl (Nat.le_of_ble_eq_true rfl) ?_
  intro p e s m args below meth c A Q hnm F hK hA hP hD hS hret ls hl
  have hx := F.1
  have hb := F.2.1
  have hl : lv_has ls 2 [(0, .ref mo)] := hl
  have hl1 := h.1.1
  have hl2 := h.1.2.1
  have hl3 := h.1.2.2
  have hlo := lin_ok h
  refine lv_aload_n hx hb dX9_line_0 rfl (lv_at hl 0 rfl) ?_
  refine lv_iconst (v := 0) hx hb dX9_line_1 (by decide) ?_
  refine g_put (C := RX9) (T := TX9) (N := 36) (ws2 := [gO mo 9 [.int 0, .ref zt, .int (nI tn), .int (nI sz), .ref zx, .ref zy, .ref zm, .ref zb, .int rt, .int w0, .int w1, .int w2, .int lg, .int nr, .int (nI yr), .ref va, .ref vb, .ref vc, .ref vd, .ref qa, .ref qb, .ref qc, .int (nI ln), .ref sa, .ref sb, .ref sc, .ref sd, .ref se, .int (nI pn), .ref ma, .ref mb, .ref mc, .ref rv, .int (nI mn), .int tol, .int (nI rn)], gB g zt 200 ft, gI g zx 144 fx, gI g zy 144 fy, gI g zm 3 fm, gI g sa 20 d1, gI g sb 20 d2, gI g sc 20 d3, gI g sd 20 d4, gI g se 20 d5]) F hK hP hD hS i_X9_line_X9 tyX9 tyX9_ok nmX9 0 rfl rfl 0 (by decide) k_X9_line_f1 rfl (v := .int 0) rfl rfl (Nat.le_of_ble_eq_true rfl) rfl dX9_line_2 (fun H locs hP hD hS => ?_)
  refine lv_aload_n hx hb dX9_line_5 rfl (lv_at hl 0 rfl) ?_
  refine g_VV (wr := [gB g zt 200 ft, gI g zx 144 fx, gI g zy 144 fy, gI g zm 3 fm, gI g sa 20 d1, gI g sb 20 d2, gI g sc 20 d3, gI g sd 20 d4, gI g se 20 d5]) (As := []) (rest := []) (n := 0) F (c_X9_taken l g mo 0 zt tn sz zx zy zm zb rt w0 w1 w2 lg nr yr va vb vc vd qa qb qc ln sa sb sc sd se pn ma mb mc rv mn tol rn) gX9_line_X9_taken rfl (by decide) ⟨by decide, by decide⟩ 0 9 rfl rfl rfl rfl hl.1 rfl (Nat.le_of_ble_eq_true rfl) dX9_line_6 ⟨Nat.le_of_ble_eq_true rfl, Nat.le_of_ble_eq_true rfl⟩ hK hP hD hS hA [0] [1, 2, 3, 4, 5, 6, 7, 8, 9] (by decide) rfl rfl (by decide) (by decide) (fun u_6 H locs hw_6 hP hD hS => ?_)
  have hP : gP g [gB g zt 200 ft, gI g zx 144 fx, gI g zy 144 fy, gI g zm 3 fm, gI g sa 20 d1, gI g sb 20 d2, gI g sc 20 d3, gI g sd 20 d4, gI g se 20 d5, gO mo 9 [.int 0, .ref zt, .int 0, .int (nI tn), .ref zx, .ref zy, .ref zm, .ref zb, .int rt, .int w0, .int w1, .int w2, .int lg, .int nr, .int (nI yr), .ref va, .ref vb, .ref vc, .ref vd, .ref qa, .ref qb, .ref qc, .int (nI ln), .ref sa, .ref sb, .ref sc, .ref sd, .ref se, .int (nI pn), .ref ma, .ref mb, .ref mc, .ref rv, .int (nI mn), .int tol, .int (nI rn)]] H := hP
  have hD : va_D A [gB g zt 200 ft, gI g zx 144 fx, gI g zy 144 fy, gI g zm 3 fm, gI g sa 20 d1, gI g sb 20 d2, gI g sc 20 d3, gI g sd 20 d4, gI g se 20 d5, gO mo 9 [.int 0, .ref zt, .int 0, .int (nI tn), .ref zx, .ref zy, .ref zm, .ref zb, .int rt, .int w0, .int w1, .int w2, .int lg, .int nr, .int (nI yr), .ref va, .ref vb, .ref vc, .ref vd, .ref qa, .ref qb, .ref qc, .int (nI ln), .ref sa, .ref sb, .ref sc, .ref sd, .ref se, .int (nI pn), .ref ma, .ref mb, .ref mc, .ref rv, .int (nI mn), .int tol, .int (nI rn)]] := hD
  refine lv_aload_n hx hb dX9_line_9 rfl (lv_at hl 0 rfl) ?_
  refine g_get (C := RX9) (T := TX9) (N := 36) F hK hP i_X9_line_X9 9 rfl rfl 3 (by decide) k_X9_line_f18 (v := .int (nI tn)) rfl dX9_line_10 ?_
  refine lv_iconst (v := 4) hx hb dX9_line_13 (by decide) ?_
  refine n_irem (a := tn) (b := 4) (d := tn % 4) hx hb dX9_line_14 (by omega) (by decide) (by decide) (rfl) ?_
  refine n_if_ne (a := tn % 4) (tgt := 37) hx hb dX9_line_15 (by decide) (by omega) (fun h => absurd hl1 h) (fun c_15 => ?_)
  refine lv_aload_n hx hb dX9_line_18 rfl (lv_at hl 0 rfl) ?_
  refine g_get (C := RX9) (T := TX9) (N := 36) F hK hP i_X9_line_X9 9 rfl rfl 3 (by decide) k_X9_line_f18 (v := .int (nI tn)) rfl dX9_line_19 ?_
  refine lv_bipush (v := 16) hx hb dX9_line_22 (by decide) ?_
  refine n_icmp_lt (a := tn) (b := 16) (tgt := 37) hx hb dX9_line_24 (by decide) (by omega) (by omega) (fun h => absurd h (by omega)) (fun c_24 => ?_)
  refine lv_aload_n hx hb dX9_line_27 rfl (lv_at hl 0 rfl) ?_
  refine g_get (C := RX9) (T := TX9) (N := 36) F hK hP i_X9_line_X9 9 rfl rfl 3 (by decide) k_X9_line_f18 (v := .int (nI tn)) rfl dX9_line_28 ?_
  refine lv_sipush (v := 192) hx hb dX9_line_31 (by decide) ?_
  refine n_icmp_le (a := tn) (b := 192) (tgt := 39) hx hb dX9_line_34 (by decide) (by omega) (by omega) (fun c_34 => ?_) (fun h => absurd h (by omega))
  refine lv_iconst (v := 0) hx hb dX9_line_39 (by decide) ?_
  refine lv_istore_n (lv' := [(1, .int 0), (0, .ref mo)]) hx hb dX9_line_40 rfl hl (by decide) rfl (fun ls hl => ?_)
  have L41 : ∀ (fuel : Nat) (a : Nat) (k : Nat) (ls : Array Slot) (H : Heap) (locs : List Loc), 200 - a < fuel → (a = 2 * k) → (a ≤ tn) → lv_has ls 2 [(0, .ref mo), (1, .int (nI a))] → gP g [gO mo 9 [.int 0, .ref zt, .int 0, .int (nI tn), .ref zx, .ref zy, .ref zm, .ref zb, .int rt, .int w0, .int w1, .int w2, .int lg, .int nr, .int (nI yr), .ref va, .ref vb, .ref vc, .ref vd, .ref qa, .ref qb, .ref qc, .int (nI ln), .ref sa, .ref sb, .ref sc, .ref sd, .ref se, .int (nI pn), .ref ma, .ref mb, .ref mc, .ref rv, .int (nI mn), .int tol, .int (nI rn)], gB g zt 200 ft, gI g zx 144 fx, gI g zy 144 fy, gI g zm 3 fm, gI g sa 20 d1, gI g sb 20 d2, gI g sc 20 d3, gI g sd 20 d4, gI g se 20 d5] H → va_D A [gO mo 9 [.int 0, .ref zt, .int 0, .int (nI tn), .ref zx, .ref zy, .ref zm, .ref zb, .int rt, .int w0, .int w1, .int w2, .int lg, .int nr, .int (nI yr), .ref va, .ref vb, .ref vc, .ref vd, .ref qa, .ref qb, .ref qc, .int (nI ln), .ref sa, .ref sb, .ref sc, .ref sd, .ref se, .int (nI pn), .ref ma, .ref mb, .ref mc, .ref rv, .int (nI mn), .int tol, .int (nI rn)], gB g zt 200 ft, gI g zx 144 fx, gI g zy 144 fy, gI g zm 3 fm, gI g sa 20 d1, gI g sb 20 d2, gI g sc 20 d3, gI g sd 20 d4, gI g se 20 d5] → va_S A s.heap H locs → W p l e rm_X9_line s m args below meth c H locs 0 0 Q (F0 m 41 ls []) := by
    intro fuel
    induction fuel with
    | zero => intro a k _ _ _ hk; exact absurd hk (Nat.not_lt_zero _)
    | succ fuel_41 ih_41 =>
      intro a k ls H locs hk_41 ha hat hl hP hD hS
      refine lv_iload_n hx hb dX9_line_41 rfl (lv_at hl 1 rfl) ?_
      refine lv_aload_n hx hb dX9_line_42 rfl (lv_at hl 0 rfl) ?_
      refine g_get (C := RX9) (T := TX9) (N := 36) F hK hP i_X9_line_X9 0 rfl rfl 3 (by decide) k_X9_line_f18 (v := .int (nI tn)) rfl dX9_line_43 ?_
      refine n_icmp_ge (a := a) (b := tn) (tgt := 68) hx hb dX9_line_46 (by decide) (by omega) (by omega) (fun c_46 => ?_) (fun c_46 => ?_)
      · refine lv_aload_n hx hb dX9_line_68 rfl (lv_at hl 0 rfl) ?_
        refine g_get (C := RX9) (T := TX9) (N := 36) F hK hP i_X9_line_X9 0 rfl rfl 6 (by decide) k_X9_line_f34 (v := .ref zm) rfl dX9_line_69 ?_
        refine lv_iconst (v := 2) hx hb dX9_line_72 (by decide) ?_
        refine lv_aload_n hx hb dX9_line_73 rfl (lv_at hl 0 rfl) ?_
        refine g_get (C := RX9) (T := TX9) (N := 36) F hK hP i_X9_line_X9 0 rfl rfl 3 (by decide) k_X9_line_f18 (v := .int (nI tn)) rfl dX9_line_74 ?_
        refine lv_iconst (v := 4) hx hb dX9_line_77 (by decide) ?_
        refine n_idiv (a := tn) (b := 4) (d := tn / 4) hx hb dX9_line_78 (by omega) (by decide) (by decide) (rfl) ?_
        refine g_iast (i := 2) (ws2 := [gO mo 9 [.int 0, .ref zt, .int 0, .int (nI tn), .ref zx, .ref zy, .ref zm, .ref zb, .int rt, .int w0, .int w1, .int w2, .int lg, .int nr, .int (nI yr), .ref va, .ref vb, .ref vc, .ref vd, .ref qa, .ref qb, .ref qc, .int (nI ln), .ref sa, .ref sb, .ref sc, .ref sd, .ref se, .int (nI pn), .ref ma, .ref mb, .ref mc, .ref rv, .int (nI mn), .int tol, .int (nI rn)], gB g zt 200 ft, gI g zx 144 fx, gI g zy 144 fy, gI g zm 3 (upd fm 2 (nI (tn / 4))), gI g sa 20 d1, gI g sb 20 d2, gI g sc 20 d3, gI g sd 20 d4, gI g se 20 d5]) hx hb hK hP hD hS 4 rfl (by decide) (by omega) rfl dX9_line_79 (fun H locs hP hD hS => ?_)
        refine lv_iconst (v := 0) hx hb dX9_line_80 (by decide) ?_
        refine lv_istore_n (lv' := [(1, .int 0), (0, .ref mo)]) hx hb dX9_line_81 rfl hl (by decide) rfl (fun ls hl => ?_)
        have L82 : ∀ (fuel : Nat) (k : Nat) (gx : Nat → Int32) (gy : Nat → Int32) (ls : Array Slot) (H : Heap) (locs : List Loc), 49 - k < fuel → (k ≤ tn / 4) → (lnW 2 k (linX T) fx gx) → (lnW 2 k (linY T) fy gy) → lv_has ls 2 [(0, .ref mo), (1, .int (nI k))] → gP g [gO mo 9 [.int 0, .ref zt, .int 0, .int (nI tn), .ref zx, .ref zy, .ref zm, .ref zb, .int rt, .int w0, .int w1, .int w2, .int lg, .int nr, .int (nI yr), .ref va, .ref vb, .ref vc, .ref vd, .ref qa, .ref qb, .ref qc, .int (nI ln), .ref sa, .ref sb, .ref sc, .ref sd, .ref se, .int (nI pn), .ref ma, .ref mb, .ref mc, .ref rv, .int (nI mn), .int tol, .int (nI rn)], gB g zt 200 ft, gI g zx 144 gx, gI g zy 144 gy, gI g zm 3 (upd fm 2 (nI (tn / 4))), gI g sa 20 d1, gI g sb 20 d2, gI g sc 20 d3, gI g sd 20 d4, gI g se 20 d5] H → va_D A [gO mo 9 [.int 0, .ref zt, .int 0, .int (nI tn), .ref zx, .ref zy, .ref zm, .ref zb, .int rt, .int w0, .int w1, .int w2, .int lg, .int nr, .int (nI yr), .ref va, .ref vb, .ref vc, .ref vd, .ref qa, .ref qb, .ref qc, .int (nI ln), .ref sa, .ref sb, .ref sc, .ref sd, .ref se, .int (nI pn), .ref ma, .ref mb, .ref mc, .ref rv, .int (nI mn), .int tol, .int (nI rn)], gB g zt 200 ft, gI g zx 144 gx, gI g zy 144 gy, gI g zm 3 (upd fm 2 (nI (tn / 4))), gI g sa 20 d1, gI g sb 20 d2, gI g sc 20 d3, gI g sd 20 d4, gI g se 20 d5] → va_S A s.heap H locs → W p l e rm_X9_line s m args below meth c H locs 0 0 Q (F0 m 82 ls []) := by
          intro fuel
          induction fuel with
          | zero => intro k gx gy _ _ _ hk; exact absurd hk (Nat.not_lt_zero _)
          | succ fuel_82 ih_82 =>
            intro k gx gy ls H locs hk_82 hk a1 a2 hl hP hD hS
            refine lv_iload_n hx hb dX9_line_82 rfl (lv_at hl 1 rfl) ?_
            refine lv_aload_n hx hb dX9_line_83 rfl (lv_at hl 0 rfl) ?_
            refine g_get (C := RX9) (T := TX9) (N := 36) F hK hP i_X9_line_X9 0 rfl rfl 3 (by decide) k_X9_line_f18 (v := .int (nI tn)) rfl dX9_line_84 ?_
            refine lv_iconst (v := 4) hx hb dX9_line_87 (by decide) ?_
            refine n_idiv (a := tn) (b := 4) (d := tn / 4) hx hb dX9_line_88 (by omega) (by decide) (by decide) (rfl) ?_
            refine n_icmp_ge (a := k) (b := tn / 4) (tgt := 132) hx hb dX9_line_89 (by decide) (by omega) (by omega) (fun c_89 => ?_) (fun c_89 => ?_)
            · obtain rfl : tn / 4 = k := by omega
              refine lv_aload_n hx hb dX9_line_132 rfl (lv_at hl 0 rfl) ?_
              refine lv_iconst (v := 2) hx hb dX9_line_133 (by decide) ?_
              refine lv_iconst (v := 0) hx hb dX9_line_134 (by decide) ?_
              refine g_VV (wr := [gB g zt 200 ft, gI g sa 20 d1, gI g sb 20 d2, gI g sc 20 d3, gI g sd 20 d4, gI g se 20 d5]) (As := [.int 2, .int 0]) (rest := []) (n := 2) F (c_X9_copy l g mo 0 zt 0 tn zx zy zm zb rt w0 w1 w2 lg nr yr va vb vc vd qa qb qc ln sa sb sc sd se pn ma mb mc rv mn tol rn 2 0 (tn / 4) (upd fm 2 (nI (tn / 4))) gx gy (linX T) (linY T) (by decide) (by decide) (by decide) (pk_us) (hl3) (a1.1) (a2.1)) gX9_line_X9_copy rfl (by decide) ⟨by decide, by decide⟩ 0 9 rfl rfl rfl rfl hl.1 rfl (Nat.le_of_ble_eq_true rfl) dX9_line_135 ⟨Nat.le_of_ble_eq_true rfl, Nat.le_of_ble_eq_true rfl⟩ hK hP hD hS hA [0, 2, 3, 4] [1, 5, 6, 7, 8, 9] (by decide) rfl rfl (by decide) (by decide) (fun u_135 H locs hw_135 hP hD hS => ?_)
              obtain ⟨fx2_135, fy2_135⟩ := u_135
              have hP : gP g [gB g zt 200 ft, gI g sa 20 d1, gI g sb 20 d2, gI g sc 20 d3, gI g sd 20 d4, gI g se 20 d5, gO mo 9 [.int 0, .ref zt, .int (nI 0), .int (nI tn), .ref zx, .ref zy, .ref zm, .ref zb, .int rt, .int w0, .int w1, .int w2, .int lg, .int nr, .int (nI yr), .ref va, .ref vb, .ref vc, .ref vd, .ref qa, .ref qb, .ref qc, .int (nI ln), .ref sa, .ref sb, .ref sc, .ref sd, .ref se, .int (nI pn), .ref ma, .ref mb, .ref mc, .ref rv, .int (nI mn), .int tol, .int (nI rn)], gI g zx 144 fx2_135, gI g zy 144 fy2_135, gI g zm 3 (upd (upd fm 2 (nI (tn / 4))) 0 (nI (tn / 4)))] H := hP
              have hD : va_D A [gB g zt 200 ft, gI g sa 20 d1, gI g sb 20 d2, gI g sc 20 d3, gI g sd 20 d4, gI g se 20 d5, gO mo 9 [.int 0, .ref zt, .int (nI 0), .int (nI tn), .ref zx, .ref zy, .ref zm, .ref zb, .int rt, .int w0, .int w1, .int w2, .int lg, .int nr, .int (nI yr), .ref va, .ref vb, .ref vc, .ref vd, .ref qa, .ref qb, .ref qc, .int (nI ln), .ref sa, .ref sb, .ref sc, .ref sd, .ref se, .int (nI pn), .ref ma, .ref mb, .ref mc, .ref rv, .int (nI mn), .int tol, .int (nI rn)], gI g zx 144 fx2_135, gI g zy 144 fy2_135, gI g zm 3 (upd (upd fm 2 (nI (tn / 4))) 0 (nI (tn / 4)))] := hD
              try dsimp only at hw_135
              obtain ⟨hx2_135, hy2_135⟩ := hw_135
              refine lv_aload_n hx hb dX9_line_138 rfl (lv_at hl 0 rfl) ?_
              refine lv_iconst (v := 0) hx hb dX9_line_139 (by decide) ?_
              refine g_put (C := RX9) (T := TX9) (N := 36) (ws2 := [gB g zt 200 ft, gI g sa 20 d1, gI g sb 20 d2, gI g sc 20 d3, gI g sd 20 d4, gI g se 20 d5, gO mo 9 [.int 0, .ref zt, .int (nI 0), .int (nI tn), .ref zx, .ref zy, .ref zm, .ref zb, .int rt, .int w0, .int w1, .int w2, .int lg, .int nr, .int 0, .ref va, .ref vb, .ref vc, .ref vd, .ref qa, .ref qb, .ref qc, .int (nI ln), .ref sa, .ref sb, .ref sc, .ref sd, .ref se, .int (nI pn), .ref ma, .ref mb, .ref mc, .ref rv, .int (nI mn), .int tol, .int (nI rn)], gI g zx 144 fx2_135, gI g zy 144 fy2_135, gI g zm 3 (upd (upd fm 2 (nI (tn / 4))) 0 (nI (tn / 4)))]) F hK hP hD hS i_X9_line_X9 tyX9 tyX9_ok nmX9 6 rfl rfl 14 (by decide) k_X9_line_f120 rfl (v := .int 0) rfl rfl (Nat.le_of_ble_eq_true rfl) rfl dX9_line_140 (fun H locs hP hD hS => ?_)
              refine lv_aload_n hx hb dX9_line_143 rfl (lv_at hl 0 rfl) ?_
              refine lv_iconst (v := 0) hx hb dX9_line_144 (by decide) ?_
              refine g_put (C := RX9) (T := TX9) (N := 36) (ws2 := [gB g zt 200 ft, gI g sa 20 d1, gI g sb 20 d2, gI g sc 20 d3, gI g sd 20 d4, gI g se 20 d5, gO mo 9 [.int 0, .ref zt, .int (nI 0), .int (nI tn), .ref zx, .ref zy, .ref zm, .ref zb, .int rt, .int w0, .int w1, .int w2, .int lg, .int nr, .int 0, .ref va, .ref vb, .ref vc, .ref vd, .ref qa, .ref qb, .ref qc, .int 0, .ref sa, .ref sb, .ref sc, .ref sd, .ref se, .int (nI pn), .ref ma, .ref mb, .ref mc, .ref rv, .int (nI mn), .int tol, .int (nI rn)], gI g zx 144 fx2_135, gI g zy 144 fy2_135, gI g zm 3 (upd (upd fm 2 (nI (tn / 4))) 0 (nI (tn / 4)))]) F hK hP hD hS i_X9_line_X9 tyX9 tyX9_ok nmX9 6 rfl rfl 22 (by decide) k_X9_line_f123 rfl (v := .int 0) rfl rfl (Nat.le_of_ble_eq_true rfl) rfl dX9_line_145 (fun H locs hP hD hS => ?_)
              refine lv_iconst (v := 0) hx hb dX9_line_148 (by decide) ?_
              refine lv_istore_n (lv' := [(1, .int 0), (0, .ref mo)]) hx hb dX9_line_149 rfl hl (by decide) rfl (fun ls hl => ?_)
              have L150 : ∀ (fuel : Nat) (k : Nat) (w3 : Nat → Int32) (w4 : Nat → Int32) (ls : Array Slot) (H : Heap) (locs : List Loc), pn - k < fuel → (k ≤ pn) → (w3 = setR d3 (sdR (linX T) (linY T) (tn / 4) d1 d2) k) → (w4 = setR d4 (fun _ => 0) k) → lv_has ls 2 [(0, .ref mo), (1, .int (nI k))] → gP g [gO mo 9 [.int 0, .ref zt, .int 0, .int (nI tn), .ref zx, .ref zy, .ref zm, .ref zb, .int rt, .int w0, .int w1, .int w2, .int lg, .int nr, .int 0, .ref va, .ref vb, .ref vc, .ref vd, .ref qa, .ref qb, .ref qc, .int 0, .ref sa, .ref sb, .ref sc, .ref sd, .ref se, .int (nI pn), .ref ma, .ref mb, .ref mc, .ref rv, .int (nI mn), .int tol, .int (nI rn)], gB g zt 200 ft, gI g zx 144 fx2_135, gI g zy 144 fy2_135, gI g zm 3 (upd (upd fm 2 (nI (tn / 4))) 0 (nI (tn / 4))), gI g sa 20 d1, gI g sb 20 d2, gI g sc 20 w3, gI g sd 20 w4, gI g se 20 d5] H → va_D A [gO mo 9 [.int 0, .ref zt, .int 0, .int (nI tn), .ref zx, .ref zy, .ref zm, .ref zb, .int rt, .int w0, .int w1, .int w2, .int lg, .int nr, .int 0, .ref va, .ref vb, .ref vc, .ref vd, .ref qa, .ref qb, .ref qc, .int 0, .ref sa, .ref sb, .ref sc, .ref sd, .ref se, .int (nI pn), .ref ma, .ref mb, .ref mc, .ref rv, .int (nI mn), .int tol, .int (nI rn)], gB g zt 200 ft, gI g zx 144 fx2_135, gI g zy 144 fy2_135, gI g zm 3 (upd (upd fm 2 (nI (tn / 4))) 0 (nI (tn / 4))), gI g sa 20 d1, gI g sb 20 d2, gI g sc 20 w3, gI g sd 20 w4, gI g se 20 d5] → va_S A s.heap H locs → W p l e rm_X9_line s m args below meth c H locs 0 0 Q (F0 m 150 ls []) := by
                intro fuel
                induction fuel with
                | zero => intro k w3 w4 _ _ _ hk; exact absurd hk (Nat.not_lt_zero _)
                | succ fuel_150 ih_150 =>
                  intro k w3 w4 ls H locs hk_150 hk h3 h4 hl hP hD hS
                  refine lv_iload_n hx hb dX9_line_150 rfl (lv_at hl 1 rfl) ?_
                  refine lv_aload_n hx hb dX9_line_151 rfl (lv_at hl 0 rfl) ?_
                  refine g_get (C := RX9) (T := TX9) (N := 36) F hK hP i_X9_line_X9 0 rfl rfl 28 (by decide) k_X9_line_f126 (v := .int (nI pn)) rfl dX9_line_152 ?_
                  refine n_icmp_ge (a := k) (b := pn) (tgt := 194) hx hb dX9_line_155 (by decide) (by omega) (by omega) (fun c_155 => ?_) (fun c_155 => ?_)
                  · obtain rfl : pn = k := by omega
                    obtain rfl : setR d3 (sdR (linX T) (linY T) (tn / 4) d1 d2) pn = w3 := h3.symm
                    obtain rfl : setR d4 (fun _ => 0) pn = w4 := h4.symm
                    refine lv_iconst (v := 1) hx hb dX9_line_194 (by decide) ?_
                    exact hret _ _ _ _ 1 (fx2_135, fy2_135) dX9_line_195 rfl (⟨rfl, lineW_of hl3 a1 hx2_135, lineW_of hl3 a2 hy2_135⟩) hP hD hS
                  · refine lv_aload_n hx hb dX9_line_158 rfl (lv_at hl 0 rfl) ?_
                    refine g_get (C := RX9) (T := TX9) (N := 36) F hK hP i_X9_line_X9 0 rfl rfl 25 (by decide) k_X9_line_f85 (v := .ref sc) rfl dX9_line_159 ?_
                    refine lv_iload_n hx hb dX9_line_162 rfl (lv_at hl 1 rfl) ?_
                    refine lv_aload_n hx hb dX9_line_163 rfl (lv_at hl 0 rfl) ?_
                    refine lv_iconst (v := 0) hx hb dX9_line_164 (by decide) ?_
                    refine lv_aload_n hx hb dX9_line_165 rfl (lv_at hl 0 rfl) ?_
                    refine g_get (C := RX9) (T := TX9) (N := 36) F hK hP i_X9_line_X9 0 rfl rfl 23 (by decide) k_X9_line_f79 (v := .ref sa) rfl dX9_line_166 ?_
                    refine lv_iload_n hx hb dX9_line_169 rfl (lv_at hl 1 rfl) ?_
                    refine g_iald (i := k) (v := (d1 k)) hx hb hK hP 5 rfl (by decide) (by omega) (rfl) dX9_line_170 ?_
                    refine lv_aload_n hx hb dX9_line_171 rfl (lv_at hl 0 rfl) ?_
                    refine g_get (C := RX9) (T := TX9) (N := 36) F hK hP i_X9_line_X9 0 rfl rfl 24 (by decide) k_X9_line_f82 (v := .ref sb) rfl dX9_line_172 ?_
                    refine lv_iload_n hx hb dX9_line_175 rfl (lv_at hl 1 rfl) ?_
                    refine g_iald (i := k) (v := (d2 k)) hx hb hK hP 6 rfl (by decide) (by omega) (rfl) dX9_line_176 ?_
                    refine g_VI (wr := [gB g zt 200 ft, gI g sa 20 d1, gI g sb 20 d2, gI g sc 20 w3, gI g sd 20 w4, gI g se 20 d5]) (As := [.int 0, .int (d1 k), .int (d2 k)]) (rest := [.int (nI k), .ref sc]) (n := 3) F (c_X9_sideOf l g mo 0 zt 0 tn zx zy zm zb rt w0 w1 w2 lg nr 0 va vb vc vd qa qb qc 0 sa sb sc sd se pn ma mb mc rv mn tol rn 0 (tn / 4) (upd (upd fm 2 (nI (tn / 4))) 0 (nI (tn / 4))) fx2_135 fy2_135 (linX T) (linY T) (d1 k) (d2 k) (by decide) (pk_us) (hl3) (hx2_135.1) (hy2_135.1) (by omega) (hlo.2.2) ((hpl k (by omega)).1) ((hpl k (by omega)).2)) gX9_line_X9_sideOf rfl (by decide) ⟨by decide, by decide⟩ 0 9 rfl rfl rfl rfl hl.1 rfl (Nat.le_of_ble_eq_true rfl) dX9_line_177 ⟨Nat.le_of_ble_eq_true rfl, Nat.le_of_ble_eq_true rfl⟩ hK hP hD hS hA [0, 2, 3, 4] [1, 5, 6, 7, 8, 9] (by decide) rfl rfl (by decide) (by decide) (fun r_177 u_177 H locs hw_177 hP hD hS => ?_)
                    have hP : gP g [gB g zt 200 ft, gI g sa 20 d1, gI g sb 20 d2, gI g sc 20 w3, gI g sd 20 w4, gI g se 20 d5, gO mo 9 [.int 0, .ref zt, .int (nI 0), .int (nI tn), .ref zx, .ref zy, .ref zm, .ref zb, .int rt, .int w0, .int w1, .int w2, .int lg, .int nr, .int (nI 0), .ref va, .ref vb, .ref vc, .ref vd, .ref qa, .ref qb, .ref qc, .int (nI 0), .ref sa, .ref sb, .ref sc, .ref sd, .ref se, .int (nI pn), .ref ma, .ref mb, .ref mc, .ref rv, .int (nI mn), .int tol, .int (nI rn)], gI g zx 144 fx2_135, gI g zy 144 fy2_135, gI g zm 3 (upd (upd fm 2 (nI (tn / 4))) 0 (nI (tn / 4)))] H := hP
                    have hD : va_D A [gB g zt 200 ft, gI g sa 20 d1, gI g sb 20 d2, gI g sc 20 w3, gI g sd 20 w4, gI g se 20 d5, gO mo 9 [.int 0, .ref zt, .int (nI 0), .int (nI tn), .ref zx, .ref zy, .ref zm, .ref zb, .int rt, .int w0, .int w1, .int w2, .int lg, .int nr, .int (nI 0), .ref va, .ref vb, .ref vc, .ref vd, .ref qa, .ref qb, .ref qc, .int (nI 0), .ref sa, .ref sb, .ref sc, .ref sd, .ref se, .int (nI pn), .ref ma, .ref mb, .ref mc, .ref rv, .int (nI mn), .int tol, .int (nI rn)], gI g zx 144 fx2_135, gI g zy 144 fy2_135, gI g zm 3 (upd (upd fm 2 (nI (tn / 4))) 0 (nI (tn / 4)))] := hD
                    obtain rfl := hw_177
                    refine g_iast (i := k) (ws2 := [gB g zt 200 ft, gI g sa 20 d1, gI g sb 20 d2, gI g sc 20 (upd w3 k (nI (sideS (linX T) (linY T) (tn / 4) (d1 k) (d2 k)))), gI g sd 20 w4, gI g se 20 d5, gO mo 9 [.int 0, .ref zt, .int (nI 0), .int (nI tn), .ref zx, .ref zy, .ref zm, .ref zb, .int rt, .int w0, .int w1, .int w2, .int lg, .int nr, .int (nI 0), .ref va, .ref vb, .ref vc, .ref vd, .ref qa, .ref qb, .ref qc, .int (nI 0), .ref sa, .ref sb, .ref sc, .ref sd, .ref se, .int (nI pn), .ref ma, .ref mb, .ref mc, .ref rv, .int (nI mn), .int tol, .int (nI rn)], gI g zx 144 fx2_135, gI g zy 144 fy2_135, gI g zm 3 (upd (upd fm 2 (nI (tn / 4))) 0 (nI (tn / 4)))]) hx hb hK hP hD hS 3 rfl (by decide) (by omega) rfl dX9_line_180 (fun H locs hP hD hS => ?_)
                    refine lv_aload_n hx hb dX9_line_181 rfl (lv_at hl 0 rfl) ?_
                    refine g_get (C := RX9) (T := TX9) (N := 36) F hK hP i_X9_line_X9 6 rfl rfl 26 (by decide) k_X9_line_f88 (v := .ref sd) rfl dX9_line_182 ?_
                    refine lv_iload_n hx hb dX9_line_185 rfl (lv_at hl 1 rfl) ?_
                    refine lv_iconst (v := 0) hx hb dX9_line_186 (by decide) ?_
                    refine g_iast (i := k) (ws2 := [gB g zt 200 ft, gI g sa 20 d1, gI g sb 20 d2, gI g sc 20 (upd w3 k (nI (sideS (linX T) (linY T) (tn / 4) (d1 k) (d2 k)))), gI g sd 20 (upd w4 k 0), gI g se 20 d5, gO mo 9 [.int 0, .ref zt, .int (nI 0), .int (nI tn), .ref zx, .ref zy, .ref zm, .ref zb, .int rt, .int w0, .int w1, .int w2, .int lg, .int nr, .int (nI 0), .ref va, .ref vb, .ref vc, .ref vd, .ref qa, .ref qb, .ref qc, .int (nI 0), .ref sa, .ref sb, .ref sc, .ref sd, .ref se, .int (nI pn), .ref ma, .ref mb, .ref mc, .ref rv, .int (nI mn), .int tol, .int (nI rn)], gI g zx 144 fx2_135, gI g zy 144 fy2_135, gI g zm 3 (upd (upd fm 2 (nI (tn / 4))) 0 (nI (tn / 4)))]) hx hb hK hP hD hS 4 rfl (by decide) (by omega) rfl dX9_line_187 (fun H locs hP hD hS => ?_)
                    refine lv_iinc (v := (nI (k + 1))) (lv' := [(1, .int (nI (k + 1))), (0, .ref mo)]) hx hb dX9_line_188 hl (k := 1) rfl (g_inc k 1 (by decide)) (by decide) rfl (fun ls hl => ?_)
                    refine lv_goto (tgt := 150) hx hb dX9_line_191 (by decide) ?_
                    exact ih_150 (k + 1) (upd w3 k (nI (sideS (linX T) (linY T) (tn / 4) (d1 k) (d2 k)))) (upd w4 k 0) ls _ _ (by omega) (by omega) (by rw [h3]; exact setR_s _ (sdR (linX T) (linY T) (tn / 4) d1 d2) _) (by rw [h4]; exact setR_s _ (fun _ => 0) _) (lv_sub hl [1, 0] rfl) (hP.sub [6, 0, 7, 8, 9, 1, 2, 3, 4, 5] rfl) (hD.sub [6, 0, 7, 8, 9, 1, 2, 3, 4, 5] (by decide) rfl) hS
              exact L150 ((pn - 0) + 1) 0 d3 d4 ls _ _ (Nat.lt_succ_self _) (by omega) ((setR_0 _ _).symm) ((setR_0 _ _).symm) (lv_sub hl [1, 0] rfl) (hP.sub [6, 0, 7, 8, 9, 1, 2, 3, 4, 5] rfl) (hD.sub [6, 0, 7, 8, 9, 1, 2, 3, 4, 5] (by decide) rfl) hS
            · refine lv_aload_n hx hb dX9_line_92 rfl (lv_at hl 0 rfl) ?_
              refine g_get (C := RX9) (T := TX9) (N := 36) F hK hP i_X9_line_X9 0 rfl rfl 4 (by decide) k_X9_line_f27 (v := .ref zx) rfl dX9_line_93 ?_
              refine lv_bipush (v := 96) hx hb dX9_line_96 (by decide) ?_
              refine lv_iload_n hx hb dX9_line_98 rfl (lv_at hl 1 rfl) ?_
              refine n_iadd (a := 96) (b := k) (d := 96 + k) hx hb dX9_line_99 (by omega) ?_
              refine lv_aload_n hx hb dX9_line_100 rfl (lv_at hl 0 rfl) ?_
              refine lv_iconst (v := 4) hx hb dX9_line_101 (by decide) ?_
              refine lv_iload_n hx hb dX9_line_102 rfl (lv_at hl 1 rfl) ?_
              refine n_imul (a := 4) (b := k) (d := 4 * k) hx hb dX9_line_103 (rfl) ?_
              refine g_VI (wr := [gI g zx 144 gx, gI g zy 144 gy, gI g zm 3 (upd fm 2 (nI (tn / 4))), gI g sa 20 d1, gI g sb 20 d2, gI g sc 20 d3, gI g sd 20 d4, gI g se 20 d5]) (As := [.int (nI (4 * k))]) (rest := [.int (nI (96 + k)), .ref zx]) (n := 1) F (c_X9_two l g mo 0 zt 0 tn zx zy zm zb rt w0 w1 w2 lg nr yr va vb vc vd qa qb qc ln sa sb sc sd se pn ma mb mc rv mn tol rn ft T (4 * k) tn (htn) (hT) (h256) (by omega)) gX9_line_X9_two rfl (by decide) ⟨by decide, by decide⟩ 0 9 rfl rfl rfl rfl hl.1 rfl (Nat.le_of_ble_eq_true rfl) dX9_line_104 ⟨Nat.le_of_ble_eq_true rfl, Nat.le_of_ble_eq_true rfl⟩ hK hP hD hS hA [0, 1] [2, 3, 4, 5, 6, 7, 8, 9] (by decide) rfl rfl (by decide) (by decide) (fun r_104 u_104 H locs hw_104 hP hD hS => ?_)
              have hP : gP g [gI g zx 144 gx, gI g zy 144 gy, gI g zm 3 (upd fm 2 (nI (tn / 4))), gI g sa 20 d1, gI g sb 20 d2, gI g sc 20 d3, gI g sd 20 d4, gI g se 20 d5, gO mo 9 [.int 0, .ref zt, .int (nI 0), .int (nI tn), .ref zx, .ref zy, .ref zm, .ref zb, .int rt, .int w0, .int w1, .int w2, .int lg, .int nr, .int (nI yr), .ref va, .ref vb, .ref vc, .ref vd, .ref qa, .ref qb, .ref qc, .int (nI ln), .ref sa, .ref sb, .ref sc, .ref sd, .ref se, .int (nI pn), .ref ma, .ref mb, .ref mc, .ref rv, .int (nI mn), .int tol, .int (nI rn)], gB g zt 200 ft] H := hP
              have hD : va_D A [gI g zx 144 gx, gI g zy 144 gy, gI g zm 3 (upd fm 2 (nI (tn / 4))), gI g sa 20 d1, gI g sb 20 d2, gI g sc 20 d3, gI g sd 20 d4, gI g se 20 d5, gO mo 9 [.int 0, .ref zt, .int (nI 0), .int (nI tn), .ref zx, .ref zy, .ref zm, .ref zb, .int rt, .int w0, .int w1, .int w2, .int lg, .int nr, .int (nI yr), .ref va, .ref vb, .ref vc, .ref vd, .ref qa, .ref qb, .ref qc, .int (nI ln), .ref sa, .ref sb, .ref sc, .ref sd, .ref se, .int (nI pn), .ref ma, .ref mb, .ref mc, .ref rv, .int (nI mn), .int tol, .int (nI rn)], gB g zt 200 ft] := hD
              obtain rfl := hw_104
              refine g_iast (i := 96 + k) (ws2 := [gI g zx 144 (upd gx (96 + k) (nI (T (4 * k) * 256 + T ((4 * k) + 1)))), gI g zy 144 gy, gI g zm 3 (upd fm 2 (nI (tn / 4))), gI g sa 20 d1, gI g sb 20 d2, gI g sc 20 d3, gI g sd 20 d4, gI g se 20 d5, gO mo 9 [.int 0, .ref zt, .int (nI 0), .int (nI tn), .ref zx, .ref zy, .ref zm, .ref zb, .int rt, .int w0, .int w1, .int w2, .int lg, .int nr, .int (nI yr), .ref va, .ref vb, .ref vc, .ref vd, .ref qa, .ref qb, .ref qc, .int (nI ln), .ref sa, .ref sb, .ref sc, .ref sd, .ref se, .int (nI pn), .ref ma, .ref mb, .ref mc, .ref rv, .int (nI mn), .int tol, .int (nI rn)], gB g zt 200 ft]) hx hb hK hP hD hS 0 rfl (by decide) (by omega) rfl dX9_line_107 (fun H locs hP hD hS => ?_)
              refine lv_aload_n hx hb dX9_line_108 rfl (lv_at hl 0 rfl) ?_
              refine g_get (C := RX9) (T := TX9) (N := 36) F hK hP i_X9_line_X9 8 rfl rfl 5 (by decide) k_X9_line_f31 (v := .ref zy) rfl dX9_line_109 ?_
              refine lv_bipush (v := 96) hx hb dX9_line_112 (by decide) ?_
              refine lv_iload_n hx hb dX9_line_114 rfl (lv_at hl 1 rfl) ?_
              refine n_iadd (a := 96) (b := k) (d := 96 + k) hx hb dX9_line_115 (by omega) ?_
              refine lv_aload_n hx hb dX9_line_116 rfl (lv_at hl 0 rfl) ?_
              refine lv_iconst (v := 4) hx hb dX9_line_117 (by decide) ?_
              refine lv_iload_n hx hb dX9_line_118 rfl (lv_at hl 1 rfl) ?_
              refine n_imul (a := 4) (b := k) (d := 4 * k) hx hb dX9_line_119 (rfl) ?_
              refine lv_iconst (v := 2) hx hb dX9_line_120 (by decide) ?_
              refine n_iadd (a := 4 * k) (b := 2) (d := 4 * k + 2) hx hb dX9_line_121 (by omega) ?_
              refine g_VI (wr := [gI g zx 144 (upd gx (96 + k) (nI (T (4 * k) * 256 + T ((4 * k) + 1)))), gI g zy 144 gy, gI g zm 3 (upd fm 2 (nI (tn / 4))), gI g sa 20 d1, gI g sb 20 d2, gI g sc 20 d3, gI g sd 20 d4, gI g se 20 d5]) (As := [.int (nI (4 * k + 2))]) (rest := [.int (nI (96 + k)), .ref zy]) (n := 1) F (c_X9_two l g mo 0 zt 0 tn zx zy zm zb rt w0 w1 w2 lg nr yr va vb vc vd qa qb qc ln sa sb sc sd se pn ma mb mc rv mn tol rn ft T (4 * k + 2) tn (htn) (hT) (h256) (by omega)) gX9_line_X9_two rfl (by decide) ⟨by decide, by decide⟩ 8 9 rfl rfl rfl rfl hl.1 rfl (Nat.le_of_ble_eq_true rfl) dX9_line_122 ⟨Nat.le_of_ble_eq_true rfl, Nat.le_of_ble_eq_true rfl⟩ hK hP hD hS hA [8, 9] [0, 1, 2, 3, 4, 5, 6, 7] (by decide) rfl rfl (by decide) (by decide) (fun r_122 u_122 H locs hw_122 hP hD hS => ?_)
              have hP : gP g [gI g zx 144 (upd gx (96 + k) (nI (T (4 * k) * 256 + T ((4 * k) + 1)))), gI g zy 144 gy, gI g zm 3 (upd fm 2 (nI (tn / 4))), gI g sa 20 d1, gI g sb 20 d2, gI g sc 20 d3, gI g sd 20 d4, gI g se 20 d5, gO mo 9 [.int 0, .ref zt, .int (nI 0), .int (nI tn), .ref zx, .ref zy, .ref zm, .ref zb, .int rt, .int w0, .int w1, .int w2, .int lg, .int nr, .int (nI yr), .ref va, .ref vb, .ref vc, .ref vd, .ref qa, .ref qb, .ref qc, .int (nI ln), .ref sa, .ref sb, .ref sc, .ref sd, .ref se, .int (nI pn), .ref ma, .ref mb, .ref mc, .ref rv, .int (nI mn), .int tol, .int (nI rn)], gB g zt 200 ft] H := hP
              have hD : va_D A [gI g zx 144 (upd gx (96 + k) (nI (T (4 * k) * 256 + T ((4 * k) + 1)))), gI g zy 144 gy, gI g zm 3 (upd fm 2 (nI (tn / 4))), gI g sa 20 d1, gI g sb 20 d2, gI g sc 20 d3, gI g sd 20 d4, gI g se 20 d5, gO mo 9 [.int 0, .ref zt, .int (nI 0), .int (nI tn), .ref zx, .ref zy, .ref zm, .ref zb, .int rt, .int w0, .int w1, .int w2, .int lg, .int nr, .int (nI yr), .ref va, .ref vb, .ref vc, .ref vd, .ref qa, .ref qb, .ref qc, .int (nI ln), .ref sa, .ref sb, .ref sc, .ref sd, .ref se, .int (nI pn), .ref ma, .ref mb, .ref mc, .ref rv, .int (nI mn), .int tol, .int (nI rn)], gB g zt 200 ft] := hD
              obtain rfl := hw_122
              refine g_iast (i := 96 + k) (ws2 := [gI g zx 144 (upd gx (96 + k) (nI (T (4 * k) * 256 + T ((4 * k) + 1)))), gI g zy 144 (upd gy (96 + k) (nI (T (4 * k + 2) * 256 + T ((4 * k + 2) + 1)))), gI g zm 3 (upd fm 2 (nI (tn / 4))), gI g sa 20 d1, gI g sb 20 d2, gI g sc 20 d3, gI g sd 20 d4, gI g se 20 d5, gO mo 9 [.int 0, .ref zt, .int (nI 0), .int (nI tn), .ref zx, .ref zy, .ref zm, .ref zb, .int rt, .int w0, .int w1, .int w2, .int lg, .int nr, .int (nI yr), .ref va, .ref vb, .ref vc, .ref vd, .ref qa, .ref qb, .ref qc, .int (nI ln), .ref sa, .ref sb, .ref sc, .ref sd, .ref se, .int (nI pn), .ref ma, .ref mb, .ref mc, .ref rv, .int (nI mn), .int tol, .int (nI rn)], gB g zt 200 ft]) hx hb hK hP hD hS 1 rfl (by decide) (by omega) rfl dX9_line_125 (fun H locs hP hD hS => ?_)
              refine lv_iinc (v := (nI (k + 1))) (lv' := [(1, .int (nI (k + 1))), (0, .ref mo)]) hx hb dX9_line_126 hl (k := 1) rfl (g_inc k 1 (by decide)) (by decide) rfl (fun ls hl => ?_)
              refine lv_goto (tgt := 82) hx hb dX9_line_129 (by decide) ?_
              exact ih_82 (k + 1) (upd gx (96 + k) (nI (T (4 * k) * 256 + T ((4 * k) + 1)))) (upd gy (96 + k) (nI (T (4 * k + 2) * 256 + T ((4 * k + 2) + 1)))) ls _ _ (by omega) (by omega) (lnW_s a1 rfl) (lnW_s a2 rfl) (lv_sub hl [1, 0] rfl) (hP.sub [8, 9, 0, 1, 2, 3, 4, 5, 6, 7] rfl) (hD.sub [8, 9, 0, 1, 2, 3, 4, 5, 6, 7] (by decide) rfl) hS
        exact L82 ((49 - 0) + 1) 0 fx fy ls _ _ (Nat.lt_succ_self _) (by omega) (lnW_0 _ _ _) (lnW_0 _ _ _) (lv_sub hl [1, 0] rfl) hP hD hS
      · refine lv_aload_n hx hb dX9_line_49 rfl (lv_at hl 0 rfl) ?_
        refine lv_iload_n hx hb dX9_line_50 rfl (lv_at hl 1 rfl) ?_
        refine g_VI (wr := [gI g zx 144 fx, gI g zy 144 fy, gI g zm 3 fm, gI g sa 20 d1, gI g sb 20 d2, gI g sc 20 d3, gI g sd 20 d4, gI g se 20 d5]) (As := [.int (nI a)]) (rest := []) (n := 1) F (c_X9_two l g mo 0 zt 0 tn zx zy zm zb rt w0 w1 w2 lg nr yr va vb vc vd qa qb qc ln sa sb sc sd se pn ma mb mc rv mn tol rn ft T a tn (htn) (hT) (h256) (by omega)) gX9_line_X9_two rfl (by decide) ⟨by decide, by decide⟩ 0 9 rfl rfl rfl rfl hl.1 rfl (Nat.le_of_ble_eq_true rfl) dX9_line_51 ⟨Nat.le_of_ble_eq_true rfl, Nat.le_of_ble_eq_true rfl⟩ hK hP hD hS hA [0, 1] [2, 3, 4, 5, 6, 7, 8, 9] (by decide) rfl rfl (by decide) (by decide) (fun r_51 u_51 H locs hw_51 hP hD hS => ?_)
        have hP : gP g [gI g zx 144 fx, gI g zy 144 fy, gI g zm 3 fm, gI g sa 20 d1, gI g sb 20 d2, gI g sc 20 d3, gI g sd 20 d4, gI g se 20 d5, gO mo 9 [.int 0, .ref zt, .int (nI 0), .int (nI tn), .ref zx, .ref zy, .ref zm, .ref zb, .int rt, .int w0, .int w1, .int w2, .int lg, .int nr, .int (nI yr), .ref va, .ref vb, .ref vc, .ref vd, .ref qa, .ref qb, .ref qc, .int (nI ln), .ref sa, .ref sb, .ref sc, .ref sd, .ref se, .int (nI pn), .ref ma, .ref mb, .ref mc, .ref rv, .int (nI mn), .int tol, .int (nI rn)], gB g zt 200 ft] H := hP
        have hD : va_D A [gI g zx 144 fx, gI g zy 144 fy, gI g zm 3 fm, gI g sa 20 d1, gI g sb 20 d2, gI g sc 20 d3, gI g sd 20 d4, gI g se 20 d5, gO mo 9 [.int 0, .ref zt, .int (nI 0), .int (nI tn), .ref zx, .ref zy, .ref zm, .ref zb, .int rt, .int w0, .int w1, .int w2, .int lg, .int nr, .int (nI yr), .ref va, .ref vb, .ref vc, .ref vd, .ref qa, .ref qb, .ref qc, .int (nI ln), .ref sa, .ref sb, .ref sc, .ref sd, .ref se, .int (nI pn), .ref ma, .ref mb, .ref mc, .ref rv, .int (nI mn), .int tol, .int (nI rn)], gB g zt 200 ft] := hD
        obtain rfl := hw_51
        have hq1 := h256 a
        have hq2 := h256 (a + 1)
        refine lv_sipush (v := 511) hx hb dX9_line_54 (by decide) ?_
        have hc5 := h.2 k (by omega)
        rw [corN, ← ha] at hc5
        refine n_icmp_le (a := T a * 256 + T (a + 1)) (b := 511) (tgt := 62) hx hb dX9_line_57 (by decide) (by omega) (by omega) (fun c_57 => ?_) (fun h => absurd h (by omega))
        refine lv_iinc (v := (nI (a + 2))) (lv' := [(1, .int (nI (a + 2))), (0, .ref mo)]) hx hb dX9_line_62 hl (k := 1) rfl (g_inc a 2 (by decide)) (by decide) rfl (fun ls hl => ?_)
        refine lv_goto (tgt := 41) hx hb dX9_line_65 (by decide) ?_
        exact ih_41 (a + 2) (k + 1) ls _ _ (by omega) (by omega) (by omega) (lv_sub hl [1, 0] rfl) (hP.sub [8, 9, 0, 1, 2, 3, 4, 5, 6, 7] rfl) (hD.sub [8, 9, 0, 1, 2, 3, 4, 5, 6, 7] (by decide) rfl) hS
  exact L41 ((200 - 0) + 1) 0 0 ls _ _ (Nat.lt_succ_self _) (rfl) (by omega) (lv_sub hl [1, 0] rfl) (hP.sub [9, 0, 1, 2, 3, 4, 5, 6, 7, 8] rfl) (hD.sub [9, 0, 1, 2, 3, 4, 5, 6, 7, 8] (by decide) rfl) hS

