abbrev rm_X9_turn : Room := { frames := 0, cells := 0, slots := 0, locals := 0 }
theorem i_X9_turn_X9 : ∀ w ∈ wsX90, w ∈ wsX9_turn := by decide +kernel
theorem k_X9_turn_f27 : Cond.fieldLink RX9 27 (TX9 4).1 (TX9 4).2.1 (TX9 4).2.2.1 ∈ wsX9_turn := by decide +kernel
theorem k_X9_turn_f31 : Cond.fieldLink RX9 31 (TX9 5).1 (TX9 5).2.1 (TX9 5).2.2.1 ∈ wsX9_turn := by decide +kernel
set_option maxHeartbeats 4000000 in
set_option maxRecDepth 100000 in
theorem c_X9_turn (l : Launch) (g : gT) (mo : Nat) (th : Int32) (zt : Nat) (tn : Nat) (sz : Nat) (zx : Nat) (zy : Nat) (zm : Nat) (zb : Nat) (rt : Int32) (w0 : Int32) (w1 : Int32) (w2 : Int32) (lg : Int32) (nr : Int32) (yr : Nat) (va : Nat) (vb : Nat) (vc : Nat) (vd : Nat) (qa : Nat) (qb : Nat) (qc : Nat) (ln : Nat) (sa : Nat) (sb : Nat) (sc : Nat) (sd : Nat) (se : Nat) (pn : Nat) (ma : Nat) (mb : Nat) (mc : Nat) (rv : Nat) (mn : Nat) (tol : Int32) (rn : Nat) (n : Nat) (fm : Nat → Int32) (fx : Nat → Int32) (fy : Nat → Int32) (X : Nat → Int32) (Y : Nat → Int32) (a : Nat) (b : Nat) (c_ : Nat) (hm0 : fm 0 = nI n) (hn : n ≤ 48) (hX0 : ∀ k, k < n → fx (48 * 0 + k) = X k) (hY0 : ∀ k, k < n → fy (48 * 0 + k) = Y k) (hok : okL (n, X, Y)) (ha : a < n) (hb_ : b < n) (hc_ : c_ < n) : CtI l g yX9_turn wsX9_turn rm_X9_turn [.ref mo, .int (nI a), .int (nI b), .int (nI c_)] [gO mo 9 [.int th, .ref zt, .int (nI tn), .int (nI sz), .ref zx, .ref zy, .ref zm, .ref zb, .int rt, .int w0, .int w1, .int w2, .int lg, .int nr, .int (nI yr), .ref va, .ref vb, .ref vc, .ref vd, .ref qa, .ref qb, .ref qc, .int (nI ln), .ref sa, .ref sb, .ref sc, .ref sd, .ref se, .int (nI pn), .ref ma, .ref mb, .ref mc, .ref rv, .int (nI mn), .int tol, .int (nI rn)], gI g zx 144 fx, gI g zy 144 fy, gI g zm 3 fm] (fun (r : Int32) (_ : Unit) => r = turnR X Y a b c_) (fun (_ : Unit) => [gO mo 9 [.int th, .ref zt, .int (nI tn), .int (nI sz), .ref zx, .ref zy, .ref zm, .ref zb, .int rt, .int w0, .int w1, .int w2, .int lg, .int nr, .int (nI yr), .ref va, .ref vb, .ref vc, .ref vd, .ref qa, .ref qb, .ref qc, .int (nI ln), .ref sa, .ref sb, .ref sc, .ref sd, .ref se, .int (nI pn), .ref ma, .ref mb, .ref mc, .ref rv, .int (nI mn), .int tol, .int (nI rn)], gI g zx 144 fx, gI g zy 144 fy, gI g zm 3 fm]) := by
  refine CtI.of (cc := cX9_turn) (maxL := 5) (ret := .int) (by decide) rfl (Nat.le_of_ble_eq_true rfl) ?_
  intro p e s m args below meth c A Q hnm F hK hA hP hD hS hret ls hl
  have hx := F.1
  have hb := F.2.1
  have hl : lv_has ls 5 [(0, .ref mo), (1, .int (nI a)), (2, .int (nI b)), (3, .int (nI c_))] := hl
  have hrg : ∀ k, k = a ∨ k = b ∨ k = c_ → inP (X k) ∧ inP (Y k) := fun k hk => hok.2.2 k (show k < n by omega)
  refine lv_aload_n hx hb dX9_turn_0 rfl (lv_at hl 0 rfl) ?_
  refine g_get (C := RX9) (T := TX9) (N := 36) F hK hP i_X9_turn_X9 0 rfl rfl 4 (by decide) k_X9_turn_f27 (v := .ref zx) rfl dX9_turn_1 ?_
  refine lv_iload_n hx hb dX9_turn_4 rfl (lv_at hl 2 rfl) ?_
  refine g_iald (i := b) (v := (X b)) hx hb hK hP 1 rfl (by decide) (by omega) ((congrArg fx (show b = 48 * 0 + b by omega)).trans (hX0 b (by omega))) dX9_turn_5 ?_
  refine lv_aload_n hx hb dX9_turn_6 rfl (lv_at hl 0 rfl) ?_
  refine g_get (C := RX9) (T := TX9) (N := 36) F hK hP i_X9_turn_X9 0 rfl rfl 4 (by decide) k_X9_turn_f27 (v := .ref zx) rfl dX9_turn_7 ?_
  refine lv_iload_n hx hb dX9_turn_10 rfl (lv_at hl 1 rfl) ?_
  refine g_iald (i := a) (v := (X a)) hx hb hK hP 1 rfl (by decide) (by omega) ((congrArg fx (show a = 48 * 0 + a by omega)).trans (hX0 a (by omega))) dX9_turn_11 ?_
  refine lv_isub hx hb dX9_turn_12 ?_
  refine lv_aload_n hx hb dX9_turn_13 rfl (lv_at hl 0 rfl) ?_
  refine g_get (C := RX9) (T := TX9) (N := 36) F hK hP i_X9_turn_X9 0 rfl rfl 5 (by decide) k_X9_turn_f31 (v := .ref zy) rfl dX9_turn_14 ?_
  refine lv_iload_n hx hb dX9_turn_17 rfl (lv_at hl 3 rfl) ?_
  refine g_iald (i := c_) (v := (Y c_)) hx hb hK hP 2 rfl (by decide) (by omega) ((congrArg fy (show c_ = 48 * 0 + c_ by omega)).trans (hY0 c_ (by omega))) dX9_turn_18 ?_
  refine lv_aload_n hx hb dX9_turn_19 rfl (lv_at hl 0 rfl) ?_
  refine g_get (C := RX9) (T := TX9) (N := 36) F hK hP i_X9_turn_X9 0 rfl rfl 5 (by decide) k_X9_turn_f31 (v := .ref zy) rfl dX9_turn_20 ?_
  refine lv_iload_n hx hb dX9_turn_23 rfl (lv_at hl 1 rfl) ?_
  refine g_iald (i := a) (v := (Y a)) hx hb hK hP 2 rfl (by decide) (by omega) ((congrArg fy (show a = 48 * 0 + a by omega)).trans (hY0 a (by omega))) dX9_turn_24 ?_
  refine lv_isub hx hb dX9_turn_25 ?_
  refine lv_imul hx hb dX9_turn_26 ?_
  refine lv_aload_n hx hb dX9_turn_27 rfl (lv_at hl 0 rfl) ?_
  refine g_get (C := RX9) (T := TX9) (N := 36) F hK hP i_X9_turn_X9 0 rfl rfl 5 (by decide) k_X9_turn_f31 (v := .ref zy) rfl dX9_turn_28 ?_
  refine lv_iload_n hx hb dX9_turn_31 rfl (lv_at hl 2 rfl) ?_
  refine g_iald (i := b) (v := (Y b)) hx hb hK hP 2 rfl (by decide) (by omega) ((congrArg fy (show b = 48 * 0 + b by omega)).trans (hY0 b (by omega))) dX9_turn_32 ?_
  refine lv_aload_n hx hb dX9_turn_33 rfl (lv_at hl 0 rfl) ?_
  refine g_get (C := RX9) (T := TX9) (N := 36) F hK hP i_X9_turn_X9 0 rfl rfl 5 (by decide) k_X9_turn_f31 (v := .ref zy) rfl dX9_turn_34 ?_
  refine lv_iload_n hx hb dX9_turn_37 rfl (lv_at hl 1 rfl) ?_
  refine g_iald (i := a) (v := (Y a)) hx hb hK hP 2 rfl (by decide) (by omega) ((congrArg fy (show a = 48 * 0 + a by omega)).trans (hY0 a (by omega))) dX9_turn_38 ?_
  refine lv_isub hx hb dX9_turn_39 ?_
  refine lv_aload_n hx hb dX9_turn_40 rfl (lv_at hl 0 rfl) ?_
  refine g_get (C := RX9) (T := TX9) (N := 36) F hK hP i_X9_turn_X9 0 rfl rfl 4 (by decide) k_X9_turn_f27 (v := .ref zx) rfl dX9_turn_41 ?_
  refine lv_iload_n hx hb dX9_turn_44 rfl (lv_at hl 3 rfl) ?_
  refine g_iald (i := c_) (v := (X c_)) hx hb hK hP 1 rfl (by decide) (by omega) ((congrArg fx (show c_ = 48 * 0 + c_ by omega)).trans (hX0 c_ (by omega))) dX9_turn_45 ?_
  refine lv_aload_n hx hb dX9_turn_46 rfl (lv_at hl 0 rfl) ?_
  refine g_get (C := RX9) (T := TX9) (N := 36) F hK hP i_X9_turn_X9 0 rfl rfl 4 (by decide) k_X9_turn_f27 (v := .ref zx) rfl dX9_turn_47 ?_
  refine lv_iload_n hx hb dX9_turn_50 rfl (lv_at hl 1 rfl) ?_
  refine g_iald (i := a) (v := (X a)) hx hb hK hP 1 rfl (by decide) (by omega) ((congrArg fx (show a = 48 * 0 + a by omega)).trans (hX0 a (by omega))) dX9_turn_51 ?_
  refine lv_isub hx hb dX9_turn_52 ?_
  refine lv_imul hx hb dX9_turn_53 ?_
  refine lv_isub hx hb dX9_turn_54 ?_
  refine lv_istore (lv' := [(4, .int ((((X b) - (X a)) * ((Y c_) - (Y a))) - (((Y b) - (Y a)) * ((X c_) - (X a))))), (0, .ref mo), (1, .int (nI a)), (2, .int (nI b)), (3, .int (nI c_))]) hx hb dX9_turn_55 hl (by decide) rfl (fun ls hl => ?_)
  refine lv_iload hx hb dX9_turn_57 (lv_at hl 0 rfl) ?_
  refine lv_if_le (tgt := 66) hx hb dX9_turn_59 (by decide) (fun c_59 => ?_) (fun c_59 => ?_)
  · refine lv_iload hx hb dX9_turn_66 (lv_at hl 0 rfl) ?_
    refine lv_if_ge (tgt := 75) hx hb dX9_turn_68 (by decide) (fun c_68 => ?_) (fun c_68 => ?_)
    · refine lv_iconst (v := 0) hx hb dX9_turn_75 (by decide) ?_
      exact hret _ _ _ _ 0 () dX9_turn_76 rfl (turn_0 hrg c_59 c_68) hP hD hS
    · refine lv_iconst (v := (-1)) hx hb dX9_turn_71 (by decide) ?_
      refine lv_goto (tgt := 76) hx hb dX9_turn_72 (by decide) ?_
      exact hret _ _ _ _ (-1) () dX9_turn_76 rfl (turn_m hrg c_68) hP hD hS
  · refine lv_iconst (v := 1) hx hb dX9_turn_62 (by decide) ?_
    refine lv_goto (tgt := 76) hx hb dX9_turn_63 (by decide) ?_
    exact hret _ _ _ _ 1 () dX9_turn_76 rfl (turn_1 hrg c_59) hP hD hS

abbrev rm_X9_isOn : Room := { frames := 1, cells := 0, slots := 0, locals := 24 }
theorem i_X9_isOn_X9 : ∀ w ∈ wsX90, w ∈ wsX9_isOn := by decide +kernel
theorem k_X9_isOn_f27 : Cond.fieldLink RX9 27 (TX9 4).1 (TX9 4).2.1 (TX9 4).2.2.1 ∈ wsX9_isOn := by decide +kernel
theorem k_X9_isOn_f31 : Cond.fieldLink RX9 31 (TX9 5).1 (TX9 5).2.1 (TX9 5).2.2.1 ∈ wsX9_isOn := by decide +kernel
set_option maxHeartbeats 4000000 in
set_option maxRecDepth 100000 in
theorem c_X9_isOn (l : Launch) (g : gT) (mo : Nat) (th : Int32) (zt : Nat) (tn : Nat) (sz : Nat) (zx : Nat) (zy : Nat) (zm : Nat) (zb : Nat) (rt : Int32) (w0 : Int32) (w1 : Int32) (w2 : Int32) (lg : Int32) (nr : Int32) (yr : Nat) (va : Nat) (vb : Nat) (vc : Nat) (vd : Nat) (qa : Nat) (qb : Nat) (qc : Nat) (ln : Nat) (sa : Nat) (sb : Nat) (sc : Nat) (sd : Nat) (se : Nat) (pn : Nat) (ma : Nat) (mb : Nat) (mc : Nat) (rv : Nat) (mn : Nat) (tol : Int32) (rn : Nat) (n : Nat) (fm : Nat → Int32) (fx : Nat → Int32) (fy : Nat → Int32) (X : Nat → Int32) (Y : Nat → Int32) (a : Nat) (b : Nat) (c_ : Nat) (hm0 : fm 0 = nI n) (hn : n ≤ 48) (hX0 : ∀ k, k < n → fx (48 * 0 + k) = X k) (hY0 : ∀ k, k < n → fy (48 * 0 + k) = Y k) (hok : okL (n, X, Y)) (ha : a < n) (hb_ : b < n) (hc_ : c_ < n) : CtI l g yX9_isOn wsX9_isOn rm_X9_isOn [.ref mo, .int (nI a), .int (nI b), .int (nI c_)] [gO mo 9 [.int th, .ref zt, .int (nI tn), .int (nI sz), .ref zx, .ref zy, .ref zm, .ref zb, .int rt, .int w0, .int w1, .int w2, .int lg, .int nr, .int (nI yr), .ref va, .ref vb, .ref vc, .ref vd, .ref qa, .ref qb, .ref qc, .int (nI ln), .ref sa, .ref sb, .ref sc, .ref sd, .ref se, .int (nI pn), .ref ma, .ref mb, .ref mc, .ref rv, .int (nI mn), .int tol, .int (nI rn)], gI g zx 144 fx, gI g zy 144 fy, gI g zm 3 fm] (fun (r : Int32) (_ : Unit) => (r = 1 ∧ onP X Y a b c_) ∨ (r = 0 ∧ ¬ onP X Y a b c_)) (fun (_ : Unit) => [gO mo 9 [.int th, .ref zt, .int (nI tn), .int (nI sz), .ref zx, .ref zy, .ref zm, .ref zb, .int rt, .int w0, .int w1, .int w2, .int lg, .int nr, .int (nI yr), .ref va, .ref vb, .ref vc, .ref vd, .ref qa, .ref qb, .ref qc, .int (nI ln), .ref sa, .ref sb, .ref sc, .ref sd, .ref se, .int (nI pn), .ref ma, .ref mb, .ref mc, .ref rv, .int (nI mn), .int tol, .int (nI rn)], gI g zx 144 fx, gI g zy 144 fy, gI g zm 3 fm]) := by
  refine CtI.of (cc := cX9_isOn) (maxL := 4) (ret := .boolean) (by decide) rfl (Nat.le_of_ble_eq_true rfl) ?_
  intro p e s m args below meth c A Q hnm F hK hA hP hD hS hret ls hl
  have hx := F.1
  have hb := F.2.1
  have hl : lv_has ls 4 [(0, .ref mo), (1, .int (nI a)), (2, .int (nI b)), (3, .int (nI c_))] := hl
  refine lv_aload_n hx hb dX9_isOn_0 rfl (lv_at hl 0 rfl) ?_
  refine lv_iload_n hx hb dX9_isOn_1 rfl (lv_at hl 1 rfl) ?_
  refine lv_iload_n hx hb dX9_isOn_2 rfl (lv_at hl 2 rfl) ?_
  refine lv_iload_n hx hb dX9_isOn_3 rfl (lv_at hl 3 rfl) ?_
  refine g_VI (wr := []) (As := [.int (nI a), .int (nI b), .int (nI c_)]) (rest := []) (n := 3) F (c_X9_turn l g mo th zt tn sz zx zy zm zb rt w0 w1 w2 lg nr yr va vb vc vd qa qb qc ln sa sb sc sd se pn ma mb mc rv mn tol rn n fm fx fy X Y a b c_ (hm0) (hn) (hX0) (hY0) (hok) (ha) (hb_) (hc_)) gX9_isOn_X9_turn rfl (by decide) ⟨by decide, by decide⟩ 0 9 rfl rfl rfl rfl hl.1 rfl (Nat.le_of_ble_eq_true rfl) dX9_isOn_4 ⟨Nat.le_of_ble_eq_true rfl, Nat.le_of_ble_eq_true rfl⟩ hK hP hD hS hA [0, 1, 2, 3] [] (by decide) rfl rfl (by decide) (by decide) (fun r_4 u_4 H locs hw_4 hP hD hS => ?_)
  have hP : gP g [gO mo 9 [.int th, .ref zt, .int (nI tn), .int (nI sz), .ref zx, .ref zy, .ref zm, .ref zb, .int rt, .int w0, .int w1, .int w2, .int lg, .int nr, .int (nI yr), .ref va, .ref vb, .ref vc, .ref vd, .ref qa, .ref qb, .ref qc, .int (nI ln), .ref sa, .ref sb, .ref sc, .ref sd, .ref se, .int (nI pn), .ref ma, .ref mb, .ref mc, .ref rv, .int (nI mn), .int tol, .int (nI rn)], gI g zx 144 fx, gI g zy 144 fy, gI g zm 3 fm] H := hP
  have hD : va_D A [gO mo 9 [.int th, .ref zt, .int (nI tn), .int (nI sz), .ref zx, .ref zy, .ref zm, .ref zb, .int rt, .int w0, .int w1, .int w2, .int lg, .int nr, .int (nI yr), .ref va, .ref vb, .ref vc, .ref vd, .ref qa, .ref qb, .ref qc, .int (nI ln), .ref sa, .ref sb, .ref sc, .ref sd, .ref se, .int (nI pn), .ref ma, .ref mb, .ref mc, .ref rv, .int (nI mn), .int tol, .int (nI rn)], gI g zx 144 fx, gI g zy 144 fy, gI g zm 3 fm] := hD
  obtain rfl := hw_4
  refine lv_if_ne (tgt := 62) hx hb dX9_isOn_7 (by decide) (fun c_7 => ?_) (fun c_7 => ?_)
  · refine lv_iconst (v := 0) hx hb dX9_isOn_62 (by decide) ?_
    exact hret _ _ _ _ 0 () dX9_isOn_63 rfl (by simp [onP, c_7]) hP hD hS
  · refine lv_aload_n hx hb dX9_isOn_10 rfl (lv_at hl 0 rfl) ?_
    refine g_get (C := RX9) (T := TX9) (N := 36) F hK hP i_X9_isOn_X9 0 rfl rfl 4 (by decide) k_X9_isOn_f27 (v := .ref zx) rfl dX9_isOn_11 ?_
    refine lv_iload_n hx hb dX9_isOn_14 rfl (lv_at hl 3 rfl) ?_
    refine g_iald (i := c_) (v := (X c_)) hx hb hK hP 1 rfl (by decide) (by omega) ((congrArg fx (show c_ = 48 * 0 + c_ by omega)).trans (hX0 c_ (by omega))) dX9_isOn_15 ?_
    refine lv_aload_n hx hb dX9_isOn_16 rfl (lv_at hl 0 rfl) ?_
    refine g_get (C := RX9) (T := TX9) (N := 36) F hK hP i_X9_isOn_X9 0 rfl rfl 4 (by decide) k_X9_isOn_f27 (v := .ref zx) rfl dX9_isOn_17 ?_
    refine lv_iload_n hx hb dX9_isOn_20 rfl (lv_at hl 1 rfl) ?_
    refine g_iald (i := a) (v := (X a)) hx hb hK hP 1 rfl (by decide) (by omega) ((congrArg fx (show a = 48 * 0 + a by omega)).trans (hX0 a (by omega))) dX9_isOn_21 ?_
    refine lv_aload_n hx hb dX9_isOn_22 rfl (lv_at hl 0 rfl) ?_
    refine g_get (C := RX9) (T := TX9) (N := 36) F hK hP i_X9_isOn_X9 0 rfl rfl 4 (by decide) k_X9_isOn_f27 (v := .ref zx) rfl dX9_isOn_23 ?_
    refine lv_iload_n hx hb dX9_isOn_26 rfl (lv_at hl 2 rfl) ?_
    refine g_iald (i := b) (v := (X b)) hx hb hK hP 1 rfl (by decide) (by omega) ((congrArg fx (show b = 48 * 0 + b by omega)).trans (hX0 b (by omega))) dX9_isOn_27 ?_
    refine g_SI (wr := [gO mo 9 [.int th, .ref zt, .int (nI tn), .int (nI sz), .ref zx, .ref zy, .ref zm, .ref zb, .int rt, .int w0, .int w1, .int w2, .int lg, .int nr, .int (nI yr), .ref va, .ref vb, .ref vc, .ref vd, .ref qa, .ref qb, .ref qc, .int (nI ln), .ref sa, .ref sb, .ref sc, .ref sd, .ref se, .int (nI pn), .ref ma, .ref mb, .ref mc, .ref rv, .int (nI mn), .int tol, .int (nI rn)], gI g zx 144 fx, gI g zy 144 fy, gI g zm 3 fm]) (As := [.int (X c_), .int (X a), .int (X b)]) (rest := []) (n := 3) F (c_X9_isBetween l g (X c_) (X a) (X b)) gX9_isOn_X9_isBetween rfl (by decide) ⟨by decide, by decide⟩ rfl hl.1 rfl (Nat.le_of_ble_eq_true rfl) dX9_isOn_28 ⟨Nat.le_of_ble_eq_true rfl, Nat.le_of_ble_eq_true rfl⟩ hK hP hD hS hA [] [0, 1, 2, 3] (by decide) rfl rfl (by decide) (by decide) (fun r_28 u_28 H locs hw_28 hP hD hS => ?_)
    have hP : gP g [gO mo 9 [.int th, .ref zt, .int (nI tn), .int (nI sz), .ref zx, .ref zy, .ref zm, .ref zb, .int rt, .int w0, .int w1, .int w2, .int lg, .int nr, .int (nI yr), .ref va, .ref vb, .ref vc, .ref vd, .ref qa, .ref qb, .ref qc, .int (nI ln), .ref sa, .ref sb, .ref sc, .ref sd, .ref se, .int (nI pn), .ref ma, .ref mb, .ref mc, .ref rv, .int (nI mn), .int tol, .int (nI rn)], gI g zx 144 fx, gI g zy 144 fy, gI g zm 3 fm] H := hP
    have hD : va_D A [gO mo 9 [.int th, .ref zt, .int (nI tn), .int (nI sz), .ref zx, .ref zy, .ref zm, .ref zb, .int rt, .int w0, .int w1, .int w2, .int lg, .int nr, .int (nI yr), .ref va, .ref vb, .ref vc, .ref vd, .ref qa, .ref qb, .ref qc, .int (nI ln), .ref sa, .ref sb, .ref sc, .ref sd, .ref se, .int (nI pn), .ref ma, .ref mb, .ref mc, .ref rv, .int (nI mn), .int tol, .int (nI rn)], gI g zx 144 fx, gI g zy 144 fy, gI g zm 3 fm] := hD
    rcases hw_28 with ⟨rfl, b_28⟩ | ⟨rfl, b_28⟩
    · refine lv_if_eq (tgt := 62) hx hb dX9_isOn_31 (by decide) (fun h => absurd h (by decide)) (fun _ => ?_)
      refine lv_aload_n hx hb dX9_isOn_34 rfl (lv_at hl 0 rfl) ?_
      refine g_get (C := RX9) (T := TX9) (N := 36) F hK hP i_X9_isOn_X9 0 rfl rfl 5 (by decide) k_X9_isOn_f31 (v := .ref zy) rfl dX9_isOn_35 ?_
      refine lv_iload_n hx hb dX9_isOn_38 rfl (lv_at hl 3 rfl) ?_
      refine g_iald (i := c_) (v := (Y c_)) hx hb hK hP 2 rfl (by decide) (by omega) ((congrArg fy (show c_ = 48 * 0 + c_ by omega)).trans (hY0 c_ (by omega))) dX9_isOn_39 ?_
      refine lv_aload_n hx hb dX9_isOn_40 rfl (lv_at hl 0 rfl) ?_
      refine g_get (C := RX9) (T := TX9) (N := 36) F hK hP i_X9_isOn_X9 0 rfl rfl 5 (by decide) k_X9_isOn_f31 (v := .ref zy) rfl dX9_isOn_41 ?_
      refine lv_iload_n hx hb dX9_isOn_44 rfl (lv_at hl 1 rfl) ?_
      refine g_iald (i := a) (v := (Y a)) hx hb hK hP 2 rfl (by decide) (by omega) ((congrArg fy (show a = 48 * 0 + a by omega)).trans (hY0 a (by omega))) dX9_isOn_45 ?_
      refine lv_aload_n hx hb dX9_isOn_46 rfl (lv_at hl 0 rfl) ?_
      refine g_get (C := RX9) (T := TX9) (N := 36) F hK hP i_X9_isOn_X9 0 rfl rfl 5 (by decide) k_X9_isOn_f31 (v := .ref zy) rfl dX9_isOn_47 ?_
      refine lv_iload_n hx hb dX9_isOn_50 rfl (lv_at hl 2 rfl) ?_
      refine g_iald (i := b) (v := (Y b)) hx hb hK hP 2 rfl (by decide) (by omega) ((congrArg fy (show b = 48 * 0 + b by omega)).trans (hY0 b (by omega))) dX9_isOn_51 ?_
      refine g_SI (wr := [gO mo 9 [.int th, .ref zt, .int (nI tn), .int (nI sz), .ref zx, .ref zy, .ref zm, .ref zb, .int rt, .int w0, .int w1, .int w2, .int lg, .int nr, .int (nI yr), .ref va, .ref vb, .ref vc, .ref vd, .ref qa, .ref qb, .ref qc, .int (nI ln), .ref sa, .ref sb, .ref sc, .ref sd, .ref se, .int (nI pn), .ref ma, .ref mb, .ref mc, .ref rv, .int (nI mn), .int tol, .int (nI rn)], gI g zx 144 fx, gI g zy 144 fy, gI g zm 3 fm]) (As := [.int (Y c_), .int (Y a), .int (Y b)]) (rest := []) (n := 3) F (c_X9_isBetween l g (Y c_) (Y a) (Y b)) gX9_isOn_X9_isBetween rfl (by decide) ⟨by decide, by decide⟩ rfl hl.1 rfl (Nat.le_of_ble_eq_true rfl) dX9_isOn_52 ⟨Nat.le_of_ble_eq_true rfl, Nat.le_of_ble_eq_true rfl⟩ hK hP hD hS hA [] [0, 1, 2, 3] (by decide) rfl rfl (by decide) (by decide) (fun r_52 u_52 H locs hw_52 hP hD hS => ?_)
      have hP : gP g [gO mo 9 [.int th, .ref zt, .int (nI tn), .int (nI sz), .ref zx, .ref zy, .ref zm, .ref zb, .int rt, .int w0, .int w1, .int w2, .int lg, .int nr, .int (nI yr), .ref va, .ref vb, .ref vc, .ref vd, .ref qa, .ref qb, .ref qc, .int (nI ln), .ref sa, .ref sb, .ref sc, .ref sd, .ref se, .int (nI pn), .ref ma, .ref mb, .ref mc, .ref rv, .int (nI mn), .int tol, .int (nI rn)], gI g zx 144 fx, gI g zy 144 fy, gI g zm 3 fm] H := hP
      have hD : va_D A [gO mo 9 [.int th, .ref zt, .int (nI tn), .int (nI sz), .ref zx, .ref zy, .ref zm, .ref zb, .int rt, .int w0, .int w1, .int w2, .int lg, .int nr, .int (nI yr), .ref va, .ref vb, .ref vc, .ref vd, .ref qa, .ref qb, .ref qc, .int (nI ln), .ref sa, .ref sb, .ref sc, .ref sd, .ref se, .int (nI pn), .ref ma, .ref mb, .ref mc, .ref rv, .int (nI mn), .int tol, .int (nI rn)], gI g zx 144 fx, gI g zy 144 fy, gI g zm 3 fm] := hD
      rcases hw_52 with ⟨rfl, b_52⟩ | ⟨rfl, b_52⟩
      · refine lv_if_eq (tgt := 62) hx hb dX9_isOn_55 (by decide) (fun h => absurd h (by decide)) (fun _ => ?_)
        refine lv_iconst (v := 1) hx hb dX9_isOn_58 (by decide) ?_
        refine lv_goto (tgt := 63) hx hb dX9_isOn_59 (by decide) ?_
        exact hret _ _ _ _ 1 () dX9_isOn_63 rfl (by simp [onP, c_7, b_28, b_52]) hP hD hS
      · refine lv_if_eq (tgt := 62) hx hb dX9_isOn_55 (by decide) (fun _ => ?_) (fun h => absurd (by decide) h)
        refine lv_iconst (v := 0) hx hb dX9_isOn_62 (by decide) ?_
        exact hret _ _ _ _ 0 () dX9_isOn_63 rfl (by simp [onP, c_7, b_28, b_52]) hP hD hS
    · refine lv_if_eq (tgt := 62) hx hb dX9_isOn_31 (by decide) (fun _ => ?_) (fun h => absurd (by decide) h)
      refine lv_iconst (v := 0) hx hb dX9_isOn_62 (by decide) ?_
      exact hret _ _ _ _ 0 () dX9_isOn_63 rfl (by simp [onP, c_7, b_28]) hP hD hS

abbrev rm_X9_meet : Room := { frames := 2, cells := 0, slots := 0, locals := 47 }
set_option maxHeartbeats 4000000 in
set_option maxRecDepth 100000 in
theorem c_X9_meet (l : Launch) (g : gT) (mo : Nat) (th : Int32) (zt : Nat) (tn : Nat) (sz : Nat) (zx : Nat) (zy : Nat) (zm : Nat) (zb : Nat) (rt : Int32) (w0 : Int32) (w1 : Int32) (w2 : Int32) (lg : Int32) (nr : Int32) (yr : Nat) (va : Nat) (vb : Nat) (vc : Nat) (vd : Nat) (qa : Nat) (qb : Nat) (qc : Nat) (ln : Nat) (sa : Nat) (sb : Nat) (sc : Nat) (sd : Nat) (se : Nat) (pn : Nat) (ma : Nat) (mb : Nat) (mc : Nat) (rv : Nat) (mn : Nat) (tol : Int32) (rn : Nat) (n : Nat) (fm : Nat → Int32) (fx : Nat → Int32) (fy : Nat → Int32) (X : Nat → Int32) (Y : Nat → Int32) (a : Nat) (b : Nat) (c_ : Nat) (d_ : Nat) (hm0 : fm 0 = nI n) (hn : n ≤ 48) (hX0 : ∀ k, k < n → fx (48 * 0 + k) = X k) (hY0 : ∀ k, k < n → fy (48 * 0 + k) = Y k) (hok : okL (n, X, Y)) (ha : a < n) (hb_ : b < n) (hc_ : c_ < n) (hd_ : d_ < n) : CtI l g yX9_meet wsX9_meet rm_X9_meet [.ref mo, .int (nI a), .int (nI b), .int (nI c_), .int (nI d_)] [gO mo 9 [.int th, .ref zt, .int (nI tn), .int (nI sz), .ref zx, .ref zy, .ref zm, .ref zb, .int rt, .int w0, .int w1, .int w2, .int lg, .int nr, .int (nI yr), .ref va, .ref vb, .ref vc, .ref vd, .ref qa, .ref qb, .ref qc, .int (nI ln), .ref sa, .ref sb, .ref sc, .ref sd, .ref se, .int (nI pn), .ref ma, .ref mb, .ref mc, .ref rv, .int (nI mn), .int tol, .int (nI rn)], gI g zx 144 fx, gI g zy 144 fy, gI g zm 3 fm] (fun (r : Int32) (_ : Unit) => (r = 1 ∧ mtP X Y a b c_ d_) ∨ (r = 0 ∧ ¬ mtP X Y a b c_ d_)) (fun (_ : Unit) => [gO mo 9 [.int th, .ref zt, .int (nI tn), .int (nI sz), .ref zx, .ref zy, .ref zm, .ref zb, .int rt, .int w0, .int w1, .int w2, .int lg, .int nr, .int (nI yr), .ref va, .ref vb, .ref vc, .ref vd, .ref qa, .ref qb, .ref qc, .int (nI ln), .ref sa, .ref sb, .ref sc, .ref sd, .ref se, .int (nI pn), .ref ma, .ref mb, .ref mc, .ref rv, .int (nI mn), .int tol, .int (nI rn)], gI g zx 144 fx, gI g zy 144 fy, gI g zm 3 fm]) := by
  refine CtI.of (cc := cX9_meet) (maxL := 5) (ret := .boolean) (by decide) rfl (Nat.le_of_ble_eq_true rfl) ?_
  intro p e s m args below meth c A Q hnm F hK hA hP hD hS hret ls hl
  have hx := F.1
  have hb := F.2.1
  have hl : lv_has ls 5 [(0, .ref mo), (1, .int (nI a)), (2, .int (nI b)), (3, .int (nI c_)), (4, .int (nI d_))] := hl
  refine lv_aload_n hx hb dX9_meet_0 rfl (lv_at hl 0 rfl) ?_
  refine lv_iload_n hx hb dX9_meet_1 rfl (lv_at hl 1 rfl) ?_
  refine lv_iload_n hx hb dX9_meet_2 rfl (lv_at hl 2 rfl) ?_
  refine lv_iload_n hx hb dX9_meet_3 rfl (lv_at hl 3 rfl) ?_
  refine g_VI (wr := []) (As := [.int (nI a), .int (nI b), .int (nI c_)]) (rest := []) (n := 3) F (c_X9_isOn l g mo th zt tn sz zx zy zm zb rt w0 w1 w2 lg nr yr va vb vc vd qa qb qc ln sa sb sc sd se pn ma mb mc rv mn tol rn n fm fx fy X Y a b c_ (hm0) (hn) (hX0) (hY0) (hok) (ha) (hb_) (hc_)) gX9_meet_X9_isOn rfl (by decide) ⟨by decide, by decide⟩ 0 9 rfl rfl rfl rfl hl.1 rfl (Nat.le_of_ble_eq_true rfl) dX9_meet_4 ⟨Nat.le_of_ble_eq_true rfl, Nat.le_of_ble_eq_true rfl⟩ hK hP hD hS hA [0, 1, 2, 3] [] (by decide) rfl rfl (by decide) (by decide) (fun r_4 u_4 H locs hw_4 hP hD hS => ?_)
  have hP : gP g [gO mo 9 [.int th, .ref zt, .int (nI tn), .int (nI sz), .ref zx, .ref zy, .ref zm, .ref zb, .int rt, .int w0, .int w1, .int w2, .int lg, .int nr, .int (nI yr), .ref va, .ref vb, .ref vc, .ref vd, .ref qa, .ref qb, .ref qc, .int (nI ln), .ref sa, .ref sb, .ref sc, .ref sd, .ref se, .int (nI pn), .ref ma, .ref mb, .ref mc, .ref rv, .int (nI mn), .int tol, .int (nI rn)], gI g zx 144 fx, gI g zy 144 fy, gI g zm 3 fm] H := hP
  have hD : va_D A [gO mo 9 [.int th, .ref zt, .int (nI tn), .int (nI sz), .ref zx, .ref zy, .ref zm, .ref zb, .int rt, .int w0, .int w1, .int w2, .int lg, .int nr, .int (nI yr), .ref va, .ref vb, .ref vc, .ref vd, .ref qa, .ref qb, .ref qc, .int (nI ln), .ref sa, .ref sb, .ref sc, .ref sd, .ref se, .int (nI pn), .ref ma, .ref mb, .ref mc, .ref rv, .int (nI mn), .int tol, .int (nI rn)], gI g zx 144 fx, gI g zy 144 fy, gI g zm 3 fm] := hD
  rcases hw_4 with ⟨rfl, b_4⟩ | ⟨rfl, b_4⟩
  · refine lv_if_ne (tgt := 43) hx hb dX9_meet_7 (by decide) (fun _ => ?_) (fun h => absurd h (by decide))
    refine lv_iconst (v := 1) hx hb dX9_meet_43 (by decide) ?_
    exact hret _ _ _ _ 1 () dX9_meet_44 rfl (by simp [mtP, b_4]) hP hD hS
  · refine lv_if_ne (tgt := 43) hx hb dX9_meet_7 (by decide) (fun h => absurd (by decide) h) (fun _ => ?_)
    refine lv_aload_n hx hb dX9_meet_10 rfl (lv_at hl 0 rfl) ?_
    refine lv_iload_n hx hb dX9_meet_11 rfl (lv_at hl 1 rfl) ?_
    refine lv_iload_n hx hb dX9_meet_12 rfl (lv_at hl 2 rfl) ?_
    refine lv_iload hx hb dX9_meet_13 (lv_at hl 4 rfl) ?_
    refine g_VI (wr := []) (As := [.int (nI a), .int (nI b), .int (nI d_)]) (rest := []) (n := 3) F (c_X9_isOn l g mo th zt tn sz zx zy zm zb rt w0 w1 w2 lg nr yr va vb vc vd qa qb qc ln sa sb sc sd se pn ma mb mc rv mn tol rn n fm fx fy X Y a b d_ (hm0) (hn) (hX0) (hY0) (hok) (ha) (hb_) (hd_)) gX9_meet_X9_isOn rfl (by decide) ⟨by decide, by decide⟩ 0 9 rfl rfl rfl rfl hl.1 rfl (Nat.le_of_ble_eq_true rfl) dX9_meet_15 ⟨Nat.le_of_ble_eq_true rfl, Nat.le_of_ble_eq_true rfl⟩ hK hP hD hS hA [0, 1, 2, 3] [] (by decide) rfl rfl (by decide) (by decide) (fun r_15 u_15 H locs hw_15 hP hD hS => ?_)
    have hP : gP g [gO mo 9 [.int th, .ref zt, .int (nI tn), .int (nI sz), .ref zx, .ref zy, .ref zm, .ref zb, .int rt, .int w0, .int w1, .int w2, .int lg, .int nr, .int (nI yr), .ref va, .ref vb, .ref vc, .ref vd, .ref qa, .ref qb, .ref qc, .int (nI ln), .ref sa, .ref sb, .ref sc, .ref sd, .ref se, .int (nI pn), .ref ma, .ref mb, .ref mc, .ref rv, .int (nI mn), .int tol, .int (nI rn)], gI g zx 144 fx, gI g zy 144 fy, gI g zm 3 fm] H := hP
    have hD : va_D A [gO mo 9 [.int th, .ref zt, .int (nI tn), .int (nI sz), .ref zx, .ref zy, .ref zm, .ref zb, .int rt, .int w0, .int w1, .int w2, .int lg, .int nr, .int (nI yr), .ref va, .ref vb, .ref vc, .ref vd, .ref qa, .ref qb, .ref qc, .int (nI ln), .ref sa, .ref sb, .ref sc, .ref sd, .ref se, .int (nI pn), .ref ma, .ref mb, .ref mc, .ref rv, .int (nI mn), .int tol, .int (nI rn)], gI g zx 144 fx, gI g zy 144 fy, gI g zm 3 fm] := hD
    rcases hw_15 with ⟨rfl, b_15⟩ | ⟨rfl, b_15⟩
    · refine lv_if_ne (tgt := 43) hx hb dX9_meet_18 (by decide) (fun _ => ?_) (fun h => absurd h (by decide))
      refine lv_iconst (v := 1) hx hb dX9_meet_43 (by decide) ?_
      exact hret _ _ _ _ 1 () dX9_meet_44 rfl (by simp [mtP, b_4, b_15]) hP hD hS
    · refine lv_if_ne (tgt := 43) hx hb dX9_meet_18 (by decide) (fun h => absurd (by decide) h) (fun _ => ?_)
      refine lv_aload_n hx hb dX9_meet_21 rfl (lv_at hl 0 rfl) ?_
      refine lv_iload_n hx hb dX9_meet_22 rfl (lv_at hl 3 rfl) ?_
      refine lv_iload hx hb dX9_meet_23 (lv_at hl 4 rfl) ?_
      refine lv_iload_n hx hb dX9_meet_25 rfl (lv_at hl 1 rfl) ?_
      refine g_VI (wr := []) (As := [.int (nI c_), .int (nI d_), .int (nI a)]) (rest := []) (n := 3) F (c_X9_isOn l g mo th zt tn sz zx zy zm zb rt w0 w1 w2 lg nr yr va vb vc vd qa qb qc ln sa sb sc sd se pn ma mb mc rv mn tol rn n fm fx fy X Y c_ d_ a (hm0) (hn) (hX0) (hY0) (hok) (hc_) (hd_) (ha)) gX9_meet_X9_isOn rfl (by decide) ⟨by decide, by decide⟩ 0 9 rfl rfl rfl rfl hl.1 rfl (Nat.le_of_ble_eq_true rfl) dX9_meet_26 ⟨Nat.le_of_ble_eq_true rfl, Nat.le_of_ble_eq_true rfl⟩ hK hP hD hS hA [0, 1, 2, 3] [] (by decide) rfl rfl (by decide) (by decide) (fun r_26 u_26 H locs hw_26 hP hD hS => ?_)
      have hP : gP g [gO mo 9 [.int th, .ref zt, .int (nI tn), .int (nI sz), .ref zx, .ref zy, .ref zm, .ref zb, .int rt, .int w0, .int w1, .int w2, .int lg, .int nr, .int (nI yr), .ref va, .ref vb, .ref vc, .ref vd, .ref qa, .ref qb, .ref qc, .int (nI ln), .ref sa, .ref sb, .ref sc, .ref sd, .ref se, .int (nI pn), .ref ma, .ref mb, .ref mc, .ref rv, .int (nI mn), .int tol, .int (nI rn)], gI g zx 144 fx, gI g zy 144 fy, gI g zm 3 fm] H := hP
      have hD : va_D A [gO mo 9 [.int th, .ref zt, .int (nI tn), .int (nI sz), .ref zx, .ref zy, .ref zm, .ref zb, .int rt, .int w0, .int w1, .int w2, .int lg, .int nr, .int (nI yr), .ref va, .ref vb, .ref vc, .ref vd, .ref qa, .ref qb, .ref qc, .int (nI ln), .ref sa, .ref sb, .ref sc, .ref sd, .ref se, .int (nI pn), .ref ma, .ref mb, .ref mc, .ref rv, .int (nI mn), .int tol, .int (nI rn)], gI g zx 144 fx, gI g zy 144 fy, gI g zm 3 fm] := hD
      rcases hw_26 with ⟨rfl, b_26⟩ | ⟨rfl, b_26⟩
      · refine lv_if_ne (tgt := 43) hx hb dX9_meet_29 (by decide) (fun _ => ?_) (fun h => absurd h (by decide))
        refine lv_iconst (v := 1) hx hb dX9_meet_43 (by decide) ?_
        exact hret _ _ _ _ 1 () dX9_meet_44 rfl (by simp [mtP, b_4, b_15, b_26]) hP hD hS
      · refine lv_if_ne (tgt := 43) hx hb dX9_meet_29 (by decide) (fun h => absurd (by decide) h) (fun _ => ?_)
        refine lv_aload_n hx hb dX9_meet_32 rfl (lv_at hl 0 rfl) ?_
        refine lv_iload_n hx hb dX9_meet_33 rfl (lv_at hl 3 rfl) ?_
        refine lv_iload hx hb dX9_meet_34 (lv_at hl 4 rfl) ?_
        refine lv_iload_n hx hb dX9_meet_36 rfl (lv_at hl 2 rfl) ?_
        refine g_VI (wr := []) (As := [.int (nI c_), .int (nI d_), .int (nI b)]) (rest := []) (n := 3) F (c_X9_isOn l g mo th zt tn sz zx zy zm zb rt w0 w1 w2 lg nr yr va vb vc vd qa qb qc ln sa sb sc sd se pn ma mb mc rv mn tol rn n fm fx fy X Y c_ d_ b (hm0) (hn) (hX0) (hY0) (hok) (hc_) (hd_) (hb_)) gX9_meet_X9_isOn rfl (by decide) ⟨by decide, by decide⟩ 0 9 rfl rfl rfl rfl hl.1 rfl (Nat.le_of_ble_eq_true rfl) dX9_meet_37 ⟨Nat.le_of_ble_eq_true rfl, Nat.le_of_ble_eq_true rfl⟩ hK hP hD hS hA [0, 1, 2, 3] [] (by decide) rfl rfl (by decide) (by decide) (fun r_37 u_37 H locs hw_37 hP hD hS => ?_)
        have hP : gP g [gO mo 9 [.int th, .ref zt, .int (nI tn), .int (nI sz), .ref zx, .ref zy, .ref zm, .ref zb, .int rt, .int w0, .int w1, .int w2, .int lg, .int nr, .int (nI yr), .ref va, .ref vb, .ref vc, .ref vd, .ref qa, .ref qb, .ref qc, .int (nI ln), .ref sa, .ref sb, .ref sc, .ref sd, .ref se, .int (nI pn), .ref ma, .ref mb, .ref mc, .ref rv, .int (nI mn), .int tol, .int (nI rn)], gI g zx 144 fx, gI g zy 144 fy, gI g zm 3 fm] H := hP
        have hD : va_D A [gO mo 9 [.int th, .ref zt, .int (nI tn), .int (nI sz), .ref zx, .ref zy, .ref zm, .ref zb, .int rt, .int w0, .int w1, .int w2, .int lg, .int nr, .int (nI yr), .ref va, .ref vb, .ref vc, .ref vd, .ref qa, .ref qb, .ref qc, .int (nI ln), .ref sa, .ref sb, .ref sc, .ref sd, .ref se, .int (nI pn), .ref ma, .ref mb, .ref mc, .ref rv, .int (nI mn), .int tol, .int (nI rn)], gI g zx 144 fx, gI g zy 144 fy, gI g zm 3 fm] := hD
        rcases hw_37 with ⟨rfl, b_37⟩ | ⟨rfl, b_37⟩
        · refine lv_if_eq (tgt := 45) hx hb dX9_meet_40 (by decide) (fun h => absurd h (by decide)) (fun _ => ?_)
          refine lv_iconst (v := 1) hx hb dX9_meet_43 (by decide) ?_
          exact hret _ _ _ _ 1 () dX9_meet_44 rfl (by simp [mtP, b_4, b_15, b_26, b_37]) hP hD hS
        · refine lv_if_eq (tgt := 45) hx hb dX9_meet_40 (by decide) (fun _ => ?_) (fun h => absurd (by decide) h)
          refine lv_aload_n hx hb dX9_meet_45 rfl (lv_at hl 0 rfl) ?_
          refine lv_iload_n hx hb dX9_meet_46 rfl (lv_at hl 1 rfl) ?_
          refine lv_iload_n hx hb dX9_meet_47 rfl (lv_at hl 2 rfl) ?_
          refine lv_iload_n hx hb dX9_meet_48 rfl (lv_at hl 3 rfl) ?_
          refine g_VI (wr := []) (As := [.int (nI a), .int (nI b), .int (nI c_)]) (rest := []) (n := 3) F (c_X9_turn l g mo th zt tn sz zx zy zm zb rt w0 w1 w2 lg nr yr va vb vc vd qa qb qc ln sa sb sc sd se pn ma mb mc rv mn tol rn n fm fx fy X Y a b c_ (hm0) (hn) (hX0) (hY0) (hok) (ha) (hb_) (hc_)) gX9_meet_X9_turn rfl (by decide) ⟨by decide, by decide⟩ 0 9 rfl rfl rfl rfl hl.1 rfl (Nat.le_of_ble_eq_true rfl) dX9_meet_49 ⟨Nat.le_of_ble_eq_true rfl, Nat.le_of_ble_eq_true rfl⟩ hK hP hD hS hA [0, 1, 2, 3] [] (by decide) rfl rfl (by decide) (by decide) (fun r_49 u_49 H locs hw_49 hP hD hS => ?_)
          have hP : gP g [gO mo 9 [.int th, .ref zt, .int (nI tn), .int (nI sz), .ref zx, .ref zy, .ref zm, .ref zb, .int rt, .int w0, .int w1, .int w2, .int lg, .int nr, .int (nI yr), .ref va, .ref vb, .ref vc, .ref vd, .ref qa, .ref qb, .ref qc, .int (nI ln), .ref sa, .ref sb, .ref sc, .ref sd, .ref se, .int (nI pn), .ref ma, .ref mb, .ref mc, .ref rv, .int (nI mn), .int tol, .int (nI rn)], gI g zx 144 fx, gI g zy 144 fy, gI g zm 3 fm] H := hP
          have hD : va_D A [gO mo 9 [.int th, .ref zt, .int (nI tn), .int (nI sz), .ref zx, .ref zy, .ref zm, .ref zb, .int rt, .int w0, .int w1, .int w2, .int lg, .int nr, .int (nI yr), .ref va, .ref vb, .ref vc, .ref vd, .ref qa, .ref qb, .ref qc, .int (nI ln), .ref sa, .ref sb, .ref sc, .ref sd, .ref se, .int (nI pn), .ref ma, .ref mb, .ref mc, .ref rv, .int (nI mn), .int tol, .int (nI rn)], gI g zx 144 fx, gI g zy 144 fy, gI g zm 3 fm] := hD
          obtain rfl := hw_49
          refine lv_aload_n hx hb dX9_meet_52 rfl (lv_at hl 0 rfl) ?_
          refine lv_iload_n hx hb dX9_meet_53 rfl (lv_at hl 1 rfl) ?_
          refine lv_iload_n hx hb dX9_meet_54 rfl (lv_at hl 2 rfl) ?_
          refine lv_iload hx hb dX9_meet_55 (lv_at hl 4 rfl) ?_
          refine g_VI (wr := []) (As := [.int (nI a), .int (nI b), .int (nI d_)]) (rest := [.int (turnR X Y a b c_)]) (n := 3) F (c_X9_turn l g mo th zt tn sz zx zy zm zb rt w0 w1 w2 lg nr yr va vb vc vd qa qb qc ln sa sb sc sd se pn ma mb mc rv mn tol rn n fm fx fy X Y a b d_ (hm0) (hn) (hX0) (hY0) (hok) (ha) (hb_) (hd_)) gX9_meet_X9_turn rfl (by decide) ⟨by decide, by decide⟩ 0 9 rfl rfl rfl rfl hl.1 rfl (Nat.le_of_ble_eq_true rfl) dX9_meet_57 ⟨Nat.le_of_ble_eq_true rfl, Nat.le_of_ble_eq_true rfl⟩ hK hP hD hS hA [0, 1, 2, 3] [] (by decide) rfl rfl (by decide) (by decide) (fun r_57 u_57 H locs hw_57 hP hD hS => ?_)
          have hP : gP g [gO mo 9 [.int th, .ref zt, .int (nI tn), .int (nI sz), .ref zx, .ref zy, .ref zm, .ref zb, .int rt, .int w0, .int w1, .int w2, .int lg, .int nr, .int (nI yr), .ref va, .ref vb, .ref vc, .ref vd, .ref qa, .ref qb, .ref qc, .int (nI ln), .ref sa, .ref sb, .ref sc, .ref sd, .ref se, .int (nI pn), .ref ma, .ref mb, .ref mc, .ref rv, .int (nI mn), .int tol, .int (nI rn)], gI g zx 144 fx, gI g zy 144 fy, gI g zm 3 fm] H := hP
          have hD : va_D A [gO mo 9 [.int th, .ref zt, .int (nI tn), .int (nI sz), .ref zx, .ref zy, .ref zm, .ref zb, .int rt, .int w0, .int w1, .int w2, .int lg, .int nr, .int (nI yr), .ref va, .ref vb, .ref vc, .ref vd, .ref qa, .ref qb, .ref qc, .int (nI ln), .ref sa, .ref sb, .ref sc, .ref sd, .ref se, .int (nI pn), .ref ma, .ref mb, .ref mc, .ref rv, .int (nI mn), .int tol, .int (nI rn)], gI g zx 144 fx, gI g zy 144 fy, gI g zm 3 fm] := hD
          obtain rfl := hw_57
          refine lv_imul hx hb dX9_meet_60 ?_
          refine lv_if_ge (tgt := 88) hx hb dX9_meet_61 (by decide) (fun c_61 => ?_) (fun c_61 => ?_)
          · refine lv_iconst (v := 0) hx hb dX9_meet_88 (by decide) ?_
            exact hret _ _ _ _ 0 () dX9_meet_89 rfl (by simp [mtP, b_4, b_15, b_26, b_37, Int32.not_lt.mpr c_61]) hP hD hS
          · refine lv_aload_n hx hb dX9_meet_64 rfl (lv_at hl 0 rfl) ?_
            refine lv_iload_n hx hb dX9_meet_65 rfl (lv_at hl 3 rfl) ?_
            refine lv_iload hx hb dX9_meet_66 (lv_at hl 4 rfl) ?_
            refine lv_iload_n hx hb dX9_meet_68 rfl (lv_at hl 1 rfl) ?_
            refine g_VI (wr := []) (As := [.int (nI c_), .int (nI d_), .int (nI a)]) (rest := []) (n := 3) F (c_X9_turn l g mo th zt tn sz zx zy zm zb rt w0 w1 w2 lg nr yr va vb vc vd qa qb qc ln sa sb sc sd se pn ma mb mc rv mn tol rn n fm fx fy X Y c_ d_ a (hm0) (hn) (hX0) (hY0) (hok) (hc_) (hd_) (ha)) gX9_meet_X9_turn rfl (by decide) ⟨by decide, by decide⟩ 0 9 rfl rfl rfl rfl hl.1 rfl (Nat.le_of_ble_eq_true rfl) dX9_meet_69 ⟨Nat.le_of_ble_eq_true rfl, Nat.le_of_ble_eq_true rfl⟩ hK hP hD hS hA [0, 1, 2, 3] [] (by decide) rfl rfl (by decide) (by decide) (fun r_69 u_69 H locs hw_69 hP hD hS => ?_)
            have hP : gP g [gO mo 9 [.int th, .ref zt, .int (nI tn), .int (nI sz), .ref zx, .ref zy, .ref zm, .ref zb, .int rt, .int w0, .int w1, .int w2, .int lg, .int nr, .int (nI yr), .ref va, .ref vb, .ref vc, .ref vd, .ref qa, .ref qb, .ref qc, .int (nI ln), .ref sa, .ref sb, .ref sc, .ref sd, .ref se, .int (nI pn), .ref ma, .ref mb, .ref mc, .ref rv, .int (nI mn), .int tol, .int (nI rn)], gI g zx 144 fx, gI g zy 144 fy, gI g zm 3 fm] H := hP
            have hD : va_D A [gO mo 9 [.int th, .ref zt, .int (nI tn), .int (nI sz), .ref zx, .ref zy, .ref zm, .ref zb, .int rt, .int w0, .int w1, .int w2, .int lg, .int nr, .int (nI yr), .ref va, .ref vb, .ref vc, .ref vd, .ref qa, .ref qb, .ref qc, .int (nI ln), .ref sa, .ref sb, .ref sc, .ref sd, .ref se, .int (nI pn), .ref ma, .ref mb, .ref mc, .ref rv, .int (nI mn), .int tol, .int (nI rn)], gI g zx 144 fx, gI g zy 144 fy, gI g zm 3 fm] := hD
            obtain rfl := hw_69
            refine lv_aload_n hx hb dX9_meet_72 rfl (lv_at hl 0 rfl) ?_
            refine lv_iload_n hx hb dX9_meet_73 rfl (lv_at hl 3 rfl) ?_
            refine lv_iload hx hb dX9_meet_74 (lv_at hl 4 rfl) ?_
            refine lv_iload_n hx hb dX9_meet_76 rfl (lv_at hl 2 rfl) ?_
            refine g_VI (wr := []) (As := [.int (nI c_), .int (nI d_), .int (nI b)]) (rest := [.int (turnR X Y c_ d_ a)]) (n := 3) F (c_X9_turn l g mo th zt tn sz zx zy zm zb rt w0 w1 w2 lg nr yr va vb vc vd qa qb qc ln sa sb sc sd se pn ma mb mc rv mn tol rn n fm fx fy X Y c_ d_ b (hm0) (hn) (hX0) (hY0) (hok) (hc_) (hd_) (hb_)) gX9_meet_X9_turn rfl (by decide) ⟨by decide, by decide⟩ 0 9 rfl rfl rfl rfl hl.1 rfl (Nat.le_of_ble_eq_true rfl) dX9_meet_77 ⟨Nat.le_of_ble_eq_true rfl, Nat.le_of_ble_eq_true rfl⟩ hK hP hD hS hA [0, 1, 2, 3] [] (by decide) rfl rfl (by decide) (by decide) (fun r_77 u_77 H locs hw_77 hP hD hS => ?_)
            have hP : gP g [gO mo 9 [.int th, .ref zt, .int (nI tn), .int (nI sz), .ref zx, .ref zy, .ref zm, .ref zb, .int rt, .int w0, .int w1, .int w2, .int lg, .int nr, .int (nI yr), .ref va, .ref vb, .ref vc, .ref vd, .ref qa, .ref qb, .ref qc, .int (nI ln), .ref sa, .ref sb, .ref sc, .ref sd, .ref se, .int (nI pn), .ref ma, .ref mb, .ref mc, .ref rv, .int (nI mn), .int tol, .int (nI rn)], gI g zx 144 fx, gI g zy 144 fy, gI g zm 3 fm] H := hP
            have hD : va_D A [gO mo 9 [.int th, .ref zt, .int (nI tn), .int (nI sz), .ref zx, .ref zy, .ref zm, .ref zb, .int rt, .int w0, .int w1, .int w2, .int lg, .int nr, .int (nI yr), .ref va, .ref vb, .ref vc, .ref vd, .ref qa, .ref qb, .ref qc, .int (nI ln), .ref sa, .ref sb, .ref sc, .ref sd, .ref se, .int (nI pn), .ref ma, .ref mb, .ref mc, .ref rv, .int (nI mn), .int tol, .int (nI rn)], gI g zx 144 fx, gI g zy 144 fy, gI g zm 3 fm] := hD
            obtain rfl := hw_77
            refine lv_imul hx hb dX9_meet_80 ?_
            refine lv_if_ge (tgt := 88) hx hb dX9_meet_81 (by decide) (fun c_81 => ?_) (fun c_81 => ?_)
            · refine lv_iconst (v := 0) hx hb dX9_meet_88 (by decide) ?_
              exact hret _ _ _ _ 0 () dX9_meet_89 rfl (by simp [mtP, b_4, b_15, b_26, b_37, Int32.not_le.mp c_61, Int32.not_lt.mpr c_81]) hP hD hS
            · refine lv_iconst (v := 1) hx hb dX9_meet_84 (by decide) ?_
              refine lv_goto (tgt := 89) hx hb dX9_meet_85 (by decide) ?_
              exact hret _ _ _ _ 1 () dX9_meet_89 rfl (by simp [mtP, b_4, b_15, b_26, b_37, Int32.not_le.mp c_61, Int32.not_le.mp c_81]) hP hD hS

abbrev rm_X9_crossings : Room := { frames := 3, cells := 0, slots := 0, locals := 71 }
theorem i_X9_crossings_X9 : ∀ w ∈ wsX90, w ∈ wsX9_crossings := by decide +kernel
theorem k_X9_crossings_f1 : Cond.fieldLink RX9 1 (TX9 0).1 (TX9 0).2.1 (TX9 0).2.2.1 ∈ wsX9_crossings := by decide +kernel
theorem k_X9_crossings_f34 : Cond.fieldLink RX9 34 (TX9 6).1 (TX9 6).2.1 (TX9 6).2.2.1 ∈ wsX9_crossings := by decide +kernel
set_option maxHeartbeats 4000000 in
set_option maxRecDepth 100000 in
theorem c_X9_crossings (l : Launch) (g : gT) (mo : Nat) (th : Int32) (zt : Nat) (tn : Nat) (sz : Nat) (zx : Nat) (zy : Nat) (zm : Nat) (zb : Nat) (rt : Int32) (w0 : Int32) (w1 : Int32) (w2 : Int32) (lg : Int32) (nr : Int32) (yr : Nat) (va : Nat) (vb : Nat) (vc : Nat) (vd : Nat) (qa : Nat) (qb : Nat) (qc : Nat) (ln : Nat) (sa : Nat) (sb : Nat) (sc : Nat) (sd : Nat) (se : Nat) (pn : Nat) (ma : Nat) (mb : Nat) (mc : Nat) (rv : Nat) (mn : Nat) (tol : Int32) (rn : Nat) (n : Nat) (fm : Nat → Int32) (fx : Nat → Int32) (fy : Nat → Int32) (X : Nat → Int32) (Y : Nat → Int32) (hm0 : fm 0 = nI n) (hn : n ≤ 48) (hX0 : ∀ k, k < n → fx (48 * 0 + k) = X k) (hY0 : ∀ k, k < n → fy (48 * 0 + k) = Y k) (hok : okL (n, X, Y)) : CtI l g yX9_crossings wsX9_crossings rm_X9_crossings [.ref mo] [gO mo 9 [.int th, .ref zt, .int (nI tn), .int (nI sz), .ref zx, .ref zy, .ref zm, .ref zb, .int rt, .int w0, .int w1, .int w2, .int lg, .int nr, .int (nI yr), .ref va, .ref vb, .ref vc, .ref vd, .ref qa, .ref qb, .ref qc, .int (nI ln), .ref sa, .ref sb, .ref sc, .ref sd, .ref se, .int (nI pn), .ref ma, .ref mb, .ref mc, .ref rv, .int (nI mn), .int tol, .int (nI rn)], gI g zx 144 fx, gI g zy 144 fy, gI g zm 3 fm] (fun (r : Int32) (_ : Unit) => r = nI (crossS X Y n (n - 1))) (fun (_ : Unit) => [gO mo 9 [.int 0, .ref zt, .int (nI tn), .int (nI sz), .ref zx, .ref zy, .ref zm, .ref zb, .int rt, .int w0, .int w1, .int w2, .int lg, .int nr, .int (nI yr), .ref va, .ref vb, .ref vc, .ref vd, .ref qa, .ref qb, .ref qc, .int (nI ln), .ref sa, .ref sb, .ref sc, .ref sd, .ref se, .int (nI pn), .ref ma, .ref mb, .ref mc, .ref rv, .int (nI mn), .int tol, .int (nI rn)], gI g zx 144 fx, gI g zy 144 fy, gI g zm 3 fm]) := by
  refine CtI.of (cc := cX9_crossings) (maxL := 4) (ret := .int) (by decide) rfl (Nat.le_of_ble_eq_true rfl) ?_
  intro p e s m args below meth c A Q hnm F hK hA hP hD hS hret ls hl
  have hx := F.1
  have hb := F.2.1
  have hl : lv_has ls 4 [(0, .ref mo)] := hl
  have h1n : 1 ≤ n := by have := hok.1; have h : 4 ≤ n := this; omega
  refine lv_aload_n hx hb dX9_crossings_0 rfl (lv_at hl 0 rfl) ?_
  refine lv_iconst (v := 0) hx hb dX9_crossings_1 (by decide) ?_
  refine g_put (C := RX9) (T := TX9) (N := 36) (ws2 := [gO mo 9 [.int 0, .ref zt, .int (nI tn), .int (nI sz), .ref zx, .ref zy, .ref zm, .ref zb, .int rt, .int w0, .int w1, .int w2, .int lg, .int nr, .int (nI yr), .ref va, .ref vb, .ref vc, .ref vd, .ref qa, .ref qb, .ref qc, .int (nI ln), .ref sa, .ref sb, .ref sc, .ref sd, .ref se, .int (nI pn), .ref ma, .ref mb, .ref mc, .ref rv, .int (nI mn), .int tol, .int (nI rn)], gI g zx 144 fx, gI g zy 144 fy, gI g zm 3 fm]) F hK hP hD hS i_X9_crossings_X9 tyX9 tyX9_ok nmX9 0 rfl rfl 0 (by decide) k_X9_crossings_f1 rfl (v := .int 0) rfl rfl (Nat.le_of_ble_eq_true rfl) rfl dX9_crossings_2 (fun H locs hP hD hS => ?_)
  refine lv_iconst (v := 0) hx hb dX9_crossings_5 (by decide) ?_
  refine lv_istore_n (lv' := [(1, .int 0), (0, .ref mo)]) hx hb dX9_crossings_6 rfl hl (by decide) rfl (fun ls hl => ?_)
  refine lv_iconst (v := 0) hx hb dX9_crossings_7 (by decide) ?_
  refine lv_istore_n (lv' := [(2, .int 0), (1, .int 0), (0, .ref mo)]) hx hb dX9_crossings_8 rfl hl (by decide) rfl (fun ls hl => ?_)
  have L9 : ∀ (fuel : Nat) (cn : Nat) (a : Nat) (ls : Array Slot) (H : Heap) (locs : List Loc), n - a < fuel → (a + 1 ≤ n) → (cn = crossS X Y n a) → lv_has ls 4 [(0, .ref mo), (1, .int (nI cn)), (2, .int (nI a))] → gP g [gO mo 9 [.int 0, .ref zt, .int (nI tn), .int (nI sz), .ref zx, .ref zy, .ref zm, .ref zb, .int rt, .int w0, .int w1, .int w2, .int lg, .int nr, .int (nI yr), .ref va, .ref vb, .ref vc, .ref vd, .ref qa, .ref qb, .ref qc, .int (nI ln), .ref sa, .ref sb, .ref sc, .ref sd, .ref se, .int (nI pn), .ref ma, .ref mb, .ref mc, .ref rv, .int (nI mn), .int tol, .int (nI rn)], gI g zx 144 fx, gI g zy 144 fy, gI g zm 3 fm] H → va_D A [gO mo 9 [.int 0, .ref zt, .int (nI tn), .int (nI sz), .ref zx, .ref zy, .ref zm, .ref zb, .int rt, .int w0, .int w1, .int w2, .int lg, .int nr, .int (nI yr), .ref va, .ref vb, .ref vc, .ref vd, .ref qa, .ref qb, .ref qc, .int (nI ln), .ref sa, .ref sb, .ref sc, .ref sd, .ref se, .int (nI pn), .ref ma, .ref mb, .ref mc, .ref rv, .int (nI mn), .int tol, .int (nI rn)], gI g zx 144 fx, gI g zy 144 fy, gI g zm 3 fm] → va_S A s.heap H locs → W p l e rm_X9_crossings s m args below meth c H locs 0 0 Q (F0 m 9 ls []) := by
    intro fuel
    induction fuel with
    | zero => intro cn a _ _ _ hk; exact absurd hk (Nat.not_lt_zero _)
    | succ fuel_9 ih_9 =>
      intro cn a ls H locs hk_9 ha hc hl hP hD hS
      refine lv_iload_n hx hb dX9_crossings_9 rfl (lv_at hl 2 rfl) ?_
      refine lv_aload_n hx hb dX9_crossings_10 rfl (lv_at hl 0 rfl) ?_
      refine g_get (C := RX9) (T := TX9) (N := 36) F hK hP i_X9_crossings_X9 0 rfl rfl 6 (by decide) k_X9_crossings_f34 (v := .ref zm) rfl dX9_crossings_11 ?_
      refine lv_iconst (v := 0) hx hb dX9_crossings_14 (by decide) ?_
      refine g_iald (i := 0) (v := (nI n)) hx hb hK hP 3 rfl (by decide) (by omega) (hm0) dX9_crossings_15 ?_
      refine lv_iconst (v := 1) hx hb dX9_crossings_16 (by decide) ?_
      refine n_isub (a := n) (b := 1) (d := n - 1) hx hb dX9_crossings_17 (by omega) (by omega) ?_
      refine n_icmp_ge (a := a) (b := n - 1) (tgt := 72) hx hb dX9_crossings_18 (by decide) (by omega) (by omega) (fun c_18 => ?_) (fun c_18 => ?_)
      · refine lv_iload_n hx hb dX9_crossings_72 rfl (lv_at hl 1 rfl) ?_
        exact hret _ _ _ _ (nI cn) () dX9_crossings_73 rfl (by rw [hc, show a = n - 1 by omega]) hP hD hS
      · refine lv_iload_n hx hb dX9_crossings_21 rfl (lv_at hl 2 rfl) ?_
        refine lv_iconst (v := 2) hx hb dX9_crossings_22 (by decide) ?_
        refine n_iadd (a := a) (b := 2) (d := a + 2) hx hb dX9_crossings_23 (by omega) ?_
        refine lv_istore_n (lv' := [(3, .int (nI (a + 2))), (0, .ref mo), (1, .int (nI cn)), (2, .int (nI a))]) hx hb dX9_crossings_24 rfl hl (by decide) rfl (fun ls hl => ?_)
        have L25 : ∀ (fuel : Nat) (c2 : Nat) (d : Nat) (ls : Array Slot) (H : Heap) (locs : List Loc), n - d < fuel → (d ≤ n - 1 - (a + 2)) → (c2 = crossS X Y n a + crossR X Y a d) → lv_has ls 4 [(0, .ref mo), (1, .int (nI c2)), (2, .int (nI a)), (3, .int (nI (a + 2 + d)))] → gP g [gO mo 9 [.int 0, .ref zt, .int (nI tn), .int (nI sz), .ref zx, .ref zy, .ref zm, .ref zb, .int rt, .int w0, .int w1, .int w2, .int lg, .int nr, .int (nI yr), .ref va, .ref vb, .ref vc, .ref vd, .ref qa, .ref qb, .ref qc, .int (nI ln), .ref sa, .ref sb, .ref sc, .ref sd, .ref se, .int (nI pn), .ref ma, .ref mb, .ref mc, .ref rv, .int (nI mn), .int tol, .int (nI rn)], gI g zx 144 fx, gI g zy 144 fy, gI g zm 3 fm] H → va_D A [gO mo 9 [.int 0, .ref zt, .int (nI tn), .int (nI sz), .ref zx, .ref zy, .ref zm, .ref zb, .int rt, .int w0, .int w1, .int w2, .int lg, .int nr, .int (nI yr), .ref va, .ref vb, .ref vc, .ref vd, .ref qa, .ref qb, .ref qc, .int (nI ln), .ref sa, .ref sb, .ref sc, .ref sd, .ref se, .int (nI pn), .ref ma, .ref mb, .ref mc, .ref rv, .int (nI mn), .int tol, .int (nI rn)], gI g zx 144 fx, gI g zy 144 fy, gI g zm 3 fm] → va_S A s.heap H locs → W p l e rm_X9_crossings s m args below meth c H locs 0 0 Q (F0 m 25 ls []) := by
          intro fuel
          induction fuel with
          | zero => intro c2 d _ _ _ hk; exact absurd hk (Nat.not_lt_zero _)
          | succ fuel_25 ih_25 =>
            intro c2 d ls H locs hk_25 hd hc2 hl hP hD hS
            refine lv_iload_n hx hb dX9_crossings_25 rfl (lv_at hl 3 rfl) ?_
            refine lv_aload_n hx hb dX9_crossings_26 rfl (lv_at hl 0 rfl) ?_
            refine g_get (C := RX9) (T := TX9) (N := 36) F hK hP i_X9_crossings_X9 0 rfl rfl 6 (by decide) k_X9_crossings_f34 (v := .ref zm) rfl dX9_crossings_27 ?_
            refine lv_iconst (v := 0) hx hb dX9_crossings_30 (by decide) ?_
            refine g_iald (i := 0) (v := (nI n)) hx hb hK hP 3 rfl (by decide) (by omega) (hm0) dX9_crossings_31 ?_
            refine lv_iconst (v := 1) hx hb dX9_crossings_32 (by decide) ?_
            refine n_isub (a := n) (b := 1) (d := n - 1) hx hb dX9_crossings_33 (by omega) (by omega) ?_
            refine n_icmp_ge (a := a + 2 + d) (b := n - 1) (tgt := 66) hx hb dX9_crossings_34 (by decide) (by omega) (by omega) (fun c_34 => ?_) (fun c_34 => ?_)
            · refine lv_iinc (v := (nI (a + 1))) (lv' := [(2, .int (nI (a + 1))), (0, .ref mo), (1, .int (nI c2)), (3, .int (nI (a + 2 + d)))]) hx hb dX9_crossings_66 hl (k := 2) rfl (g_inc a 1 (by decide)) (by decide) rfl (fun ls hl => ?_)
              refine lv_goto (tgt := 9) hx hb dX9_crossings_69 (by decide) ?_
              exact ih_9 c2 (a + 1) ls _ _ (by omega) (by omega) (by rw [hc2, show d = n - 1 - (a + 2) by omega]; rfl) (lv_sub hl [1, 2, 0] rfl) hP hD hS
            · refine lv_iload_n hx hb dX9_crossings_37 rfl (lv_at hl 1 rfl) ?_
              refine lv_aload_n hx hb dX9_crossings_38 rfl (lv_at hl 0 rfl) ?_
              refine lv_iload_n hx hb dX9_crossings_39 rfl (lv_at hl 2 rfl) ?_
              refine lv_iload_n hx hb dX9_crossings_40 rfl (lv_at hl 2 rfl) ?_
              refine lv_iconst (v := 1) hx hb dX9_crossings_41 (by decide) ?_
              refine n_iadd (a := a) (b := 1) (d := a + 1) hx hb dX9_crossings_42 (by omega) ?_
              refine lv_iload_n hx hb dX9_crossings_43 rfl (lv_at hl 3 rfl) ?_
              refine lv_iload_n hx hb dX9_crossings_44 rfl (lv_at hl 3 rfl) ?_
              refine lv_iconst (v := 1) hx hb dX9_crossings_45 (by decide) ?_
              refine n_iadd (a := a + 2 + d) (b := 1) (d := a + 2 + d + 1) hx hb dX9_crossings_46 (by omega) ?_
              refine g_VI (wr := []) (As := [.int (nI a), .int (nI (a + 1)), .int (nI (a + 2 + d)), .int (nI (a + 2 + d + 1))]) (rest := [.int (nI c2)]) (n := 4) F (c_X9_meet l g mo 0 zt tn sz zx zy zm zb rt w0 w1 w2 lg nr yr va vb vc vd qa qb qc ln sa sb sc sd se pn ma mb mc rv mn tol rn n fm fx fy X Y a (a + 1) (a + 2 + d) (a + 2 + d + 1) (hm0) (hn) (hX0) (hY0) (hok) (by omega) (by omega) (by omega) (by omega)) gX9_crossings_X9_meet rfl (by decide) ⟨by decide, by decide⟩ 0 9 rfl rfl rfl rfl hl.1 rfl (Nat.le_of_ble_eq_true rfl) dX9_crossings_47 ⟨Nat.le_of_ble_eq_true rfl, Nat.le_of_ble_eq_true rfl⟩ hK hP hD hS hA [0, 1, 2, 3] [] (by decide) rfl rfl (by decide) (by decide) (fun r_47 u_47 H locs hw_47 hP hD hS => ?_)
              have hP : gP g [gO mo 9 [.int 0, .ref zt, .int (nI tn), .int (nI sz), .ref zx, .ref zy, .ref zm, .ref zb, .int rt, .int w0, .int w1, .int w2, .int lg, .int nr, .int (nI yr), .ref va, .ref vb, .ref vc, .ref vd, .ref qa, .ref qb, .ref qc, .int (nI ln), .ref sa, .ref sb, .ref sc, .ref sd, .ref se, .int (nI pn), .ref ma, .ref mb, .ref mc, .ref rv, .int (nI mn), .int tol, .int (nI rn)], gI g zx 144 fx, gI g zy 144 fy, gI g zm 3 fm] H := hP
              have hD : va_D A [gO mo 9 [.int 0, .ref zt, .int (nI tn), .int (nI sz), .ref zx, .ref zy, .ref zm, .ref zb, .int rt, .int w0, .int w1, .int w2, .int lg, .int nr, .int (nI yr), .ref va, .ref vb, .ref vc, .ref vd, .ref qa, .ref qb, .ref qc, .int (nI ln), .ref sa, .ref sb, .ref sc, .ref sd, .ref se, .int (nI pn), .ref ma, .ref mb, .ref mc, .ref rv, .int (nI mn), .int tol, .int (nI rn)], gI g zx 144 fx, gI g zy 144 fy, gI g zm 3 fm] := hD
              rcases hw_47 with ⟨rfl, b_47⟩ | ⟨rfl, b_47⟩
              · refine lv_if_eq (tgt := 57) hx hb dX9_crossings_50 (by decide) (fun h => absurd h (by decide)) (fun _ => ?_)
                refine lv_iconst (v := 1) hx hb dX9_crossings_53 (by decide) ?_
                refine lv_goto (tgt := 58) hx hb dX9_crossings_54 (by decide) ?_
                refine n_iadd (a := c2) (b := 1) (d := c2 + 1) hx hb dX9_crossings_58 (by omega) ?_
                refine lv_istore_n (lv' := [(1, .int (nI (c2 + 1))), (0, .ref mo), (2, .int (nI a)), (3, .int (nI (a + 2 + d)))]) hx hb dX9_crossings_59 rfl hl (by decide) rfl (fun ls hl => ?_)
                refine lv_iinc (v := (nI (a + 2 + d + 1))) (lv' := [(3, .int (nI (a + 2 + d + 1))), (1, .int (nI (c2 + 1))), (0, .ref mo), (2, .int (nI a))]) hx hb dX9_crossings_60 hl (k := 3) rfl (g_inc (a + 2 + d) 1 (by decide)) (by decide) rfl (fun ls hl => ?_)
                refine lv_goto (tgt := 25) hx hb dX9_crossings_63 (by decide) ?_
                exact ih_25 (c2 + 1) (d + 1) ls _ _ (by omega) (by omega) (by rw [hc2]; exact (congrArg (fun z => crossS X Y n a + z) (cntB_y (q := fun k => meetB X Y a (a + 2 + k)) ((mt_i (n := n) hok.2.2 (by omega) (by omega)).mp b_47))).symm) (lv_sub hl [2, 1, 3, 0] rfl) hP hD hS
              · refine lv_if_eq (tgt := 57) hx hb dX9_crossings_50 (by decide) (fun _ => ?_) (fun h => absurd (by decide) h)
                refine lv_iconst (v := 0) hx hb dX9_crossings_57 (by decide) ?_
                refine n_iadd (a := c2) (b := 0) (d := c2) hx hb dX9_crossings_58 (by omega) ?_
                refine lv_istore_n (lv' := [(1, .int (nI c2)), (0, .ref mo), (2, .int (nI a)), (3, .int (nI (a + 2 + d)))]) hx hb dX9_crossings_59 rfl hl (by decide) rfl (fun ls hl => ?_)
                refine lv_iinc (v := (nI (a + 2 + d + 1))) (lv' := [(3, .int (nI (a + 2 + d + 1))), (1, .int (nI c2)), (0, .ref mo), (2, .int (nI a))]) hx hb dX9_crossings_60 hl (k := 3) rfl (g_inc (a + 2 + d) 1 (by decide)) (by decide) rfl (fun ls hl => ?_)
                refine lv_goto (tgt := 25) hx hb dX9_crossings_63 (by decide) ?_
                exact ih_25 c2 (d + 1) ls _ _ (by omega) (by omega) (by rw [hc2]; exact (congrArg (fun z => crossS X Y n a + z) (cntB_n (q := fun k => meetB X Y a (a + 2 + k)) (fun z => b_47 ((mt_i (n := n) hok.2.2 (by omega) (by omega)).mpr z)))).symm) (lv_sub hl [2, 1, 3, 0] rfl) hP hD hS
        exact L25 ((n - 0) + 1) cn 0 ls _ _ (Nat.lt_succ_self _) (by omega) (hc) (lv_sub hl [1, 2, 3, 0] rfl) hP hD hS
  exact L9 ((n - 0) + 1) 0 0 ls _ _ (Nat.lt_succ_self _) (by omega) (rfl) (lv_sub hl [2, 1, 0] rfl) hP hD hS

