abbrev rm_X9_isNear : Room := { frames := 1, cells := 0, slots := 0, locals := 20 }
theorem i_X9_isNear_X9 : ∀ w ∈ wsX90, w ∈ wsX9_isNear := by decide +kernel
theorem k_X9_isNear_f27 : Cond.fieldLink RX9 27 (TX9 4).1 (TX9 4).2.1 (TX9 4).2.2.1 ∈ wsX9_isNear := by decide +kernel
theorem k_X9_isNear_f55 : Cond.fieldLink RX9 55 (TX9 13).1 (TX9 13).2.1 (TX9 13).2.2.1 ∈ wsX9_isNear := by decide +kernel
theorem k_X9_isNear_f31 : Cond.fieldLink RX9 31 (TX9 5).1 (TX9 5).2.1 (TX9 5).2.2.1 ∈ wsX9_isNear := by decide +kernel
theorem k_X9_isNear_f34 : Cond.fieldLink RX9 34 (TX9 6).1 (TX9 6).2.1 (TX9 6).2.2.1 ∈ wsX9_isNear := by decide +kernel
set_option maxHeartbeats 4000000 in
set_option maxRecDepth 100000 in
theorem c_X9_isNear (l : Launch) (g : gT) (mo : Nat) (th : Int32) (zt : Nat) (tn : Nat) (sz : Nat) (zx : Nat) (zy : Nat) (zm : Nat) (zb : Nat) (rt : Int32) (w0 : Int32) (w1 : Int32) (w2 : Int32) (lg : Int32) (nr : Int32) (yr : Nat) (va : Nat) (vb : Nat) (vc : Nat) (vd : Nat) (qa : Nat) (qb : Nat) (qc : Nat) (ln : Nat) (sa : Nat) (sb : Nat) (sc : Nat) (sd : Nat) (se : Nat) (pn : Nat) (ma : Nat) (mb : Nat) (mc : Nat) (rv : Nat) (mn : Nat) (tol : Int32) (rn : Nat) (l_ : Nat) (n : Nat) (fm : Nat → Int32) (fx : Nat → Int32) (fy : Nat → Int32) (X : Nat → Int32) (Y : Nat → Int32) (i : Nat) (j : Nat) (hl3 : l_ < 3) (hm : fm l_ = nI n) (hn : n ≤ 48) (hX : ∀ k, k < n → fx (48 * l_ + k) = X k) (hY : ∀ k, k < n → fy (48 * l_ + k) = Y k) (hij : i < j) (hjn : j < n) (hok : okL (n, X, Y)) : CtI l g yX9_isNear wsX9_isNear rm_X9_isNear [.ref mo, .int (nI l_), .int (nI i), .int (nI j)] [gO mo 9 [.int th, .ref zt, .int (nI tn), .int (nI sz), .ref zx, .ref zy, .ref zm, .ref zb, .int rt, .int w0, .int w1, .int w2, .int lg, .int nr, .int (nI yr), .ref va, .ref vb, .ref vc, .ref vd, .ref qa, .ref qb, .ref qc, .int (nI ln), .ref sa, .ref sb, .ref sc, .ref sd, .ref se, .int (nI pn), .ref ma, .ref mb, .ref mc, .ref rv, .int (nI mn), .int tol, .int (nI rn)], gI g zx 144 fx, gI g zy 144 fy, gI g zm 3 fm] (fun (r : Int32) (_ : Unit) => (r = 1 ∧ nk2B X Y n nr i j = true) ∨ (r = 0 ∧ ¬ nk2B X Y n nr i j = true)) (fun (_ : Unit) => [gO mo 9 [.int th, .ref zt, .int (nI tn), .int (nI sz), .ref zx, .ref zy, .ref zm, .ref zb, .int rt, .int w0, .int w1, .int w2, .int lg, .int nr, .int (nI yr), .ref va, .ref vb, .ref vc, .ref vd, .ref qa, .ref qb, .ref qc, .int (nI ln), .ref sa, .ref sb, .ref sc, .ref sd, .ref se, .int (nI pn), .ref ma, .ref mb, .ref mc, .ref rv, .int (nI mn), .int tol, .int (nI rn)], gI g zx 144 fx, gI g zy 144 fy, gI g zm 3 fm]) := by
  refine CtI.of (cc := cX9_isNear) (maxL := 5) (ret := .boolean) (by decide) rfl (Nat.le_of_ble_eq_true rfl) ?_
  intro p e s m args below meth c A Q hnm F hK hA hP hD hS hret ls hl
  have hx := F.1
  have hb := F.2.1
  have hl : lv_has ls 5 [(0, .ref mo), (1, .int (nI l_)), (2, .int (nI i)), (3, .int (nI j))] := hl
  have hpi := hok.2.2 i (show i < n by omega)
  have hpj := hok.2.2 j hjn
  have hnk := nkB_r (X := X) (Y := Y) (nr := nr) hpi.1 hpi.2 hpj.1 hpj.2
  refine lv_bipush (v := 48) hx hb dX9_isNear_0 (by decide) ?_
  refine lv_iload_n hx hb dX9_isNear_2 rfl (lv_at hl 1 rfl) ?_
  refine n_imul (a := 48) (b := l_) (d := 48 * l_) hx hb dX9_isNear_3 (rfl) ?_
  refine lv_istore (lv' := [(4, .int (nI (48 * l_))), (0, .ref mo), (1, .int (nI l_)), (2, .int (nI i)), (3, .int (nI j))]) hx hb dX9_isNear_4 hl (by decide) rfl (fun ls hl => ?_)
  refine lv_aload_n hx hb dX9_isNear_6 rfl (lv_at hl 1 rfl) ?_
  refine g_get (C := RX9) (T := TX9) (N := 36) F hK hP i_X9_isNear_X9 0 rfl rfl 4 (by decide) k_X9_isNear_f27 (v := .ref zx) rfl dX9_isNear_7 ?_
  refine lv_iload hx hb dX9_isNear_10 (lv_at hl 0 rfl) ?_
  refine lv_iload_n hx hb dX9_isNear_12 rfl (lv_at hl 3 rfl) ?_
  refine n_iadd (a := 48 * l_) (b := i) (d := 48 * l_ + i) hx hb dX9_isNear_13 (by omega) ?_
  refine g_iald (i := 48 * l_ + i) (v := (X i)) hx hb hK hP 1 rfl (by decide) (by omega) ((congrArg fx (show 48 * l_ + i = 48 * l_ + i by omega)).trans (hX i (by omega))) dX9_isNear_14 ?_
  refine lv_aload_n hx hb dX9_isNear_15 rfl (lv_at hl 1 rfl) ?_
  refine g_get (C := RX9) (T := TX9) (N := 36) F hK hP i_X9_isNear_X9 0 rfl rfl 4 (by decide) k_X9_isNear_f27 (v := .ref zx) rfl dX9_isNear_16 ?_
  refine lv_iload hx hb dX9_isNear_19 (lv_at hl 0 rfl) ?_
  refine lv_iload_n hx hb dX9_isNear_21 rfl (lv_at hl 4 rfl) ?_
  refine n_iadd (a := 48 * l_) (b := j) (d := 48 * l_ + j) hx hb dX9_isNear_22 (by omega) ?_
  refine g_iald (i := 48 * l_ + j) (v := (X j)) hx hb hK hP 1 rfl (by decide) (by omega) ((congrArg fx (show 48 * l_ + j = 48 * l_ + j by omega)).trans (hX j (by omega))) dX9_isNear_23 ?_
  refine lv_isub hx hb dX9_isNear_24 ?_
  refine g_SI (wr := [gO mo 9 [.int th, .ref zt, .int (nI tn), .int (nI sz), .ref zx, .ref zy, .ref zm, .ref zb, .int rt, .int w0, .int w1, .int w2, .int lg, .int nr, .int (nI yr), .ref va, .ref vb, .ref vc, .ref vd, .ref qa, .ref qb, .ref qc, .int (nI ln), .ref sa, .ref sb, .ref sc, .ref sd, .ref se, .int (nI pn), .ref ma, .ref mb, .ref mc, .ref rv, .int (nI mn), .int tol, .int (nI rn)], gI g zx 144 fx, gI g zy 144 fy, gI g zm 3 fm]) (As := [.int ((X i) - (X j))]) (rest := []) (n := 1) F (c_X9_size l g ((X i) - (X j))) gX9_isNear_X9_size rfl (by decide) ⟨by decide, by decide⟩ rfl hl.1 rfl (Nat.le_of_ble_eq_true rfl) dX9_isNear_25 ⟨Nat.le_of_ble_eq_true rfl, Nat.le_of_ble_eq_true rfl⟩ hK hP hD hS hA [] [0, 1, 2, 3] (by decide) rfl rfl (by decide) (by decide) (fun r_25 u_25 H locs hw_25 hP hD hS => ?_)
  have hP : gP g [gO mo 9 [.int th, .ref zt, .int (nI tn), .int (nI sz), .ref zx, .ref zy, .ref zm, .ref zb, .int rt, .int w0, .int w1, .int w2, .int lg, .int nr, .int (nI yr), .ref va, .ref vb, .ref vc, .ref vd, .ref qa, .ref qb, .ref qc, .int (nI ln), .ref sa, .ref sb, .ref sc, .ref sd, .ref se, .int (nI pn), .ref ma, .ref mb, .ref mc, .ref rv, .int (nI mn), .int tol, .int (nI rn)], gI g zx 144 fx, gI g zy 144 fy, gI g zm 3 fm] H := hP
  have hD : va_D A [gO mo 9 [.int th, .ref zt, .int (nI tn), .int (nI sz), .ref zx, .ref zy, .ref zm, .ref zb, .int rt, .int w0, .int w1, .int w2, .int lg, .int nr, .int (nI yr), .ref va, .ref vb, .ref vc, .ref vd, .ref qa, .ref qb, .ref qc, .int (nI ln), .ref sa, .ref sb, .ref sc, .ref sd, .ref se, .int (nI pn), .ref ma, .ref mb, .ref mc, .ref rv, .int (nI mn), .int tol, .int (nI rn)], gI g zx 144 fx, gI g zy 144 fy, gI g zm 3 fm] := hD
  obtain rfl := hw_25
  refine lv_aload_n hx hb dX9_isNear_28 rfl (lv_at hl 1 rfl) ?_
  refine g_get (C := RX9) (T := TX9) (N := 36) F hK hP i_X9_isNear_X9 0 rfl rfl 13 (by decide) k_X9_isNear_f55 (v := .int nr) rfl dX9_isNear_29 ?_
  refine lv_icmp_gt (tgt := 84) hx hb dX9_isNear_32 (by decide) (fun c_32 => ?_) (fun c_32 => ?_)
  · refine lv_iconst (v := 0) hx hb dX9_isNear_84 (by decide) ?_
    exact hret _ _ _ _ 0 () dX9_isNear_85 rfl (Or.inr ⟨rfl, fun z => by rw [nk2B, Bool.and_eq_true, hnk, decide_eq_true_eq] at z; exact z.1.1 c_32⟩) hP hD hS
  · refine lv_aload_n hx hb dX9_isNear_35 rfl (lv_at hl 1 rfl) ?_
    refine g_get (C := RX9) (T := TX9) (N := 36) F hK hP i_X9_isNear_X9 0 rfl rfl 5 (by decide) k_X9_isNear_f31 (v := .ref zy) rfl dX9_isNear_36 ?_
    refine lv_iload hx hb dX9_isNear_39 (lv_at hl 0 rfl) ?_
    refine lv_iload_n hx hb dX9_isNear_41 rfl (lv_at hl 3 rfl) ?_
    refine n_iadd (a := 48 * l_) (b := i) (d := 48 * l_ + i) hx hb dX9_isNear_42 (by omega) ?_
    refine g_iald (i := 48 * l_ + i) (v := (Y i)) hx hb hK hP 2 rfl (by decide) (by omega) ((congrArg fy (show 48 * l_ + i = 48 * l_ + i by omega)).trans (hY i (by omega))) dX9_isNear_43 ?_
    refine lv_aload_n hx hb dX9_isNear_44 rfl (lv_at hl 1 rfl) ?_
    refine g_get (C := RX9) (T := TX9) (N := 36) F hK hP i_X9_isNear_X9 0 rfl rfl 5 (by decide) k_X9_isNear_f31 (v := .ref zy) rfl dX9_isNear_45 ?_
    refine lv_iload hx hb dX9_isNear_48 (lv_at hl 0 rfl) ?_
    refine lv_iload_n hx hb dX9_isNear_50 rfl (lv_at hl 4 rfl) ?_
    refine n_iadd (a := 48 * l_) (b := j) (d := 48 * l_ + j) hx hb dX9_isNear_51 (by omega) ?_
    refine g_iald (i := 48 * l_ + j) (v := (Y j)) hx hb hK hP 2 rfl (by decide) (by omega) ((congrArg fy (show 48 * l_ + j = 48 * l_ + j by omega)).trans (hY j (by omega))) dX9_isNear_52 ?_
    refine lv_isub hx hb dX9_isNear_53 ?_
    refine g_SI (wr := [gO mo 9 [.int th, .ref zt, .int (nI tn), .int (nI sz), .ref zx, .ref zy, .ref zm, .ref zb, .int rt, .int w0, .int w1, .int w2, .int lg, .int nr, .int (nI yr), .ref va, .ref vb, .ref vc, .ref vd, .ref qa, .ref qb, .ref qc, .int (nI ln), .ref sa, .ref sb, .ref sc, .ref sd, .ref se, .int (nI pn), .ref ma, .ref mb, .ref mc, .ref rv, .int (nI mn), .int tol, .int (nI rn)], gI g zx 144 fx, gI g zy 144 fy, gI g zm 3 fm]) (As := [.int ((Y i) - (Y j))]) (rest := []) (n := 1) F (c_X9_size l g ((Y i) - (Y j))) gX9_isNear_X9_size rfl (by decide) ⟨by decide, by decide⟩ rfl hl.1 rfl (Nat.le_of_ble_eq_true rfl) dX9_isNear_54 ⟨Nat.le_of_ble_eq_true rfl, Nat.le_of_ble_eq_true rfl⟩ hK hP hD hS hA [] [0, 1, 2, 3] (by decide) rfl rfl (by decide) (by decide) (fun r_54 u_54 H locs hw_54 hP hD hS => ?_)
    have hP : gP g [gO mo 9 [.int th, .ref zt, .int (nI tn), .int (nI sz), .ref zx, .ref zy, .ref zm, .ref zb, .int rt, .int w0, .int w1, .int w2, .int lg, .int nr, .int (nI yr), .ref va, .ref vb, .ref vc, .ref vd, .ref qa, .ref qb, .ref qc, .int (nI ln), .ref sa, .ref sb, .ref sc, .ref sd, .ref se, .int (nI pn), .ref ma, .ref mb, .ref mc, .ref rv, .int (nI mn), .int tol, .int (nI rn)], gI g zx 144 fx, gI g zy 144 fy, gI g zm 3 fm] H := hP
    have hD : va_D A [gO mo 9 [.int th, .ref zt, .int (nI tn), .int (nI sz), .ref zx, .ref zy, .ref zm, .ref zb, .int rt, .int w0, .int w1, .int w2, .int lg, .int nr, .int (nI yr), .ref va, .ref vb, .ref vc, .ref vd, .ref qa, .ref qb, .ref qc, .int (nI ln), .ref sa, .ref sb, .ref sc, .ref sd, .ref se, .int (nI pn), .ref ma, .ref mb, .ref mc, .ref rv, .int (nI mn), .int tol, .int (nI rn)], gI g zx 144 fx, gI g zy 144 fy, gI g zm 3 fm] := hD
    obtain rfl := hw_54
    refine lv_aload_n hx hb dX9_isNear_57 rfl (lv_at hl 1 rfl) ?_
    refine g_get (C := RX9) (T := TX9) (N := 36) F hK hP i_X9_isNear_X9 0 rfl rfl 13 (by decide) k_X9_isNear_f55 (v := .int nr) rfl dX9_isNear_58 ?_
    refine lv_icmp_gt (tgt := 84) hx hb dX9_isNear_61 (by decide) (fun c_61 => ?_) (fun c_61 => ?_)
    · refine lv_iconst (v := 0) hx hb dX9_isNear_84 (by decide) ?_
      exact hret _ _ _ _ 0 () dX9_isNear_85 rfl (Or.inr ⟨rfl, fun z => by rw [nk2B, Bool.and_eq_true, hnk, decide_eq_true_eq] at z; exact z.1.2 c_61⟩) hP hD hS
    · refine lv_aload_n hx hb dX9_isNear_64 rfl (lv_at hl 1 rfl) ?_
      refine g_get (C := RX9) (T := TX9) (N := 36) F hK hP i_X9_isNear_X9 0 rfl rfl 6 (by decide) k_X9_isNear_f34 (v := .ref zm) rfl dX9_isNear_65 ?_
      refine lv_iload_n hx hb dX9_isNear_68 rfl (lv_at hl 2 rfl) ?_
      refine g_iald (i := l_) (v := (nI n)) hx hb hK hP 3 rfl (by decide) (by omega) (hm) dX9_isNear_69 ?_
      refine lv_iload_n hx hb dX9_isNear_70 rfl (lv_at hl 4 rfl) ?_
      refine lv_iload_n hx hb dX9_isNear_71 rfl (lv_at hl 3 rfl) ?_
      refine n_isub (a := j) (b := i) (d := j - i) hx hb dX9_isNear_72 (by omega) (by omega) ?_
      refine lv_iconst (v := 1) hx hb dX9_isNear_73 (by decide) ?_
      refine n_isub (a := j - i) (b := 1) (d := (j - i) - 1) hx hb dX9_isNear_74 (by omega) (by omega) ?_
      refine n_isub (a := n) (b := (j - i) - 1) (d := n - ((j - i) - 1)) hx hb dX9_isNear_75 (by omega) (by omega) ?_
      refine lv_iconst (v := 4) hx hb dX9_isNear_76 (by decide) ?_
      refine n_icmp_lt (a := n - ((j - i) - 1)) (b := 4) (tgt := 84) hx hb dX9_isNear_77 (by decide) (by omega) (by omega) (fun c_77 => ?_) (fun c_77 => ?_)
      · refine lv_iconst (v := 0) hx hb dX9_isNear_84 (by decide) ?_
        exact hret _ _ _ _ 0 () dX9_isNear_85 rfl (Or.inr ⟨rfl, fun z => by rw [nk2B, Bool.and_eq_true, hnk, decide_eq_true_eq] at z; exact absurd z.2 (by omega)⟩) hP hD hS
      · refine lv_iconst (v := 1) hx hb dX9_isNear_80 (by decide) ?_
        refine lv_goto (tgt := 85) hx hb dX9_isNear_81 (by decide) ?_
        exact hret _ _ _ _ 1 () dX9_isNear_85 rfl (Or.inl ⟨rfl, by rw [nk2B, Bool.and_eq_true, hnk, decide_eq_true_eq]; exact ⟨⟨c_32, c_61⟩, c_77⟩⟩) hP hD hS

abbrev rm_X9_area : Room := { frames := 1, cells := 0, slots := 0, locals := 20 }
theorem i_X9_area_X9 : ∀ w ∈ wsX90, w ∈ wsX9_area := by decide +kernel
theorem k_X9_area_f27 : Cond.fieldLink RX9 27 (TX9 4).1 (TX9 4).2.1 (TX9 4).2.2.1 ∈ wsX9_area := by decide +kernel
theorem k_X9_area_f31 : Cond.fieldLink RX9 31 (TX9 5).1 (TX9 5).2.1 (TX9 5).2.2.1 ∈ wsX9_area := by decide +kernel
set_option maxHeartbeats 4000000 in
set_option maxRecDepth 100000 in
theorem c_X9_area (l : Launch) (g : gT) (mo : Nat) (th : Int32) (zt : Nat) (tn : Nat) (sz : Nat) (zx : Nat) (zy : Nat) (zm : Nat) (zb : Nat) (rt : Int32) (w0 : Int32) (w1 : Int32) (w2 : Int32) (lg : Int32) (nr : Int32) (yr : Nat) (va : Nat) (vb : Nat) (vc : Nat) (vd : Nat) (qa : Nat) (qb : Nat) (qc : Nat) (ln : Nat) (sa : Nat) (sb : Nat) (sc : Nat) (sd : Nat) (se : Nat) (pn : Nat) (ma : Nat) (mb : Nat) (mc : Nat) (rv : Nat) (mn : Nat) (tol : Int32) (rn : Nat) (l_ : Nat) (n : Nat) (fm : Nat → Int32) (fx : Nat → Int32) (fy : Nat → Int32) (X : Nat → Int32) (Y : Nat → Int32) (i : Nat) (j : Nat) (hl3 : l_ < 3) (hm : fm l_ = nI n) (hn : n ≤ 48) (hX : ∀ k, k < n → fx (48 * l_ + k) = X k) (hY : ∀ k, k < n → fy (48 * l_ + k) = Y k) (hij : i ≤ j) (hjn : j < n) : CtI l g yX9_area wsX9_area rm_X9_area [.ref mo, .int (nI l_), .int (nI i), .int (nI j)] [gO mo 9 [.int th, .ref zt, .int (nI tn), .int (nI sz), .ref zx, .ref zy, .ref zm, .ref zb, .int rt, .int w0, .int w1, .int w2, .int lg, .int nr, .int (nI yr), .ref va, .ref vb, .ref vc, .ref vd, .ref qa, .ref qb, .ref qc, .int (nI ln), .ref sa, .ref sb, .ref sc, .ref sd, .ref se, .int (nI pn), .ref ma, .ref mb, .ref mc, .ref rv, .int (nI mn), .int tol, .int (nI rn)], gI g zx 144 fx, gI g zy 144 fy, gI g zm 3 fm] (fun (r : Int32) (_ : Unit) => r = areaS X Y i j) (fun (_ : Unit) => [gO mo 9 [.int th, .ref zt, .int (nI tn), .int (nI sz), .ref zx, .ref zy, .ref zm, .ref zb, .int rt, .int w0, .int w1, .int w2, .int lg, .int nr, .int (nI yr), .ref va, .ref vb, .ref vc, .ref vd, .ref qa, .ref qb, .ref qc, .int (nI ln), .ref sa, .ref sb, .ref sc, .ref sd, .ref se, .int (nI pn), .ref ma, .ref mb, .ref mc, .ref rv, .int (nI mn), .int tol, .int (nI rn)], gI g zx 144 fx, gI g zy 144 fy, gI g zm 3 fm]) := by
  refine CtI.of (cc := cX9_area) (maxL := 8) (ret := .int) (by decide) rfl (Nat.le_of_ble_eq_true rfl) ?_
  intro p e s m args below meth c A Q hnm F hK hA hP hD hS hret ls hl
  have hx := F.1
  have hb := F.2.1
  have hl : lv_has ls 8 [(0, .ref mo), (1, .int (nI l_)), (2, .int (nI i)), (3, .int (nI j))] := hl
  refine lv_bipush (v := 48) hx hb dX9_area_0 (by decide) ?_
  refine lv_iload_n hx hb dX9_area_2 rfl (lv_at hl 1 rfl) ?_
  refine n_imul (a := 48) (b := l_) (d := 48 * l_) hx hb dX9_area_3 (rfl) ?_
  refine lv_istore (lv' := [(4, .int (nI (48 * l_))), (0, .ref mo), (1, .int (nI l_)), (2, .int (nI i)), (3, .int (nI j))]) hx hb dX9_area_4 hl (by decide) rfl (fun ls hl => ?_)
  refine lv_iconst (v := 0) hx hb dX9_area_6 (by decide) ?_
  refine lv_istore (lv' := [(5, .int 0), (4, .int (nI (48 * l_))), (0, .ref mo), (1, .int (nI l_)), (2, .int (nI i)), (3, .int (nI j))]) hx hb dX9_area_7 hl (by decide) rfl (fun ls hl => ?_)
  refine lv_iload_n hx hb dX9_area_9 rfl (lv_at hl 4 rfl) ?_
  refine lv_istore (lv' := [(6, .int (nI i)), (5, .int 0), (4, .int (nI (48 * l_))), (0, .ref mo), (1, .int (nI l_)), (2, .int (nI i)), (3, .int (nI j))]) hx hb dX9_area_10 hl (by decide) rfl (fun ls hl => ?_)
  have L12 : ∀ (fuel : Nat) (sm : Int32) (k : Nat) (ls : Array Slot) (H : Heap) (locs : List Loc), j + 1 - k < fuel → (i ≤ k) → (k ≤ j + 1) → (k ≤ j → sm = arS X Y i (k - i)) → (k = j + 1 → sm = arS X Y i (j - i) + (X j * Y i - X i * Y j)) → lv_has ls 8 [(0, .ref mo), (1, .int (nI l_)), (2, .int (nI i)), (3, .int (nI j)), (4, .int (nI (48 * l_))), (5, .int sm), (6, .int (nI k))] → gP g [gO mo 9 [.int th, .ref zt, .int (nI tn), .int (nI sz), .ref zx, .ref zy, .ref zm, .ref zb, .int rt, .int w0, .int w1, .int w2, .int lg, .int nr, .int (nI yr), .ref va, .ref vb, .ref vc, .ref vd, .ref qa, .ref qb, .ref qc, .int (nI ln), .ref sa, .ref sb, .ref sc, .ref sd, .ref se, .int (nI pn), .ref ma, .ref mb, .ref mc, .ref rv, .int (nI mn), .int tol, .int (nI rn)], gI g zx 144 fx, gI g zy 144 fy, gI g zm 3 fm] H → va_D A [gO mo 9 [.int th, .ref zt, .int (nI tn), .int (nI sz), .ref zx, .ref zy, .ref zm, .ref zb, .int rt, .int w0, .int w1, .int w2, .int lg, .int nr, .int (nI yr), .ref va, .ref vb, .ref vc, .ref vd, .ref qa, .ref qb, .ref qc, .int (nI ln), .ref sa, .ref sb, .ref sc, .ref sd, .ref se, .int (nI pn), .ref ma, .ref mb, .ref mc, .ref rv, .int (nI mn), .int tol, .int (nI rn)], gI g zx 144 fx, gI g zy 144 fy, gI g zm 3 fm] → va_S A s.heap H locs → W p l e rm_X9_area s m args below meth c H locs 0 0 Q (F0 m 12 ls []) := by
    intro fuel
    induction fuel with
    | zero => intro sm k _ _ _ hk; exact absurd hk (Nat.not_lt_zero _)
    | succ fuel_12 ih_12 =>
      intro sm k ls H locs hk_12 h1 h2 hs hf hl hP hD hS
      refine lv_iload hx hb dX9_area_12 (lv_at hl 6 rfl) ?_
      refine lv_iload_n hx hb dX9_area_14 rfl (lv_at hl 3 rfl) ?_
      refine n_icmp_gt (a := k) (b := j) (tgt := 88) hx hb dX9_area_15 (by decide) (by omega) (by omega) (fun c_15 => ?_) (fun c_15 => ?_)
      · refine lv_iload hx hb dX9_area_88 (lv_at hl 5 rfl) ?_
        refine g_SI (wr := [gO mo 9 [.int th, .ref zt, .int (nI tn), .int (nI sz), .ref zx, .ref zy, .ref zm, .ref zb, .int rt, .int w0, .int w1, .int w2, .int lg, .int nr, .int (nI yr), .ref va, .ref vb, .ref vc, .ref vd, .ref qa, .ref qb, .ref qc, .int (nI ln), .ref sa, .ref sb, .ref sc, .ref sd, .ref se, .int (nI pn), .ref ma, .ref mb, .ref mc, .ref rv, .int (nI mn), .int tol, .int (nI rn)], gI g zx 144 fx, gI g zy 144 fy, gI g zm 3 fm]) (As := [.int sm]) (rest := []) (n := 1) F (c_X9_size l g sm) gX9_area_X9_size rfl (by decide) ⟨by decide, by decide⟩ rfl hl.1 rfl (Nat.le_of_ble_eq_true rfl) dX9_area_90 ⟨Nat.le_of_ble_eq_true rfl, Nat.le_of_ble_eq_true rfl⟩ hK hP hD hS hA [] [0, 1, 2, 3] (by decide) rfl rfl (by decide) (by decide) (fun r_90 u_90 H locs hw_90 hP hD hS => ?_)
        have hP : gP g [gO mo 9 [.int th, .ref zt, .int (nI tn), .int (nI sz), .ref zx, .ref zy, .ref zm, .ref zb, .int rt, .int w0, .int w1, .int w2, .int lg, .int nr, .int (nI yr), .ref va, .ref vb, .ref vc, .ref vd, .ref qa, .ref qb, .ref qc, .int (nI ln), .ref sa, .ref sb, .ref sc, .ref sd, .ref se, .int (nI pn), .ref ma, .ref mb, .ref mc, .ref rv, .int (nI mn), .int tol, .int (nI rn)], gI g zx 144 fx, gI g zy 144 fy, gI g zm 3 fm] H := hP
        have hD : va_D A [gO mo 9 [.int th, .ref zt, .int (nI tn), .int (nI sz), .ref zx, .ref zy, .ref zm, .ref zb, .int rt, .int w0, .int w1, .int w2, .int lg, .int nr, .int (nI yr), .ref va, .ref vb, .ref vc, .ref vd, .ref qa, .ref qb, .ref qc, .int (nI ln), .ref sa, .ref sb, .ref sc, .ref sd, .ref se, .int (nI pn), .ref ma, .ref mb, .ref mc, .ref rv, .int (nI mn), .int tol, .int (nI rn)], gI g zx 144 fx, gI g zy 144 fy, gI g zm 3 fm] := hD
        obtain rfl := hw_90
        exact hret _ _ _ _ (g_abs sm) () dX9_area_93 rfl (by rw [hf (by omega), areaS, Int32.add_comm]) hP hD hS
      · refine lv_iload hx hb dX9_area_18 (lv_at hl 6 rfl) ?_
        refine lv_iload_n hx hb dX9_area_20 rfl (lv_at hl 3 rfl) ?_
        refine n_icmp_ne (a := k) (b := j) (tgt := 28) hx hb dX9_area_21 (by decide) (by omega) (by omega) (fun c_21 => ?_) (fun c_21 => ?_)
        · refine lv_iload hx hb dX9_area_28 (lv_at hl 6 rfl) ?_
          refine lv_iconst (v := 1) hx hb dX9_area_30 (by decide) ?_
          refine n_iadd (a := k) (b := 1) (d := k + 1) hx hb dX9_area_31 (by omega) ?_
          refine lv_istore (lv' := [(7, .int (nI (k + 1))), (0, .ref mo), (1, .int (nI l_)), (2, .int (nI i)), (3, .int (nI j)), (4, .int (nI (48 * l_))), (5, .int sm), (6, .int (nI k))]) hx hb dX9_area_32 hl (by decide) rfl (fun ls hl => ?_)
          refine lv_iload hx hb dX9_area_34 (lv_at hl 6 rfl) ?_
          refine lv_aload_n hx hb dX9_area_36 rfl (lv_at hl 1 rfl) ?_
          refine g_get (C := RX9) (T := TX9) (N := 36) F hK hP i_X9_area_X9 0 rfl rfl 4 (by decide) k_X9_area_f27 (v := .ref zx) rfl dX9_area_37 ?_
          refine lv_iload hx hb dX9_area_40 (lv_at hl 5 rfl) ?_
          refine lv_iload hx hb dX9_area_42 (lv_at hl 7 rfl) ?_
          refine n_iadd (a := 48 * l_) (b := k) (d := 48 * l_ + k) hx hb dX9_area_44 (by omega) ?_
          refine g_iald (i := 48 * l_ + k) (v := (X k)) hx hb hK hP 1 rfl (by decide) (by omega) ((congrArg fx (show 48 * l_ + k = 48 * l_ + k by omega)).trans (hX k (by omega))) dX9_area_45 ?_
          refine lv_aload_n hx hb dX9_area_46 rfl (lv_at hl 1 rfl) ?_
          refine g_get (C := RX9) (T := TX9) (N := 36) F hK hP i_X9_area_X9 0 rfl rfl 5 (by decide) k_X9_area_f31 (v := .ref zy) rfl dX9_area_47 ?_
          refine lv_iload hx hb dX9_area_50 (lv_at hl 5 rfl) ?_
          refine lv_iload hx hb dX9_area_52 (lv_at hl 0 rfl) ?_
          refine n_iadd (a := 48 * l_) (b := k + 1) (d := 48 * l_ + (k + 1)) hx hb dX9_area_54 (by omega) ?_
          refine g_iald (i := 48 * l_ + (k + 1)) (v := (Y (k + 1))) hx hb hK hP 2 rfl (by decide) (by omega) ((congrArg fy (show 48 * l_ + (k + 1) = 48 * l_ + (k + 1) by omega)).trans (hY (k + 1) (by omega))) dX9_area_55 ?_
          refine lv_imul hx hb dX9_area_56 ?_
          refine lv_aload_n hx hb dX9_area_57 rfl (lv_at hl 1 rfl) ?_
          refine g_get (C := RX9) (T := TX9) (N := 36) F hK hP i_X9_area_X9 0 rfl rfl 4 (by decide) k_X9_area_f27 (v := .ref zx) rfl dX9_area_58 ?_
          refine lv_iload hx hb dX9_area_61 (lv_at hl 5 rfl) ?_
          refine lv_iload hx hb dX9_area_63 (lv_at hl 0 rfl) ?_
          refine n_iadd (a := 48 * l_) (b := k + 1) (d := 48 * l_ + (k + 1)) hx hb dX9_area_65 (by omega) ?_
          refine g_iald (i := 48 * l_ + (k + 1)) (v := (X (k + 1))) hx hb hK hP 1 rfl (by decide) (by omega) ((congrArg fx (show 48 * l_ + (k + 1) = 48 * l_ + (k + 1) by omega)).trans (hX (k + 1) (by omega))) dX9_area_66 ?_
          refine lv_aload_n hx hb dX9_area_67 rfl (lv_at hl 1 rfl) ?_
          refine g_get (C := RX9) (T := TX9) (N := 36) F hK hP i_X9_area_X9 0 rfl rfl 5 (by decide) k_X9_area_f31 (v := .ref zy) rfl dX9_area_68 ?_
          refine lv_iload hx hb dX9_area_71 (lv_at hl 5 rfl) ?_
          refine lv_iload hx hb dX9_area_73 (lv_at hl 7 rfl) ?_
          refine n_iadd (a := 48 * l_) (b := k) (d := 48 * l_ + k) hx hb dX9_area_75 (by omega) ?_
          refine g_iald (i := 48 * l_ + k) (v := (Y k)) hx hb hK hP 2 rfl (by decide) (by omega) ((congrArg fy (show 48 * l_ + k = 48 * l_ + k by omega)).trans (hY k (by omega))) dX9_area_76 ?_
          refine lv_imul hx hb dX9_area_77 ?_
          refine lv_isub hx hb dX9_area_78 ?_
          refine lv_iadd hx hb dX9_area_79 ?_
          refine lv_istore (lv' := [(5, .int (sm + (((X k) * (Y (k + 1))) - ((X (k + 1)) * (Y k))))), (7, .int (nI (k + 1))), (0, .ref mo), (1, .int (nI l_)), (2, .int (nI i)), (3, .int (nI j)), (4, .int (nI (48 * l_))), (6, .int (nI k))]) hx hb dX9_area_80 hl (by decide) rfl (fun ls hl => ?_)
          refine lv_iinc (v := (nI (k + 1))) (lv' := [(6, .int (nI (k + 1))), (5, .int (sm + (((X k) * (Y (k + 1))) - ((X (k + 1)) * (Y k))))), (7, .int (nI (k + 1))), (0, .ref mo), (1, .int (nI l_)), (2, .int (nI i)), (3, .int (nI j)), (4, .int (nI (48 * l_)))]) hx hb dX9_area_82 hl (k := 7) rfl (g_inc k 1 (by decide)) (by decide) rfl (fun ls hl => ?_)
          refine lv_goto (tgt := 12) hx hb dX9_area_85 (by decide) ?_
          exact ih_12 (sm + (((X k) * (Y (k + 1))) - ((X (k + 1)) * (Y k)))) (k + 1) ls _ _ (by omega) (by omega) (by omega) (fun _ => by rw [hs (by omega)]; exact arS_s X Y h1) (fun z => absurd z (by omega)) (lv_sub hl [3, 4, 5, 6, 7, 1, 0] rfl) hP hD hS
        · refine lv_iload_n hx hb dX9_area_24 rfl (lv_at hl 2 rfl) ?_
          refine lv_goto (tgt := 32) hx hb dX9_area_25 (by decide) ?_
          refine lv_istore (lv' := [(7, .int (nI i)), (0, .ref mo), (1, .int (nI l_)), (2, .int (nI i)), (3, .int (nI j)), (4, .int (nI (48 * l_))), (5, .int sm), (6, .int (nI k))]) hx hb dX9_area_32 hl (by decide) rfl (fun ls hl => ?_)
          refine lv_iload hx hb dX9_area_34 (lv_at hl 6 rfl) ?_
          refine lv_aload_n hx hb dX9_area_36 rfl (lv_at hl 1 rfl) ?_
          refine g_get (C := RX9) (T := TX9) (N := 36) F hK hP i_X9_area_X9 0 rfl rfl 4 (by decide) k_X9_area_f27 (v := .ref zx) rfl dX9_area_37 ?_
          refine lv_iload hx hb dX9_area_40 (lv_at hl 5 rfl) ?_
          refine lv_iload hx hb dX9_area_42 (lv_at hl 7 rfl) ?_
          refine n_iadd (a := 48 * l_) (b := k) (d := 48 * l_ + k) hx hb dX9_area_44 (by omega) ?_
          refine g_iald (i := 48 * l_ + k) (v := (X k)) hx hb hK hP 1 rfl (by decide) (by omega) ((congrArg fx (show 48 * l_ + k = 48 * l_ + k by omega)).trans (hX k (by omega))) dX9_area_45 ?_
          refine lv_aload_n hx hb dX9_area_46 rfl (lv_at hl 1 rfl) ?_
          refine g_get (C := RX9) (T := TX9) (N := 36) F hK hP i_X9_area_X9 0 rfl rfl 5 (by decide) k_X9_area_f31 (v := .ref zy) rfl dX9_area_47 ?_
          refine lv_iload hx hb dX9_area_50 (lv_at hl 5 rfl) ?_
          refine lv_iload hx hb dX9_area_52 (lv_at hl 0 rfl) ?_
          refine n_iadd (a := 48 * l_) (b := i) (d := 48 * l_ + i) hx hb dX9_area_54 (by omega) ?_
          refine g_iald (i := 48 * l_ + i) (v := (Y i)) hx hb hK hP 2 rfl (by decide) (by omega) ((congrArg fy (show 48 * l_ + i = 48 * l_ + i by omega)).trans (hY i (by omega))) dX9_area_55 ?_
          refine lv_imul hx hb dX9_area_56 ?_
          refine lv_aload_n hx hb dX9_area_57 rfl (lv_at hl 1 rfl) ?_
          refine g_get (C := RX9) (T := TX9) (N := 36) F hK hP i_X9_area_X9 0 rfl rfl 4 (by decide) k_X9_area_f27 (v := .ref zx) rfl dX9_area_58 ?_
          refine lv_iload hx hb dX9_area_61 (lv_at hl 5 rfl) ?_
          refine lv_iload hx hb dX9_area_63 (lv_at hl 0 rfl) ?_
          refine n_iadd (a := 48 * l_) (b := i) (d := 48 * l_ + i) hx hb dX9_area_65 (by omega) ?_
          refine g_iald (i := 48 * l_ + i) (v := (X i)) hx hb hK hP 1 rfl (by decide) (by omega) ((congrArg fx (show 48 * l_ + i = 48 * l_ + i by omega)).trans (hX i (by omega))) dX9_area_66 ?_
          refine lv_aload_n hx hb dX9_area_67 rfl (lv_at hl 1 rfl) ?_
          refine g_get (C := RX9) (T := TX9) (N := 36) F hK hP i_X9_area_X9 0 rfl rfl 5 (by decide) k_X9_area_f31 (v := .ref zy) rfl dX9_area_68 ?_
          refine lv_iload hx hb dX9_area_71 (lv_at hl 5 rfl) ?_
          refine lv_iload hx hb dX9_area_73 (lv_at hl 7 rfl) ?_
          refine n_iadd (a := 48 * l_) (b := k) (d := 48 * l_ + k) hx hb dX9_area_75 (by omega) ?_
          refine g_iald (i := 48 * l_ + k) (v := (Y k)) hx hb hK hP 2 rfl (by decide) (by omega) ((congrArg fy (show 48 * l_ + k = 48 * l_ + k by omega)).trans (hY k (by omega))) dX9_area_76 ?_
          refine lv_imul hx hb dX9_area_77 ?_
          refine lv_isub hx hb dX9_area_78 ?_
          refine lv_iadd hx hb dX9_area_79 ?_
          refine lv_istore (lv' := [(5, .int (sm + (((X k) * (Y i)) - ((X i) * (Y k))))), (7, .int (nI i)), (0, .ref mo), (1, .int (nI l_)), (2, .int (nI i)), (3, .int (nI j)), (4, .int (nI (48 * l_))), (6, .int (nI k))]) hx hb dX9_area_80 hl (by decide) rfl (fun ls hl => ?_)
          refine lv_iinc (v := (nI (k + 1))) (lv' := [(6, .int (nI (k + 1))), (5, .int (sm + (((X k) * (Y i)) - ((X i) * (Y k))))), (7, .int (nI i)), (0, .ref mo), (1, .int (nI l_)), (2, .int (nI i)), (3, .int (nI j)), (4, .int (nI (48 * l_)))]) hx hb dX9_area_82 hl (k := 7) rfl (g_inc k 1 (by decide)) (by decide) rfl (fun ls hl => ?_)
          refine lv_goto (tgt := 12) hx hb dX9_area_85 (by decide) ?_
          exact ih_12 (sm + (((X k) * (Y i)) - ((X i) * (Y k)))) (k + 1) ls _ _ (by omega) (by omega) (by omega) (fun z => absurd z (by omega)) (fun _ => by rw [hs (by omega), show k = j from c_21]) (lv_sub hl [3, 4, 5, 6, 7, 1, 0] rfl) hP hD hS
  exact L12 ((j + 1 - i) + 1) 0 i ls _ _ (Nat.lt_succ_self _) (by omega) (by omega) (fun _ => by rw [Nat.sub_self]; rfl) (fun z => absurd z (by omega)) (lv_sub hl [3, 4, 5, 6, 2, 1, 0] rfl) hP hD hS

abbrev rm_X9_note : Room := { frames := 2, cells := 0, slots := 0, locals := 47 }
theorem i_X9_note_X9 : ∀ w ∈ wsX90, w ∈ wsX9_note := by decide +kernel
theorem k_X9_note_f123 : Cond.fieldLink RX9 123 (TX9 22).1 (TX9 22).2.1 (TX9 22).2.2.1 ∈ wsX9_note := by decide +kernel
theorem k_X9_note_f70 : Cond.fieldLink RX9 70 (TX9 19).1 (TX9 19).2.1 (TX9 19).2.2.1 ∈ wsX9_note := by decide +kernel
theorem k_X9_note_f120 : Cond.fieldLink RX9 120 (TX9 14).1 (TX9 14).2.1 (TX9 14).2.2.1 ∈ wsX9_note := by decide +kernel
theorem k_X9_note_f73 : Cond.fieldLink RX9 73 (TX9 20).1 (TX9 20).2.1 (TX9 20).2.2.1 ∈ wsX9_note := by decide +kernel
theorem k_X9_note_f76 : Cond.fieldLink RX9 76 (TX9 21).1 (TX9 21).2.1 (TX9 21).2.2.1 ∈ wsX9_note := by decide +kernel
set_option maxHeartbeats 4000000 in
set_option maxRecDepth 100000 in
theorem c_X9_note (l : Launch) (g : gT) (mo : Nat) (th : Int32) (zt : Nat) (tn : Nat) (sz : Nat) (zx : Nat) (zy : Nat) (zm : Nat) (zb : Nat) (rt : Int32) (w0 : Int32) (w1 : Int32) (w2 : Int32) (lg : Int32) (nr : Int32) (yr : Nat) (va : Nat) (vb : Nat) (vc : Nat) (vd : Nat) (qa : Nat) (qb : Nat) (qc : Nat) (ln : Nat) (sa : Nat) (sb : Nat) (sc : Nat) (sd : Nat) (se : Nat) (pn : Nat) (ma : Nat) (mb : Nat) (mc : Nat) (rv : Nat) (mn : Nat) (tol : Int32) (rn : Nat) (l_ : Nat) (n : Nat) (fm : Nat → Int32) (fx : Nat → Int32) (fy : Nat → Int32) (X : Nat → Int32) (Y : Nat → Int32) (g1 : Nat → Int32) (g2 : Nat → Int32) (g3 : Nat → Int32) (i : Nat) (j : Nat) (hl3 : l_ < 3) (hm : fm l_ = nI n) (hn : n ≤ 48) (hX : ∀ k, k < n → fx (48 * l_ + k) = X k) (hY : ∀ k, k < n → fy (48 * l_ + k) = Y k) (hl0 : l_ = 0) (hln : ln ≤ 30) (hij : i < j) (hjn : j < n) : CtV l g yX9_note wsX9_note rm_X9_note [.ref mo, .int (nI i), .int (nI j)] [gO mo 9 [.int th, .ref zt, .int (nI tn), .int (nI sz), .ref zx, .ref zy, .ref zm, .ref zb, .int rt, .int w0, .int w1, .int w2, .int lg, .int nr, .int (nI yr), .ref va, .ref vb, .ref vc, .ref vd, .ref qa, .ref qb, .ref qc, .int (nI ln), .ref sa, .ref sb, .ref sc, .ref sd, .ref se, .int (nI pn), .ref ma, .ref mb, .ref mc, .ref rv, .int (nI mn), .int tol, .int (nI rn)], gI g zx 144 fx, gI g zy 144 fy, gI g zm 3 fm, gI g qa 30 g1, gI g qb 30 g2, gI g qc 30 g3] (fun (_ : Unit) => True) (fun (_ : Unit) => [gO mo 9 [.int th, .ref zt, .int (nI tn), .int (nI sz), .ref zx, .ref zy, .ref zm, .ref zb, .int rt, .int w0, .int w1, .int w2, .int lg, .int nr, .int (nI yr), .ref va, .ref vb, .ref vc, .ref vd, .ref qa, .ref qb, .ref qc, .int (nI (noteN ln)), .ref sa, .ref sb, .ref sc, .ref sd, .ref se, .int (nI pn), .ref ma, .ref mb, .ref mc, .ref rv, .int (nI mn), .int tol, .int (nI rn)], gI g zx 144 fx, gI g zy 144 fy, gI g zm 3 fm, gI g qa 30 (noteR g1 ln (nI yr)), gI g qb 30 (noteR g2 ln (nI (j - i - 1))), gI g qc 30 (noteR g3 ln (areaS X Y i j))]) := by
  refine CtV.of (cc := cX9_note) (maxL := 3) (by decide) rfl (Nat.le_of_ble_eq_true rfl) ?_
  intro p e s m args below meth c A Q hnm F hK hA hP hD hS hret ls hl
  have hx := F.1
  have hb := F.2.1
  have hl : lv_has ls 3 [(0, .ref mo), (1, .int (nI i)), (2, .int (nI j))] := hl
  refine lv_aload_n hx hb dX9_note_0 rfl (lv_at hl 0 rfl) ?_
  refine g_get (C := RX9) (T := TX9) (N := 36) F hK hP i_X9_note_X9 0 rfl rfl 22 (by decide) k_X9_note_f123 (v := .int (nI ln)) rfl dX9_note_1 ?_
  refine lv_bipush (v := 30) hx hb dX9_note_4 (by decide) ?_
  refine n_icmp_ne (a := ln) (b := 30) (tgt := 10) hx hb dX9_note_6 (by decide) (by omega) (by omega) (fun c_6 => ?_) (fun c_6 => ?_)
  · refine lv_aload_n hx hb dX9_note_10 rfl (lv_at hl 0 rfl) ?_
    refine g_get (C := RX9) (T := TX9) (N := 36) F hK hP i_X9_note_X9 0 rfl rfl 19 (by decide) k_X9_note_f70 (v := .ref qa) rfl dX9_note_11 ?_
    refine lv_aload_n hx hb dX9_note_14 rfl (lv_at hl 0 rfl) ?_
    refine g_get (C := RX9) (T := TX9) (N := 36) F hK hP i_X9_note_X9 0 rfl rfl 22 (by decide) k_X9_note_f123 (v := .int (nI ln)) rfl dX9_note_15 ?_
    refine lv_aload_n hx hb dX9_note_18 rfl (lv_at hl 0 rfl) ?_
    refine g_get (C := RX9) (T := TX9) (N := 36) F hK hP i_X9_note_X9 0 rfl rfl 14 (by decide) k_X9_note_f120 (v := .int (nI yr)) rfl dX9_note_19 ?_
    refine g_iast (i := ln) (ws2 := [gO mo 9 [.int th, .ref zt, .int (nI tn), .int (nI sz), .ref zx, .ref zy, .ref zm, .ref zb, .int rt, .int w0, .int w1, .int w2, .int lg, .int nr, .int (nI yr), .ref va, .ref vb, .ref vc, .ref vd, .ref qa, .ref qb, .ref qc, .int (nI ln), .ref sa, .ref sb, .ref sc, .ref sd, .ref se, .int (nI pn), .ref ma, .ref mb, .ref mc, .ref rv, .int (nI mn), .int tol, .int (nI rn)], gI g zx 144 fx, gI g zy 144 fy, gI g zm 3 fm, gI g qa 30 (upd g1 ln (nI yr)), gI g qb 30 g2, gI g qc 30 g3]) hx hb hK hP hD hS 4 rfl (by decide) (by omega) rfl dX9_note_22 (fun H locs hP hD hS => ?_)
    refine lv_aload_n hx hb dX9_note_23 rfl (lv_at hl 0 rfl) ?_
    refine g_get (C := RX9) (T := TX9) (N := 36) F hK hP i_X9_note_X9 0 rfl rfl 20 (by decide) k_X9_note_f73 (v := .ref qb) rfl dX9_note_24 ?_
    refine lv_aload_n hx hb dX9_note_27 rfl (lv_at hl 0 rfl) ?_
    refine g_get (C := RX9) (T := TX9) (N := 36) F hK hP i_X9_note_X9 0 rfl rfl 22 (by decide) k_X9_note_f123 (v := .int (nI ln)) rfl dX9_note_28 ?_
    refine lv_iload_n hx hb dX9_note_31 rfl (lv_at hl 2 rfl) ?_
    refine lv_iload_n hx hb dX9_note_32 rfl (lv_at hl 1 rfl) ?_
    refine n_isub (a := j) (b := i) (d := j - i) hx hb dX9_note_33 (by omega) (by omega) ?_
    refine lv_iconst (v := 1) hx hb dX9_note_34 (by decide) ?_
    refine n_isub (a := j - i) (b := 1) (d := (j - i) - 1) hx hb dX9_note_35 (by omega) (by omega) ?_
    refine g_iast (i := ln) (ws2 := [gO mo 9 [.int th, .ref zt, .int (nI tn), .int (nI sz), .ref zx, .ref zy, .ref zm, .ref zb, .int rt, .int w0, .int w1, .int w2, .int lg, .int nr, .int (nI yr), .ref va, .ref vb, .ref vc, .ref vd, .ref qa, .ref qb, .ref qc, .int (nI ln), .ref sa, .ref sb, .ref sc, .ref sd, .ref se, .int (nI pn), .ref ma, .ref mb, .ref mc, .ref rv, .int (nI mn), .int tol, .int (nI rn)], gI g zx 144 fx, gI g zy 144 fy, gI g zm 3 fm, gI g qa 30 (upd g1 ln (nI yr)), gI g qb 30 (upd g2 ln (nI ((j - i) - 1))), gI g qc 30 g3]) hx hb hK hP hD hS 5 rfl (by decide) (by omega) rfl dX9_note_36 (fun H locs hP hD hS => ?_)
    refine lv_aload_n hx hb dX9_note_37 rfl (lv_at hl 0 rfl) ?_
    refine g_get (C := RX9) (T := TX9) (N := 36) F hK hP i_X9_note_X9 0 rfl rfl 21 (by decide) k_X9_note_f76 (v := .ref qc) rfl dX9_note_38 ?_
    refine lv_aload_n hx hb dX9_note_41 rfl (lv_at hl 0 rfl) ?_
    refine g_get (C := RX9) (T := TX9) (N := 36) F hK hP i_X9_note_X9 0 rfl rfl 22 (by decide) k_X9_note_f123 (v := .int (nI ln)) rfl dX9_note_42 ?_
    refine lv_aload_n hx hb dX9_note_45 rfl (lv_at hl 0 rfl) ?_
    refine lv_iconst (v := 0) hx hb dX9_note_46 (by decide) ?_
    refine lv_iload_n hx hb dX9_note_47 rfl (lv_at hl 1 rfl) ?_
    refine lv_iload_n hx hb dX9_note_48 rfl (lv_at hl 2 rfl) ?_
    refine g_VI (wr := [gI g qa 30 (upd g1 ln (nI yr)), gI g qb 30 (upd g2 ln (nI ((j - i) - 1))), gI g qc 30 g3]) (As := [.int 0, .int (nI i), .int (nI j)]) (rest := [.int (nI ln), .ref qc]) (n := 3) F (c_X9_area l g mo th zt tn sz zx zy zm zb rt w0 w1 w2 lg nr yr va vb vc vd qa qb qc ln sa sb sc sd se pn ma mb mc rv mn tol rn 0 n fm fx fy X Y i j (by decide) (by subst hl0; exact hm) (hn) (by subst hl0; exact hX) (by subst hl0; exact hY) (by omega) (hjn)) gX9_note_X9_area rfl (by decide) ⟨by decide, by decide⟩ 0 9 rfl rfl rfl rfl hl.1 rfl (Nat.le_of_ble_eq_true rfl) dX9_note_49 ⟨Nat.le_of_ble_eq_true rfl, Nat.le_of_ble_eq_true rfl⟩ hK hP hD hS hA [0, 1, 2, 3] [4, 5, 6] (by decide) rfl rfl (by decide) (by decide) (fun r_49 u_49 H locs hw_49 hP hD hS => ?_)
    have hP : gP g [gI g qa 30 (upd g1 ln (nI yr)), gI g qb 30 (upd g2 ln (nI ((j - i) - 1))), gI g qc 30 g3, gO mo 9 [.int th, .ref zt, .int (nI tn), .int (nI sz), .ref zx, .ref zy, .ref zm, .ref zb, .int rt, .int w0, .int w1, .int w2, .int lg, .int nr, .int (nI yr), .ref va, .ref vb, .ref vc, .ref vd, .ref qa, .ref qb, .ref qc, .int (nI ln), .ref sa, .ref sb, .ref sc, .ref sd, .ref se, .int (nI pn), .ref ma, .ref mb, .ref mc, .ref rv, .int (nI mn), .int tol, .int (nI rn)], gI g zx 144 fx, gI g zy 144 fy, gI g zm 3 fm] H := hP
    have hD : va_D A [gI g qa 30 (upd g1 ln (nI yr)), gI g qb 30 (upd g2 ln (nI ((j - i) - 1))), gI g qc 30 g3, gO mo 9 [.int th, .ref zt, .int (nI tn), .int (nI sz), .ref zx, .ref zy, .ref zm, .ref zb, .int rt, .int w0, .int w1, .int w2, .int lg, .int nr, .int (nI yr), .ref va, .ref vb, .ref vc, .ref vd, .ref qa, .ref qb, .ref qc, .int (nI ln), .ref sa, .ref sb, .ref sc, .ref sd, .ref se, .int (nI pn), .ref ma, .ref mb, .ref mc, .ref rv, .int (nI mn), .int tol, .int (nI rn)], gI g zx 144 fx, gI g zy 144 fy, gI g zm 3 fm] := hD
    obtain rfl := hw_49
    refine g_iast (i := ln) (ws2 := [gI g qa 30 (upd g1 ln (nI yr)), gI g qb 30 (upd g2 ln (nI ((j - i) - 1))), gI g qc 30 (upd g3 ln (areaS X Y i j)), gO mo 9 [.int th, .ref zt, .int (nI tn), .int (nI sz), .ref zx, .ref zy, .ref zm, .ref zb, .int rt, .int w0, .int w1, .int w2, .int lg, .int nr, .int (nI yr), .ref va, .ref vb, .ref vc, .ref vd, .ref qa, .ref qb, .ref qc, .int (nI ln), .ref sa, .ref sb, .ref sc, .ref sd, .ref se, .int (nI pn), .ref ma, .ref mb, .ref mc, .ref rv, .int (nI mn), .int tol, .int (nI rn)], gI g zx 144 fx, gI g zy 144 fy, gI g zm 3 fm]) hx hb hK hP hD hS 2 rfl (by decide) (by omega) rfl dX9_note_52 (fun H locs hP hD hS => ?_)
    refine lv_aload_n hx hb dX9_note_53 rfl (lv_at hl 0 rfl) ?_
    refine lv_dup hx hb dX9_note_54 rfl ?_
    refine g_get (C := RX9) (T := TX9) (N := 36) F hK hP i_X9_note_X9 3 rfl rfl 22 (by decide) k_X9_note_f123 (v := .int (nI ln)) rfl dX9_note_55 ?_
    refine lv_iconst (v := 1) hx hb dX9_note_58 (by decide) ?_
    refine n_iadd (a := ln) (b := 1) (d := ln + 1) hx hb dX9_note_59 (by omega) ?_
    refine g_put (C := RX9) (T := TX9) (N := 36) (ws2 := [gI g qa 30 (upd g1 ln (nI yr)), gI g qb 30 (upd g2 ln (nI ((j - i) - 1))), gI g qc 30 (upd g3 ln (areaS X Y i j)), gO mo 9 [.int th, .ref zt, .int (nI tn), .int (nI sz), .ref zx, .ref zy, .ref zm, .ref zb, .int rt, .int w0, .int w1, .int w2, .int lg, .int nr, .int (nI yr), .ref va, .ref vb, .ref vc, .ref vd, .ref qa, .ref qb, .ref qc, .int (nI (ln + 1)), .ref sa, .ref sb, .ref sc, .ref sd, .ref se, .int (nI pn), .ref ma, .ref mb, .ref mc, .ref rv, .int (nI mn), .int tol, .int (nI rn)], gI g zx 144 fx, gI g zy 144 fy, gI g zm 3 fm]) F hK hP hD hS i_X9_note_X9 tyX9 tyX9_ok nmX9 3 rfl rfl 22 (by decide) k_X9_note_f123 rfl (v := .int (nI (ln + 1))) rfl rfl (Nat.le_of_ble_eq_true rfl) rfl dX9_note_60 (fun H locs hP hD hS => ?_)
    have e0 : noteN ln = ln + 1 := if_pos (show ln < 30 by omega)
    have e1 : noteR g1 ln (nI yr) = upd g1 ln (nI yr) := if_pos (show ln < 30 by omega)
    have e2 : noteR g2 ln (nI (j - i - 1)) = upd g2 ln (nI (j - i - 1)) := if_pos (show ln < 30 by omega)
    have e3 : noteR g3 ln (areaS X Y i j) = upd g3 ln (areaS X Y i j) := if_pos (show ln < 30 by omega)
    have hP9 := hP.sub (ws' := [gO mo 9 [.int th, .ref zt, .int (nI tn), .int (nI sz), .ref zx, .ref zy, .ref zm, .ref zb, .int rt, .int w0, .int w1, .int w2, .int lg, .int nr, .int (nI yr), .ref va, .ref vb, .ref vc, .ref vd, .ref qa, .ref qb, .ref qc, .int (nI (ln + 1)), .ref sa, .ref sb, .ref sc, .ref sd, .ref se, .int (nI pn), .ref ma, .ref mb, .ref mc, .ref rv, .int (nI mn), .int tol, .int (nI rn)], gI g zx 144 fx, gI g zy 144 fy, gI g zm 3 fm, gI g qa 30 (upd g1 ln (nI yr)), gI g qb 30 (upd g2 ln (nI ((j - i) - 1))), gI g qc 30 (upd g3 ln (areaS X Y i j))]) [3, 4, 5, 6, 0, 1, 2] rfl
    have hD9 := hD.sub (ws' := [gO mo 9 [.int th, .ref zt, .int (nI tn), .int (nI sz), .ref zx, .ref zy, .ref zm, .ref zb, .int rt, .int w0, .int w1, .int w2, .int lg, .int nr, .int (nI yr), .ref va, .ref vb, .ref vc, .ref vd, .ref qa, .ref qb, .ref qc, .int (nI (ln + 1)), .ref sa, .ref sb, .ref sc, .ref sd, .ref se, .int (nI pn), .ref ma, .ref mb, .ref mc, .ref rv, .int (nI mn), .int tol, .int (nI rn)], gI g zx 144 fx, gI g zy 144 fy, gI g zm 3 fm, gI g qa 30 (upd g1 ln (nI yr)), gI g qb 30 (upd g2 ln (nI ((j - i) - 1))), gI g qc 30 (upd g3 ln (areaS X Y i j))]) [3, 4, 5, 6, 0, 1, 2] (by decide) rfl
    exact hret _ _ _ _ () dX9_note_63 (trivial) (by rw [e0, e1, e2, e3]; exact hP9) (by rw [e0, e1, e2, e3]; exact hD9) hS
  · have e0 : noteN ln = ln := if_neg (show ¬ ln < 30 by omega)
    have e1 : noteR g1 ln (nI yr) = g1 := if_neg (show ¬ ln < 30 by omega)
    have e2 : noteR g2 ln (nI (j - i - 1)) = g2 := if_neg (show ¬ ln < 30 by omega)
    have e3 : noteR g3 ln (areaS X Y i j) = g3 := if_neg (show ¬ ln < 30 by omega)
    have hP9 := hP.sub (ws' := [gO mo 9 [.int th, .ref zt, .int (nI tn), .int (nI sz), .ref zx, .ref zy, .ref zm, .ref zb, .int rt, .int w0, .int w1, .int w2, .int lg, .int nr, .int (nI yr), .ref va, .ref vb, .ref vc, .ref vd, .ref qa, .ref qb, .ref qc, .int (nI ln), .ref sa, .ref sb, .ref sc, .ref sd, .ref se, .int (nI pn), .ref ma, .ref mb, .ref mc, .ref rv, .int (nI mn), .int tol, .int (nI rn)], gI g zx 144 fx, gI g zy 144 fy, gI g zm 3 fm, gI g qa 30 g1, gI g qb 30 g2, gI g qc 30 g3]) [0, 1, 2, 3, 4, 5, 6] rfl
    have hD9 := hD.sub (ws' := [gO mo 9 [.int th, .ref zt, .int (nI tn), .int (nI sz), .ref zx, .ref zy, .ref zm, .ref zb, .int rt, .int w0, .int w1, .int w2, .int lg, .int nr, .int (nI yr), .ref va, .ref vb, .ref vc, .ref vd, .ref qa, .ref qb, .ref qc, .int (nI ln), .ref sa, .ref sb, .ref sc, .ref sd, .ref se, .int (nI pn), .ref ma, .ref mb, .ref mc, .ref rv, .int (nI mn), .int tol, .int (nI rn)], gI g zx 144 fx, gI g zy 144 fy, gI g zm 3 fm, gI g qa 30 g1, gI g qb 30 g2, gI g qc 30 g3]) [0, 1, 2, 3, 4, 5, 6] (by decide) rfl
    exact hret _ _ _ _ () dX9_note_9 (trivial) (by rw [e0, e1, e2, e3]; exact hP9) (by rw [e0, e1, e2, e3]; exact hD9) hS

theorem noteN_pos (n : Nat) : 0 < noteN n := by rw [noteN]; split <;> omega
abbrev rm_X9_cut : Room := { frames := 3, cells := 0, slots := 0, locals := 69 }
theorem i_X9_cut_X9 : ∀ w ∈ wsX90, w ∈ wsX9_cut := by decide +kernel
theorem k_X9_cut_f34 : Cond.fieldLink RX9 34 (TX9 6).1 (TX9 6).2.1 (TX9 6).2.2.1 ∈ wsX9_cut := by decide +kernel
theorem k_X9_cut_f27 : Cond.fieldLink RX9 27 (TX9 4).1 (TX9 4).2.1 (TX9 4).2.2.1 ∈ wsX9_cut := by decide +kernel
theorem k_X9_cut_f31 : Cond.fieldLink RX9 31 (TX9 5).1 (TX9 5).2.1 (TX9 5).2.2.1 ∈ wsX9_cut := by decide +kernel
set_option maxHeartbeats 4000000 in
set_option maxRecDepth 100000 in
theorem c_X9_cut_is (l : Launch) (g : gT) (mo : Nat) (th : Int32) (zt : Nat) (tn : Nat) (sz : Nat) (zx : Nat) (zy : Nat) (zm : Nat) (zb : Nat) (rt : Int32) (w0 : Int32) (w1 : Int32) (w2 : Int32) (lg : Int32) (nr : Int32) (yr : Nat) (va : Nat) (vb : Nat) (vc : Nat) (vd : Nat) (qa : Nat) (qb : Nat) (qc : Nat) (ln : Nat) (sa : Nat) (sb : Nat) (sc : Nat) (sd : Nat) (se : Nat) (pn : Nat) (ma : Nat) (mb : Nat) (mc : Nat) (rv : Nat) (mn : Nat) (tol : Int32) (rn : Nat) (l_ : Nat) (n : Nat) (fm : Nat → Int32) (fx : Nat → Int32) (fy : Nat → Int32) (X : Nat → Int32) (Y : Nat → Int32) (g1 : Nat → Int32) (g2 : Nat → Int32) (g3 : Nat → Int32) (hl3 : l_ < 3) (hm : fm l_ = nI n) (hn : n ≤ 48) (hX : ∀ k, k < n → fx (48 * l_ + k) = X k) (hY : ∀ k, k < n → fy (48 * l_ + k) = Y k) (hl0 : l_ = 0) (hok : okL (n, X, Y)) (hln : ln ≤ 30) : CtI l g yX9_cut wsX9_cut rm_X9_cut [.ref mo, .int (nI l_)] [gO mo 9 [.int th, .ref zt, .int (nI tn), .int (nI sz), .ref zx, .ref zy, .ref zm, .ref zb, .int rt, .int w0, .int w1, .int w2, .int lg, .int nr, .int (nI yr), .ref va, .ref vb, .ref vc, .ref vd, .ref qa, .ref qb, .ref qc, .int (nI ln), .ref sa, .ref sb, .ref sc, .ref sd, .ref se, .int (nI pn), .ref ma, .ref mb, .ref mc, .ref rv, .int (nI mn), .int tol, .int (nI rn)], gI g zx 144 fx, gI g zy 144 fy, gI g zm 3 fm, gI g qa 30 g1, gI g qb 30 g2, gI g qc 30 g3] (fun (r : Int32) (u : (Nat → Int32) × (Nat → Int32)) => True ∧ nwW l_ (cutS nr (nI yr) 48 0 (n, X, Y) (ln, g1, g2, g3)).1.1 (cutS nr (nI yr) 48 0 (n, X, Y) (ln, g1, g2, g3)).1.2.1 fx u.1 ∧ nwW l_ (cutS nr (nI yr) 48 0 (n, X, Y) (ln, g1, g2, g3)).1.1 (cutS nr (nI yr) 48 0 (n, X, Y) (ln, g1, g2, g3)).1.2.2 fy u.2) (fun (u : (Nat → Int32) × (Nat → Int32)) => [gO mo 9 [.int th, .ref zt, .int (nI tn), .int (nI sz), .ref zx, .ref zy, .ref zm, .ref zb, .int rt, .int w0, .int w1, .int w2, .int lg, .int nr, .int (nI yr), .ref va, .ref vb, .ref vc, .ref vd, .ref qa, .ref qb, .ref qc, .int (nI ((cutS nr (nI yr) 48 0 (n, X, Y) (ln, g1, g2, g3)).2.1)), .ref sa, .ref sb, .ref sc, .ref sd, .ref se, .int (nI pn), .ref ma, .ref mb, .ref mc, .ref rv, .int (nI mn), .int tol, .int (nI rn)], gI g zx 144 u.1, gI g zy 144 u.2, gI g zm 3 (upd fm l_ (nI (cutS nr (nI yr) 48 0 (n, X, Y) (ln, g1, g2, g3)).1.1)), gI g qa 30 ((cutS nr (nI yr) 48 0 (n, X, Y) (ln, g1, g2, g3)).2.2.1), gI g qb 30 ((cutS nr (nI yr) 48 0 (n, X, Y) (ln, g1, g2, g3)).2.2.2.1), gI g qc 30 ((cutS nr (nI yr) 48 0 (n, X, Y) (ln, g1, g2, g3)).2.2.2.2)]) := by
  refine CtI.of (cc := cX9_cut) (maxL := 8) (ret := .boolean) (by decide) rfl (Nat.le_of_ble_eq_true rfl) ?_
  intro p e s m args below meth c A Q hnm F hK hA hP hD hS hret ls hl
  have hx := F.1
  have hb := F.2.1
  have hl : lv_has ls 8 [(0, .ref mo), (1, .int (nI l_))] := hl
  refine lv_iconst (v := 0) hx hb dX9_cut_0 (by decide) ?_
  refine lv_istore_n (lv' := [(2, .int 0), (0, .ref mo), (1, .int (nI l_))]) hx hb dX9_cut_1 rfl hl (by decide) rfl (fun ls hl => ?_)
  refine lv_iconst (v := 1) hx hb dX9_cut_2 (by decide) ?_
  refine lv_istore_n (lv' := [(3, .int 1), (2, .int 0), (0, .ref mo), (1, .int (nI l_))]) hx hb dX9_cut_3 rfl hl (by decide) rfl (fun ls hl => ?_)
  have L4 : ∀ (fuel : Nat) (mo_ : Nat) (an : Nat) (L : LN) (P : LPS) (a : Nat) (fm_ : Nat → Int32) (gx : Nat → Int32) (gy : Nat → Int32) (ls : Array Slot) (H : Heap) (locs : List Loc), 2 * L.1 + mo_ < fuel → (mo_ ≤ 1) → (okL L) → (P.1 ≤ 30) → (fm_ = upd fm l_ (nI L.1)) → (nwW l_ L.1 L.2.1 fx gx) → (nwW l_ L.1 L.2.2 fy gy) → (cutS nr (nI yr) (48 - a) a L P = (cutS nr (nI yr) 48 0 (n, X, Y) (ln, g1, g2, g3))) → (∀ i, i < a → nnL nr L i) → (a ≤ 48) → (mo_ = 0 → (cutS nr (nI yr) 48 0 (n, X, Y) (ln, g1, g2, g3)) = (L, P)) → ((an = 0 ∧ P.1 = (ln, g1, g2, g3).1) ∨ (an = 1 ∧ 0 < P.1)) → lv_has ls 8 [(0, .ref mo), (1, .int (nI l_)), (2, .int (nI an)), (3, .int (nI mo_))] → gP g [gO mo 9 [.int th, .ref zt, .int (nI tn), .int (nI sz), .ref zx, .ref zy, .ref zm, .ref zb, .int rt, .int w0, .int w1, .int w2, .int lg, .int nr, .int (nI yr), .ref va, .ref vb, .ref vc, .ref vd, .ref qa, .ref qb, .ref qc, .int (nI P.1), .ref sa, .ref sb, .ref sc, .ref sd, .ref se, .int (nI pn), .ref ma, .ref mb, .ref mc, .ref rv, .int (nI mn), .int tol, .int (nI rn)], gI g zx 144 gx, gI g zy 144 gy, gI g zm 3 fm_, gI g qa 30 P.2.1, gI g qb 30 P.2.2.1, gI g qc 30 P.2.2.2] H → va_D A [gO mo 9 [.int th, .ref zt, .int (nI tn), .int (nI sz), .ref zx, .ref zy, .ref zm, .ref zb, .int rt, .int w0, .int w1, .int w2, .int lg, .int nr, .int (nI yr), .ref va, .ref vb, .ref vc, .ref vd, .ref qa, .ref qb, .ref qc, .int (nI P.1), .ref sa, .ref sb, .ref sc, .ref sd, .ref se, .int (nI pn), .ref ma, .ref mb, .ref mc, .ref rv, .int (nI mn), .int tol, .int (nI rn)], gI g zx 144 gx, gI g zy 144 gy, gI g zm 3 fm_, gI g qa 30 P.2.1, gI g qb 30 P.2.2.1, gI g qc 30 P.2.2.2] → va_S A s.heap H locs → W p l e rm_X9_cut s m args below meth c H locs 0 0 Q (F0 m 4 ls []) := by
    intro fuel
    induction fuel with
    | zero => intro mo_ an L P a fm_ gx gy _ _ _ hk; exact absurd hk (Nat.not_lt_zero _)
    | succ fuel_4 ih_4 =>
      intro mo_ an L P a fm_ gx gy ls H locs hk_4 hmo hoL h30 fmh b1 b2 hc hnn ha hend hap hl hP hD hS
      have hmL : fm_ l_ = nI L.1 := by rw [fmh, pk_us]
      have h4 := hoL.1
      have h48 := hoL.2.1
      refine lv_iload_n hx hb dX9_cut_4 rfl (lv_at hl 3 rfl) ?_
      refine n_if_eq (a := mo_) (tgt := 197) hx hb dX9_cut_5 (by decide) (by omega) (fun c_5 => ?_) (fun c_5 => ?_)
      · refine lv_iload_n hx hb dX9_cut_197 rfl (lv_at hl 2 rfl) ?_
        have he : (cutS nr (nI yr) 48 0 (n, X, Y) (ln, g1, g2, g3)) = (L, P) := hend c_5
        exact hret _ _ _ _ (nI an) (gx, gy) dX9_cut_198 (by rcases hap with ⟨z, _⟩ | ⟨z, _⟩ <;> rw [z] <;> rfl) (⟨trivial, by rw [he]; exact ⟨b1, b2⟩⟩) (by rw [he]; subst fmh; exact hP) (by rw [he]; subst fmh; exact hD) hS
      · refine lv_iconst (v := 0) hx hb dX9_cut_8 (by decide) ?_
        refine lv_istore_n (lv' := [(3, .int 0), (0, .ref mo), (1, .int (nI l_)), (2, .int (nI an))]) hx hb dX9_cut_9 rfl hl (by decide) rfl (fun ls hl => ?_)
        refine lv_iconst (v := 0) hx hb dX9_cut_10 (by decide) ?_
        refine lv_istore (lv' := [(4, .int 0), (3, .int 0), (0, .ref mo), (1, .int (nI l_)), (2, .int (nI an))]) hx hb dX9_cut_11 hl (by decide) rfl (fun ls hl => ?_)
        have L13 : ∀ (fuel : Nat) (i : Nat) (a2 : Nat) (ls : Array Slot) (H : Heap) (locs : List Loc), 49 - i < fuel → (i ≤ a2) → (cutS nr (nI yr) (48 - a2) a2 L P = (cutS nr (nI yr) 48 0 (n, X, Y) (ln, g1, g2, g3))) → (∀ i, i < a2 → nnL nr L i) → (a2 ≤ 48) → lv_has ls 8 [(0, .ref mo), (1, .int (nI l_)), (2, .int (nI an)), (3, .int 0), (4, .int (nI i))] → gP g [gO mo 9 [.int th, .ref zt, .int (nI tn), .int (nI sz), .ref zx, .ref zy, .ref zm, .ref zb, .int rt, .int w0, .int w1, .int w2, .int lg, .int nr, .int (nI yr), .ref va, .ref vb, .ref vc, .ref vd, .ref qa, .ref qb, .ref qc, .int (nI P.1), .ref sa, .ref sb, .ref sc, .ref sd, .ref se, .int (nI pn), .ref ma, .ref mb, .ref mc, .ref rv, .int (nI mn), .int tol, .int (nI rn)], gI g zx 144 gx, gI g zy 144 gy, gI g zm 3 fm_, gI g qa 30 P.2.1, gI g qb 30 P.2.2.1, gI g qc 30 P.2.2.2] H → va_D A [gO mo 9 [.int th, .ref zt, .int (nI tn), .int (nI sz), .ref zx, .ref zy, .ref zm, .ref zb, .int rt, .int w0, .int w1, .int w2, .int lg, .int nr, .int (nI yr), .ref va, .ref vb, .ref vc, .ref vd, .ref qa, .ref qb, .ref qc, .int (nI P.1), .ref sa, .ref sb, .ref sc, .ref sd, .ref se, .int (nI pn), .ref ma, .ref mb, .ref mc, .ref rv, .int (nI mn), .int tol, .int (nI rn)], gI g zx 144 gx, gI g zy 144 gy, gI g zm 3 fm_, gI g qa 30 P.2.1, gI g qb 30 P.2.2.1, gI g qc 30 P.2.2.2] → va_S A s.heap H locs → W p l e rm_X9_cut s m args below meth c H locs 0 0 Q (F0 m 13 ls []) := by
          intro fuel
          induction fuel with
          | zero => intro i a2 _ _ _ hk; exact absurd hk (Nat.not_lt_zero _)
          | succ fuel_13 ih_13 =>
            intro i a2 ls H locs hk_13 hia hc2 hnn2 ha2 hl hP hD hS
            refine lv_iload hx hb dX9_cut_13 (lv_at hl 4 rfl) ?_
            refine lv_aload_n hx hb dX9_cut_15 rfl (lv_at hl 0 rfl) ?_
            refine g_get (C := RX9) (T := TX9) (N := 36) F hK hP i_X9_cut_X9 0 rfl rfl 6 (by decide) k_X9_cut_f34 (v := .ref zm) rfl dX9_cut_16 ?_
            refine lv_iload_n hx hb dX9_cut_19 rfl (lv_at hl 1 rfl) ?_
            refine g_iald (i := l_) (v := (nI L.1)) hx hb hK hP 3 rfl (by decide) (by omega) (hmL) dX9_cut_20 ?_
            refine n_icmp_ge (a := i) (b := L.1) (tgt := 194) hx hb dX9_cut_21 (by decide) (by omega) (by omega) (fun c_21 => ?_) (fun c_21 => ?_)
            · refine lv_goto (tgt := 4) hx hb dX9_cut_194 (by decide) ?_
              exact ih_4 0 an L P a2 fm_ gx gy ls _ _ (by omega) (by omega) (by omega) (by omega) (by omega) (by omega) (by omega) (hc2) (hnn2) (ha2) (fun _ => by rw [← hc2, cutS_end (by omega)]) (by omega) (lv_sub hl [0, 1, 2, 3] rfl) hP hD hS
            · refine lv_iload_n hx hb dX9_cut_24 rfl (lv_at hl 3 rfl) ?_
              refine lv_if_ne (tgt := 194) hx hb dX9_cut_25 (by decide) (fun h => absurd (by decide) h) (fun _ => ?_)
              refine lv_aload_n hx hb dX9_cut_28 rfl (lv_at hl 0 rfl) ?_
              refine g_get (C := RX9) (T := TX9) (N := 36) F hK hP i_X9_cut_X9 0 rfl rfl 6 (by decide) k_X9_cut_f34 (v := .ref zm) rfl dX9_cut_29 ?_
              refine lv_iload_n hx hb dX9_cut_32 rfl (lv_at hl 1 rfl) ?_
              refine g_iald (i := l_) (v := (nI L.1)) hx hb hK hP 3 rfl (by decide) (by omega) (hmL) dX9_cut_33 ?_
              refine lv_iconst (v := 1) hx hb dX9_cut_34 (by decide) ?_
              refine n_isub (a := L.1) (b := 1) (d := L.1 - 1) hx hb dX9_cut_35 (by omega) (by omega) ?_
              refine lv_istore (lv' := [(5, .int (nI (L.1 - 1))), (0, .ref mo), (1, .int (nI l_)), (2, .int (nI an)), (3, .int 0), (4, .int (nI i))]) hx hb dX9_cut_36 hl (by decide) rfl (fun ls hl => ?_)
              have L38 : ∀ (fuel : Nat) (j : Nat) (ls : Array Slot) (H : Heap) (locs : List Loc), j < fuel → (j ≤ L.1 - 1) → (neckS L.2.1 L.2.2 L.1 nr i = fneck (nk2B L.2.1 L.2.2 L.1 nr i) (i + 3) j) → lv_has ls 8 [(0, .ref mo), (1, .int (nI l_)), (2, .int (nI an)), (3, .int 0), (4, .int (nI i)), (5, .int (nI j))] → gP g [gO mo 9 [.int th, .ref zt, .int (nI tn), .int (nI sz), .ref zx, .ref zy, .ref zm, .ref zb, .int rt, .int w0, .int w1, .int w2, .int lg, .int nr, .int (nI yr), .ref va, .ref vb, .ref vc, .ref vd, .ref qa, .ref qb, .ref qc, .int (nI P.1), .ref sa, .ref sb, .ref sc, .ref sd, .ref se, .int (nI pn), .ref ma, .ref mb, .ref mc, .ref rv, .int (nI mn), .int tol, .int (nI rn)], gI g zx 144 gx, gI g zy 144 gy, gI g zm 3 fm_, gI g qa 30 P.2.1, gI g qb 30 P.2.2.1, gI g qc 30 P.2.2.2] H → va_D A [gO mo 9 [.int th, .ref zt, .int (nI tn), .int (nI sz), .ref zx, .ref zy, .ref zm, .ref zb, .int rt, .int w0, .int w1, .int w2, .int lg, .int nr, .int (nI yr), .ref va, .ref vb, .ref vc, .ref vd, .ref qa, .ref qb, .ref qc, .int (nI P.1), .ref sa, .ref sb, .ref sc, .ref sd, .ref se, .int (nI pn), .ref ma, .ref mb, .ref mc, .ref rv, .int (nI mn), .int tol, .int (nI rn)], gI g zx 144 gx, gI g zy 144 gy, gI g zm 3 fm_, gI g qa 30 P.2.1, gI g qb 30 P.2.2.1, gI g qc 30 P.2.2.2] → va_S A s.heap H locs → W p l e rm_X9_cut s m args below meth c H locs 0 0 Q (F0 m 38 ls []) := by
                intro fuel
                induction fuel with
                | zero => intro j _ _ _ hk; exact absurd hk (Nat.not_lt_zero _)
                | succ fuel_38 ih_38 =>
                  intro j ls H locs hk_38 hj hf hl hP hD hS
                  refine lv_iload hx hb dX9_cut_38 (lv_at hl 5 rfl) ?_
                  refine lv_iload hx hb dX9_cut_40 (lv_at hl 4 rfl) ?_
                  refine lv_iconst (v := 3) hx hb dX9_cut_42 (by decide) ?_
                  refine n_iadd (a := i) (b := 3) (d := i + 3) hx hb dX9_cut_43 (by omega) ?_
                  refine n_icmp_lt (a := j) (b := i + 3) (tgt := 65) hx hb dX9_cut_44 (by decide) (by omega) (by omega) (fun c_44 => ?_) (fun c_44 => ?_)
                  · have hz0 : nnL nr L i := hf.trans (fneck_0 (by omega))
                    refine lv_iload hx hb dX9_cut_65 (lv_at hl 5 rfl) ?_
                    refine lv_iload hx hb dX9_cut_67 (lv_at hl 4 rfl) ?_
                    refine lv_iconst (v := 3) hx hb dX9_cut_69 (by decide) ?_
                    refine n_iadd (a := i) (b := 3) (d := i + 3) hx hb dX9_cut_70 (by omega) ?_
                    refine n_icmp_ge (a := j) (b := i + 3) (tgt := 77) hx hb dX9_cut_71 (by decide) (by omega) (by omega) (fun h => absurd h (by omega)) (fun c_71 => ?_)
                    refine lv_goto (tgt := 188) hx hb dX9_cut_74 (by decide) ?_
                    refine lv_iinc (v := (nI (i + 1))) (lv' := [(4, .int (nI (i + 1))), (0, .ref mo), (1, .int (nI l_)), (2, .int (nI an)), (3, .int 0), (5, .int (nI j))]) hx hb dX9_cut_188 hl (k := 4) rfl (g_inc i 1 (by decide)) (by decide) rfl (fun ls hl => ?_)
                    refine lv_goto (tgt := 13) hx hb dX9_cut_191 (by decide) ?_
                    obtain ⟨hv1, hv2⟩ := cut_adv h48 hia hz0 hnn2 hc2
                    exact ih_13 (i + 1) (max a2 (i + 1)) ls _ _ (by omega) (by omega) (hv1) (hv2) (by omega) (lv_sub hl [1, 2, 3, 4, 0] rfl) hP hD hS
                  · refine lv_aload_n hx hb dX9_cut_47 rfl (lv_at hl 0 rfl) ?_
                    refine lv_iload_n hx hb dX9_cut_48 rfl (lv_at hl 1 rfl) ?_
                    refine lv_iload hx hb dX9_cut_49 (lv_at hl 4 rfl) ?_
                    refine lv_iload hx hb dX9_cut_51 (lv_at hl 5 rfl) ?_
                    refine g_VI (wr := [gI g qa 30 P.2.1, gI g qb 30 P.2.2.1, gI g qc 30 P.2.2.2]) (As := [.int (nI l_), .int (nI i), .int (nI j)]) (rest := []) (n := 3) F (c_X9_isNear l g mo th zt tn sz zx zy zm zb rt w0 w1 w2 lg nr yr va vb vc vd qa qb qc P.1 sa sb sc sd se pn ma mb mc rv mn tol rn l_ L.1 fm_ gx gy L.2.1 L.2.2 i j (hl3) (hmL) (by omega) (b1.1) (b2.1) (by omega) (by omega) (hoL)) gX9_cut_X9_isNear rfl (by decide) ⟨by decide, by decide⟩ 0 9 rfl rfl rfl rfl hl.1 rfl (Nat.le_of_ble_eq_true rfl) dX9_cut_53 ⟨Nat.le_of_ble_eq_true rfl, Nat.le_of_ble_eq_true rfl⟩ hK hP hD hS hA [0, 1, 2, 3] [4, 5, 6] (by decide) rfl rfl (by decide) (by decide) (fun r_53 u_53 H locs hw_53 hP hD hS => ?_)
                    have hP : gP g [gI g qa 30 P.2.1, gI g qb 30 P.2.2.1, gI g qc 30 P.2.2.2, gO mo 9 [.int th, .ref zt, .int (nI tn), .int (nI sz), .ref zx, .ref zy, .ref zm, .ref zb, .int rt, .int w0, .int w1, .int w2, .int lg, .int nr, .int (nI yr), .ref va, .ref vb, .ref vc, .ref vd, .ref qa, .ref qb, .ref qc, .int (nI P.1), .ref sa, .ref sb, .ref sc, .ref sd, .ref se, .int (nI pn), .ref ma, .ref mb, .ref mc, .ref rv, .int (nI mn), .int tol, .int (nI rn)], gI g zx 144 gx, gI g zy 144 gy, gI g zm 3 fm_] H := hP
                    have hD : va_D A [gI g qa 30 P.2.1, gI g qb 30 P.2.2.1, gI g qc 30 P.2.2.2, gO mo 9 [.int th, .ref zt, .int (nI tn), .int (nI sz), .ref zx, .ref zy, .ref zm, .ref zb, .int rt, .int w0, .int w1, .int w2, .int lg, .int nr, .int (nI yr), .ref va, .ref vb, .ref vc, .ref vd, .ref qa, .ref qb, .ref qc, .int (nI P.1), .ref sa, .ref sb, .ref sc, .ref sd, .ref se, .int (nI pn), .ref ma, .ref mb, .ref mc, .ref rv, .int (nI mn), .int tol, .int (nI rn)], gI g zx 144 gx, gI g zy 144 gy, gI g zm 3 fm_] := hD
                    rcases hw_53 with ⟨rfl, b_53⟩ | ⟨rfl, b_53⟩
                    · refine lv_if_ne (tgt := 65) hx hb dX9_cut_56 (by decide) (fun _ => ?_) (fun h => absurd h (by decide))
                      have hjn : neckS L.2.1 L.2.2 L.1 nr i = j := hf.trans (fneck_y (by omega) (by omega) b_53)
                      have hjz : j ≠ 0 := by omega
                      obtain ⟨hj1, hj2, hj3⟩ := neck_sp hjn hjz
                      have hia2 : i = a2 := by by_cases e : i < a2; (have := hnn2 i e; rw [nnL, hjn] at this; omega); omega
                      refine lv_iload hx hb dX9_cut_65 (lv_at hl 5 rfl) ?_
                      refine lv_iload hx hb dX9_cut_67 (lv_at hl 4 rfl) ?_
                      refine lv_iconst (v := 3) hx hb dX9_cut_69 (by decide) ?_
                      refine n_iadd (a := i) (b := 3) (d := i + 3) hx hb dX9_cut_70 (by omega) ?_
                      refine n_icmp_ge (a := j) (b := i + 3) (tgt := 77) hx hb dX9_cut_71 (by decide) (by omega) (by omega) (fun c_71 => ?_) (fun h => absurd h (by omega))
                      refine lv_iconst (v := 1) hx hb dX9_cut_77 (by decide) ?_
                      refine lv_istore_n (lv' := [(3, .int 1), (0, .ref mo), (1, .int (nI l_)), (2, .int (nI an)), (4, .int (nI i)), (5, .int (nI j))]) hx hb dX9_cut_78 rfl hl (by decide) rfl (fun ls hl => ?_)
                      refine lv_iconst (v := 1) hx hb dX9_cut_79 (by decide) ?_
                      refine lv_istore_n (lv' := [(2, .int 1), (3, .int 1), (0, .ref mo), (1, .int (nI l_)), (4, .int (nI i)), (5, .int (nI j))]) hx hb dX9_cut_80 rfl hl (by decide) rfl (fun ls hl => ?_)
                      refine lv_iload_n hx hb dX9_cut_81 rfl (lv_at hl 3 rfl) ?_
                      refine n_if_ne (a := l_) (tgt := 93) hx hb dX9_cut_82 (by decide) (by omega) (fun h => absurd hl0 h) (fun c_82 => ?_)
                      refine lv_aload_n hx hb dX9_cut_85 rfl (lv_at hl 2 rfl) ?_
                      refine lv_iload hx hb dX9_cut_86 (lv_at hl 4 rfl) ?_
                      refine lv_iload hx hb dX9_cut_88 (lv_at hl 5 rfl) ?_
                      refine g_VV (wr := []) (As := [.int (nI i), .int (nI j)]) (rest := []) (n := 2) F (c_X9_note l g mo th zt tn sz zx zy zm zb rt w0 w1 w2 lg nr yr va vb vc vd qa qb qc P.1 sa sb sc sd se pn ma mb mc rv mn tol rn l_ L.1 fm_ gx gy L.2.1 L.2.2 P.2.1 P.2.2.1 P.2.2.2 i j (hl3) (hmL) (by omega) (b1.1) (b2.1) (hl0) (h30) (by omega) (by omega)) gX9_cut_X9_note rfl (by decide) ⟨by decide, by decide⟩ 3 9 rfl rfl rfl rfl hl.1 rfl (Nat.le_of_ble_eq_true rfl) dX9_cut_90 ⟨Nat.le_of_ble_eq_true rfl, Nat.le_of_ble_eq_true rfl⟩ hK hP hD hS hA [3, 4, 5, 6, 0, 1, 2] [] (by decide) rfl rfl (by decide) (by decide) (fun u_90 H locs hw_90 hP hD hS => ?_)
                      have hP : gP g [gO mo 9 [.int th, .ref zt, .int (nI tn), .int (nI sz), .ref zx, .ref zy, .ref zm, .ref zb, .int rt, .int w0, .int w1, .int w2, .int lg, .int nr, .int (nI yr), .ref va, .ref vb, .ref vc, .ref vd, .ref qa, .ref qb, .ref qc, .int (nI (noteN P.1)), .ref sa, .ref sb, .ref sc, .ref sd, .ref se, .int (nI pn), .ref ma, .ref mb, .ref mc, .ref rv, .int (nI mn), .int tol, .int (nI rn)], gI g zx 144 gx, gI g zy 144 gy, gI g zm 3 fm_, gI g qa 30 (noteR P.2.1 P.1 (nI yr)), gI g qb 30 (noteR P.2.2.1 P.1 (nI (j - i - 1))), gI g qc 30 (noteR P.2.2.2 P.1 (areaS L.2.1 L.2.2 i j))] H := hP
                      have hD : va_D A [gO mo 9 [.int th, .ref zt, .int (nI tn), .int (nI sz), .ref zx, .ref zy, .ref zm, .ref zb, .int rt, .int w0, .int w1, .int w2, .int lg, .int nr, .int (nI yr), .ref va, .ref vb, .ref vc, .ref vd, .ref qa, .ref qb, .ref qc, .int (nI (noteN P.1)), .ref sa, .ref sb, .ref sc, .ref sd, .ref se, .int (nI pn), .ref ma, .ref mb, .ref mc, .ref rv, .int (nI mn), .int tol, .int (nI rn)], gI g zx 144 gx, gI g zy 144 gy, gI g zm 3 fm_, gI g qa 30 (noteR P.2.1 P.1 (nI yr)), gI g qb 30 (noteR P.2.2.1 P.1 (nI (j - i - 1))), gI g qc 30 (noteR P.2.2.2 P.1 (areaS L.2.1 L.2.2 i j))] := hD
                      refine lv_iload hx hb dX9_cut_93 (lv_at hl 5 rfl) ?_
                      refine lv_iload hx hb dX9_cut_95 (lv_at hl 4 rfl) ?_
                      refine n_isub (a := j) (b := i) (d := j - i) hx hb dX9_cut_97 (by omega) (by omega) ?_
                      refine lv_iconst (v := 1) hx hb dX9_cut_98 (by decide) ?_
                      refine n_isub (a := j - i) (b := 1) (d := (j - i) - 1) hx hb dX9_cut_99 (by omega) (by omega) ?_
                      refine lv_istore (lv' := [(6, .int (nI ((j - i) - 1))), (2, .int 1), (3, .int 1), (0, .ref mo), (1, .int (nI l_)), (4, .int (nI i)), (5, .int (nI j))]) hx hb dX9_cut_100 hl (by decide) rfl (fun ls hl => ?_)
                      refine lv_iload hx hb dX9_cut_102 (lv_at hl 6 rfl) ?_
                      refine lv_istore (lv' := [(7, .int (nI j)), (6, .int (nI ((j - i) - 1))), (2, .int 1), (3, .int 1), (0, .ref mo), (1, .int (nI l_)), (4, .int (nI i)), (5, .int (nI j))]) hx hb dX9_cut_104 hl (by decide) rfl (fun ls hl => ?_)
                      have L106 : ∀ (fuel : Nat) (k : Nat) (hx_ : Nat → Int32) (hy_ : Nat → Int32) (ls : Array Slot) (H : Heap) (locs : List Loc), L.1 - k < fuel → (j ≤ k) → (k ≤ L.1) → (inW l_ L.1 (k - (j - i - 1)) k (shfS L.2.1 i j) L.2.1 fx hx_) → (inW l_ L.1 (k - (j - i - 1)) k (shfS L.2.2 i j) L.2.2 fy hy_) → lv_has ls 8 [(0, .ref mo), (1, .int (nI l_)), (2, .int 1), (3, .int 1), (4, .int (nI i)), (5, .int (nI j)), (6, .int (nI ((j - i) - 1))), (7, .int (nI k))] → gP g [gO mo 9 [.int th, .ref zt, .int (nI tn), .int (nI sz), .ref zx, .ref zy, .ref zm, .ref zb, .int rt, .int w0, .int w1, .int w2, .int lg, .int nr, .int (nI yr), .ref va, .ref vb, .ref vc, .ref vd, .ref qa, .ref qb, .ref qc, .int (nI (noteN P.1)), .ref sa, .ref sb, .ref sc, .ref sd, .ref se, .int (nI pn), .ref ma, .ref mb, .ref mc, .ref rv, .int (nI mn), .int tol, .int (nI rn)], gI g zx 144 hx_, gI g zy 144 hy_, gI g zm 3 fm_, gI g qa 30 (noteR P.2.1 P.1 (nI yr)), gI g qb 30 (noteR P.2.2.1 P.1 (nI (j - i - 1))), gI g qc 30 (noteR P.2.2.2 P.1 (areaS L.2.1 L.2.2 i j))] H → va_D A [gO mo 9 [.int th, .ref zt, .int (nI tn), .int (nI sz), .ref zx, .ref zy, .ref zm, .ref zb, .int rt, .int w0, .int w1, .int w2, .int lg, .int nr, .int (nI yr), .ref va, .ref vb, .ref vc, .ref vd, .ref qa, .ref qb, .ref qc, .int (nI (noteN P.1)), .ref sa, .ref sb, .ref sc, .ref sd, .ref se, .int (nI pn), .ref ma, .ref mb, .ref mc, .ref rv, .int (nI mn), .int tol, .int (nI rn)], gI g zx 144 hx_, gI g zy 144 hy_, gI g zm 3 fm_, gI g qa 30 (noteR P.2.1 P.1 (nI yr)), gI g qb 30 (noteR P.2.2.1 P.1 (nI (j - i - 1))), gI g qc 30 (noteR P.2.2.2 P.1 (areaS L.2.1 L.2.2 i j))] → va_S A s.heap H locs → W p l e rm_X9_cut s m args below meth c H locs 0 0 Q (F0 m 106 ls []) := by
                        intro fuel
                        induction fuel with
                        | zero => intro k hx_ hy_ _ _ _ hk; exact absurd hk (Nat.not_lt_zero _)
                        | succ fuel_106 ih_106 =>
                          intro k hx_ hy_ ls H locs hk_106 hk1 hk2 d1 d2 hl hP hD hS
                          refine lv_iload hx hb dX9_cut_106 (lv_at hl 7 rfl) ?_
                          refine lv_aload_n hx hb dX9_cut_108 rfl (lv_at hl 0 rfl) ?_
                          refine g_get (C := RX9) (T := TX9) (N := 36) F hK hP i_X9_cut_X9 0 rfl rfl 6 (by decide) k_X9_cut_f34 (v := .ref zm) rfl dX9_cut_109 ?_
                          refine lv_iload_n hx hb dX9_cut_112 rfl (lv_at hl 1 rfl) ?_
                          refine g_iald (i := l_) (v := (nI L.1)) hx hb hK hP 3 rfl (by decide) (by omega) (hmL) dX9_cut_113 ?_
                          refine n_icmp_ge (a := k) (b := L.1) (tgt := 177) hx hb dX9_cut_114 (by decide) (by omega) (by omega) (fun c_114 => ?_) (fun c_114 => ?_)
                          · obtain rfl : L.1 = k := by omega
                            refine lv_aload_n hx hb dX9_cut_177 rfl (lv_at hl 0 rfl) ?_
                            refine g_get (C := RX9) (T := TX9) (N := 36) F hK hP i_X9_cut_X9 0 rfl rfl 6 (by decide) k_X9_cut_f34 (v := .ref zm) rfl dX9_cut_178 ?_
                            refine lv_iload_n hx hb dX9_cut_181 rfl (lv_at hl 1 rfl) ?_
                            refine lv_dup2_11 hx hb dX9_cut_182 rfl rfl ?_
                            refine g_iald (i := l_) (v := (nI L.1)) hx hb hK hP 3 rfl (by decide) (by omega) (hmL) dX9_cut_183 ?_
                            refine lv_iload hx hb dX9_cut_184 (lv_at hl 6 rfl) ?_
                            refine n_isub (a := L.1) (b := (j - i) - 1) (d := L.1 - ((j - i) - 1)) hx hb dX9_cut_186 (by omega) (by omega) ?_
                            refine g_iast (i := l_) (ws2 := [gO mo 9 [.int th, .ref zt, .int (nI tn), .int (nI sz), .ref zx, .ref zy, .ref zm, .ref zb, .int rt, .int w0, .int w1, .int w2, .int lg, .int nr, .int (nI yr), .ref va, .ref vb, .ref vc, .ref vd, .ref qa, .ref qb, .ref qc, .int (nI (noteN P.1)), .ref sa, .ref sb, .ref sc, .ref sd, .ref se, .int (nI pn), .ref ma, .ref mb, .ref mc, .ref rv, .int (nI mn), .int tol, .int (nI rn)], gI g zx 144 hx_, gI g zy 144 hy_, gI g zm 3 (upd fm_ l_ (nI (L.1 - ((j - i) - 1)))), gI g qa 30 (noteR P.2.1 P.1 (nI yr)), gI g qb 30 (noteR P.2.2.1 P.1 (nI (j - i - 1))), gI g qc 30 (noteR P.2.2.2 P.1 (areaS L.2.1 L.2.2 i j))]) hx hb hK hP hD hS 3 rfl (by decide) (by omega) rfl dX9_cut_187 (fun H locs hP hD hS => ?_)
                            refine lv_iinc (v := (nI (i + 1))) (lv' := [(4, .int (nI (i + 1))), (0, .ref mo), (1, .int (nI l_)), (2, .int 1), (3, .int 1), (5, .int (nI j)), (6, .int (nI ((j - i) - 1))), (7, .int (nI L.1))]) hx hb dX9_cut_188 hl (k := 4) rfl (g_inc i 1 (by decide)) (by decide) rfl (fun ls hl => ?_)
                            refine lv_goto (tgt := 13) hx hb dX9_cut_191 (by decide) ?_
                            refine lv_iload hx hb dX9_cut_13 (lv_at hl 0 rfl) ?_
                            refine lv_aload_n hx hb dX9_cut_15 rfl (lv_at hl 1 rfl) ?_
                            refine g_get (C := RX9) (T := TX9) (N := 36) F hK hP i_X9_cut_X9 0 rfl rfl 6 (by decide) k_X9_cut_f34 (v := .ref zm) rfl dX9_cut_16 ?_
                            refine lv_iload_n hx hb dX9_cut_19 rfl (lv_at hl 2 rfl) ?_
                            refine g_iald (i := l_) (v := ((upd fm_ l_ (nI (L.1 - ((j - i) - 1)))) l_)) hx hb hK hP 3 rfl (by decide) (by omega) (rfl) dX9_cut_20 ?_
                            refine lv_icmp_ge (tgt := 194) hx hb dX9_cut_21 (by decide) (fun c_21 => ?_) (fun c_21 => ?_)
                            · refine lv_goto (tgt := 4) hx hb dX9_cut_194 (by decide) ?_
                              exact ih_4 1 1 (cutA L i j) (noteN P.1, noteR P.2.1 P.1 (nI yr), noteR P.2.2.1 P.1 (nI (j - i - 1)), noteR P.2.2.2 P.1 (areaS L.2.1 L.2.2 i j)) (i + 1) (upd fm_ l_ (nI (L.1 - ((j - i) - 1)))) hx_ hy_ ls _ _ (by show 2 * (L.1 - (j - i - 1)) + 1 < _; omega) (by omega) (cutA_ok hoL hj1 hj2 hj3) (noteN_le h30) (by rw [fmh, upd_2]; rfl) (⟨d1.1, d1.2.2⟩) (⟨d2.1, d2.2.2⟩) (by rw [← hc2, ← hia2, cutS_cut (by omega) h48 hjn hjz, noteS_eq]) (nn_cut (by rw [hia2]; exact hnn2) hjn hjz) (by omega) (fun z => absurd z (by decide)) (Or.inr ⟨rfl, noteN_pos _⟩) (lv_sub hl [1, 2, 3, 4] rfl) hP hD hS
                            · refine lv_iload_n hx hb dX9_cut_24 rfl (lv_at hl 4 rfl) ?_
                              refine lv_if_ne (tgt := 194) hx hb dX9_cut_25 (by decide) (fun _ => ?_) (fun h => absurd h (by decide))
                              refine lv_goto (tgt := 4) hx hb dX9_cut_194 (by decide) ?_
                              exact ih_4 1 1 (cutA L i j) (noteN P.1, noteR P.2.1 P.1 (nI yr), noteR P.2.2.1 P.1 (nI (j - i - 1)), noteR P.2.2.2 P.1 (areaS L.2.1 L.2.2 i j)) (i + 1) (upd fm_ l_ (nI (L.1 - ((j - i) - 1)))) hx_ hy_ ls _ _ (by show 2 * (L.1 - (j - i - 1)) + 1 < _; omega) (by omega) (cutA_ok hoL hj1 hj2 hj3) (noteN_le h30) (by rw [fmh, upd_2]; rfl) (⟨d1.1, d1.2.2⟩) (⟨d2.1, d2.2.2⟩) (by rw [← hc2, ← hia2, cutS_cut (by omega) h48 hjn hjz, noteS_eq]) (nn_cut (by rw [hia2]; exact hnn2) hjn hjz) (by omega) (fun z => absurd z (by decide)) (Or.inr ⟨rfl, noteN_pos _⟩) (lv_sub hl [1, 2, 3, 4] rfl) hP hD hS
                          · refine lv_aload_n hx hb dX9_cut_117 rfl (lv_at hl 0 rfl) ?_
                            refine g_get (C := RX9) (T := TX9) (N := 36) F hK hP i_X9_cut_X9 0 rfl rfl 4 (by decide) k_X9_cut_f27 (v := .ref zx) rfl dX9_cut_118 ?_
                            refine lv_bipush (v := 48) hx hb dX9_cut_121 (by decide) ?_
                            refine lv_iload_n hx hb dX9_cut_123 rfl (lv_at hl 1 rfl) ?_
                            refine n_imul (a := 48) (b := l_) (d := 48 * l_) hx hb dX9_cut_124 (rfl) ?_
                            refine lv_iload hx hb dX9_cut_125 (lv_at hl 7 rfl) ?_
                            refine n_iadd (a := 48 * l_) (b := k) (d := 48 * l_ + k) hx hb dX9_cut_127 (by omega) ?_
                            refine lv_iload hx hb dX9_cut_128 (lv_at hl 6 rfl) ?_
                            refine n_isub (a := 48 * l_ + k) (b := (j - i) - 1) (d := (48 * l_ + k) - ((j - i) - 1)) hx hb dX9_cut_130 (by omega) (by omega) ?_
                            refine lv_aload_n hx hb dX9_cut_131 rfl (lv_at hl 0 rfl) ?_
                            refine g_get (C := RX9) (T := TX9) (N := 36) F hK hP i_X9_cut_X9 0 rfl rfl 4 (by decide) k_X9_cut_f27 (v := .ref zx) rfl dX9_cut_132 ?_
                            refine lv_bipush (v := 48) hx hb dX9_cut_135 (by decide) ?_
                            refine lv_iload_n hx hb dX9_cut_137 rfl (lv_at hl 1 rfl) ?_
                            refine n_imul (a := 48) (b := l_) (d := 48 * l_) hx hb dX9_cut_138 (rfl) ?_
                            refine lv_iload hx hb dX9_cut_139 (lv_at hl 7 rfl) ?_
                            refine n_iadd (a := 48 * l_) (b := k) (d := 48 * l_ + k) hx hb dX9_cut_141 (by omega) ?_
                            refine g_iald (i := 48 * l_ + k) (v := (L.2.1 k)) hx hb hK hP 1 rfl (by decide) (by omega) (d1.2.1 k (Nat.le_refl _) (by omega)) dX9_cut_142 ?_
                            refine g_iast (i := (48 * l_ + k) - ((j - i) - 1)) (ws2 := [gO mo 9 [.int th, .ref zt, .int (nI tn), .int (nI sz), .ref zx, .ref zy, .ref zm, .ref zb, .int rt, .int w0, .int w1, .int w2, .int lg, .int nr, .int (nI yr), .ref va, .ref vb, .ref vc, .ref vd, .ref qa, .ref qb, .ref qc, .int (nI (noteN P.1)), .ref sa, .ref sb, .ref sc, .ref sd, .ref se, .int (nI pn), .ref ma, .ref mb, .ref mc, .ref rv, .int (nI mn), .int tol, .int (nI rn)], gI g zx 144 (upd hx_ ((48 * l_ + k) - ((j - i) - 1)) (L.2.1 k)), gI g zy 144 hy_, gI g zm 3 fm_, gI g qa 30 (noteR P.2.1 P.1 (nI yr)), gI g qb 30 (noteR P.2.2.1 P.1 (nI (j - i - 1))), gI g qc 30 (noteR P.2.2.2 P.1 (areaS L.2.1 L.2.2 i j))]) hx hb hK hP hD hS 1 rfl (by decide) (by omega) rfl dX9_cut_143 (fun H locs hP hD hS => ?_)
                            refine lv_aload_n hx hb dX9_cut_144 rfl (lv_at hl 0 rfl) ?_
                            refine g_get (C := RX9) (T := TX9) (N := 36) F hK hP i_X9_cut_X9 0 rfl rfl 5 (by decide) k_X9_cut_f31 (v := .ref zy) rfl dX9_cut_145 ?_
                            refine lv_bipush (v := 48) hx hb dX9_cut_148 (by decide) ?_
                            refine lv_iload_n hx hb dX9_cut_150 rfl (lv_at hl 1 rfl) ?_
                            refine n_imul (a := 48) (b := l_) (d := 48 * l_) hx hb dX9_cut_151 (rfl) ?_
                            refine lv_iload hx hb dX9_cut_152 (lv_at hl 7 rfl) ?_
                            refine n_iadd (a := 48 * l_) (b := k) (d := 48 * l_ + k) hx hb dX9_cut_154 (by omega) ?_
                            refine lv_iload hx hb dX9_cut_155 (lv_at hl 6 rfl) ?_
                            refine n_isub (a := 48 * l_ + k) (b := (j - i) - 1) (d := (48 * l_ + k) - ((j - i) - 1)) hx hb dX9_cut_157 (by omega) (by omega) ?_
                            refine lv_aload_n hx hb dX9_cut_158 rfl (lv_at hl 0 rfl) ?_
                            refine g_get (C := RX9) (T := TX9) (N := 36) F hK hP i_X9_cut_X9 0 rfl rfl 5 (by decide) k_X9_cut_f31 (v := .ref zy) rfl dX9_cut_159 ?_
                            refine lv_bipush (v := 48) hx hb dX9_cut_162 (by decide) ?_
                            refine lv_iload_n hx hb dX9_cut_164 rfl (lv_at hl 1 rfl) ?_
                            refine n_imul (a := 48) (b := l_) (d := 48 * l_) hx hb dX9_cut_165 (rfl) ?_
                            refine lv_iload hx hb dX9_cut_166 (lv_at hl 7 rfl) ?_
                            refine n_iadd (a := 48 * l_) (b := k) (d := 48 * l_ + k) hx hb dX9_cut_168 (by omega) ?_
                            refine g_iald (i := 48 * l_ + k) (v := (L.2.2 k)) hx hb hK hP 2 rfl (by decide) (by omega) (d2.2.1 k (Nat.le_refl _) (by omega)) dX9_cut_169 ?_
                            refine g_iast (i := (48 * l_ + k) - ((j - i) - 1)) (ws2 := [gO mo 9 [.int th, .ref zt, .int (nI tn), .int (nI sz), .ref zx, .ref zy, .ref zm, .ref zb, .int rt, .int w0, .int w1, .int w2, .int lg, .int nr, .int (nI yr), .ref va, .ref vb, .ref vc, .ref vd, .ref qa, .ref qb, .ref qc, .int (nI (noteN P.1)), .ref sa, .ref sb, .ref sc, .ref sd, .ref se, .int (nI pn), .ref ma, .ref mb, .ref mc, .ref rv, .int (nI mn), .int tol, .int (nI rn)], gI g zx 144 (upd hx_ ((48 * l_ + k) - ((j - i) - 1)) (L.2.1 k)), gI g zy 144 (upd hy_ ((48 * l_ + k) - ((j - i) - 1)) (L.2.2 k)), gI g zm 3 fm_, gI g qa 30 (noteR P.2.1 P.1 (nI yr)), gI g qb 30 (noteR P.2.2.1 P.1 (nI (j - i - 1))), gI g qc 30 (noteR P.2.2.2 P.1 (areaS L.2.1 L.2.2 i j))]) hx hb hK hP hD hS 2 rfl (by decide) (by omega) rfl dX9_cut_170 (fun H locs hP hD hS => ?_)
                            refine lv_iinc (v := (nI (k + 1))) (lv' := [(7, .int (nI (k + 1))), (0, .ref mo), (1, .int (nI l_)), (2, .int 1), (3, .int 1), (4, .int (nI i)), (5, .int (nI j)), (6, .int (nI ((j - i) - 1)))]) hx hb dX9_cut_171 hl (k := 7) rfl (g_inc k 1 (by decide)) (by decide) rfl (fun ls hl => ?_)
                            refine lv_goto (tgt := 106) hx hb dX9_cut_174 (by decide) ?_
                            exact ih_106 (k + 1) (upd hx_ ((48 * l_ + k) - ((j - i) - 1)) (L.2.1 k)) (upd hy_ ((48 * l_ + k) - ((j - i) - 1)) (L.2.2 k)) ls _ _ (by omega) (by omega) (by omega) (by rw [show (48 * l_ + k) - ((j - i) - 1) = 48 * l_ + (k - (j - i - 1)) by omega, show k + 1 - (j - i - 1) = k - (j - i - 1) + 1 by omega]; exact inW_g d1 (by omega) (by omega) (by rw [shfS, if_neg (by omega)]; exact congrArg _ (show k = k - (j - i - 1) + (j - i - 1) by omega))) (by rw [show (48 * l_ + k) - ((j - i) - 1) = 48 * l_ + (k - (j - i - 1)) by omega, show k + 1 - (j - i - 1) = k - (j - i - 1) + 1 by omega]; exact inW_g d2 (by omega) (by omega) (by rw [shfS, if_neg (by omega)]; exact congrArg _ (show k = k - (j - i - 1) + (j - i - 1) by omega))) (lv_sub hl [1, 2, 3, 4, 5, 6, 7, 0] rfl) hP hD hS
                      exact L106 ((L.1 - j) + 1) j gx gy ls _ _ (Nat.lt_succ_self _) (by omega) (by omega) (⟨fun q hq => by rw [shfS, if_pos (by omega)]; exact b1.1 q (by omega), fun q _ h => b1.1 q h, b1.2⟩) (⟨fun q hq => by rw [shfS, if_pos (by omega)]; exact b2.1 q (by omega), fun q _ h => b2.1 q h, b2.2⟩) (lv_sub hl [4, 5, 2, 3, 6, 7, 1, 0] rfl) hP hD hS
                    · refine lv_if_ne (tgt := 65) hx hb dX9_cut_56 (by decide) (fun h => absurd (by decide) h) (fun _ => ?_)
                      refine lv_iinc (v := (nI (j - 1))) (lv' := [(5, .int (nI (j - 1))), (0, .ref mo), (1, .int (nI l_)), (2, .int (nI an)), (3, .int 0), (4, .int (nI i))]) hx hb dX9_cut_59 hl (k := 5) rfl (g_dec (show 1 ≤ j by omega)) (by decide) rfl (fun ls hl => ?_)
                      refine lv_goto (tgt := 38) hx hb dX9_cut_62 (by decide) ?_
                      exact ih_38 (j - 1) ls _ _ (by omega) (by omega) (hf.trans (fneck_n (by omega) (by omega) b_53)) (lv_sub hl [1, 2, 3, 4, 5, 0] rfl) (hP.sub [3, 4, 5, 6, 0, 1, 2] rfl) (hD.sub [3, 4, 5, 6, 0, 1, 2] (by decide) rfl) hS
              exact L38 ((L.1 - 1) + 1) (L.1 - 1) ls _ _ (Nat.lt_succ_self _) (by omega) ((neck_2 _ _ _ _ h4).symm) (lv_sub hl [1, 2, 3, 4, 5, 0] rfl) hP hD hS
        exact L13 ((49 - 0) + 1) 0 a ls _ _ (Nat.lt_succ_self _) (by omega) (hc) (hnn) (ha) (lv_sub hl [2, 3, 4, 1, 0] rfl) hP hD hS
  exact L4 ((2 * (n, X, Y).1 + 1) + 1) 1 0 (n, X, Y) (ln, g1, g2, g3) 0 fm fx fy ls _ _ (Nat.lt_succ_self _) (by omega) (hok) (hln) ((upd_same hm).symm) (⟨hX, fun _ _ => rfl⟩) (⟨hY, fun _ _ => rfl⟩) (rfl) (fun i hi => absurd hi (Nat.not_lt_zero i)) (by omega) (fun z => absurd z (by decide)) (Or.inl ⟨rfl, rfl⟩) (lv_sub hl [2, 3, 1, 0] rfl) hP hD hS

set_option maxHeartbeats 4000000 in
set_option maxRecDepth 100000 in
theorem c_X9_cut_tr (l : Launch) (g : gT) (mo : Nat) (th : Int32) (zt : Nat) (tn : Nat) (sz : Nat) (zx : Nat) (zy : Nat) (zm : Nat) (zb : Nat) (rt : Int32) (w0 : Int32) (w1 : Int32) (w2 : Int32) (lg : Int32) (nr : Int32) (yr : Nat) (va : Nat) (vb : Nat) (vc : Nat) (vd : Nat) (qa : Nat) (qb : Nat) (qc : Nat) (ln : Nat) (sa : Nat) (sb : Nat) (sc : Nat) (sd : Nat) (se : Nat) (pn : Nat) (ma : Nat) (mb : Nat) (mc : Nat) (rv : Nat) (mn : Nat) (tol : Int32) (rn : Nat) (l_ : Nat) (n : Nat) (fm : Nat → Int32) (fx : Nat → Int32) (fy : Nat → Int32) (X : Nat → Int32) (Y : Nat → Int32) (hl3 : l_ < 3) (hm : fm l_ = nI n) (hn : n ≤ 48) (hX : ∀ k, k < n → fx (48 * l_ + k) = X k) (hY : ∀ k, k < n → fy (48 * l_ + k) = Y k) (hl0 : l_ = 1) (hok : okL (n, X, Y)) : CtI l g yX9_cut wsX9_cut rm_X9_cut [.ref mo, .int (nI l_)] [gO mo 9 [.int th, .ref zt, .int (nI tn), .int (nI sz), .ref zx, .ref zy, .ref zm, .ref zb, .int rt, .int w0, .int w1, .int w2, .int lg, .int nr, .int (nI yr), .ref va, .ref vb, .ref vc, .ref vd, .ref qa, .ref qb, .ref qc, .int (nI ln), .ref sa, .ref sb, .ref sc, .ref sd, .ref se, .int (nI pn), .ref ma, .ref mb, .ref mc, .ref rv, .int (nI mn), .int tol, .int (nI rn)], gI g zx 144 fx, gI g zy 144 fy, gI g zm 3 fm] (fun (r : Int32) (u : (Nat → Int32) × (Nat → Int32)) => ((r = 1 ∧ hasCut nr (n, X, Y) = true) ∨ (r = 0 ∧ ¬ hasCut nr (n, X, Y) = true)) ∧ nwW l_ (cutS nr 0 48 0 (n, X, Y) P0).1.1 (cutS nr 0 48 0 (n, X, Y) P0).1.2.1 fx u.1 ∧ nwW l_ (cutS nr 0 48 0 (n, X, Y) P0).1.1 (cutS nr 0 48 0 (n, X, Y) P0).1.2.2 fy u.2) (fun (u : (Nat → Int32) × (Nat → Int32)) => [gO mo 9 [.int th, .ref zt, .int (nI tn), .int (nI sz), .ref zx, .ref zy, .ref zm, .ref zb, .int rt, .int w0, .int w1, .int w2, .int lg, .int nr, .int (nI yr), .ref va, .ref vb, .ref vc, .ref vd, .ref qa, .ref qb, .ref qc, .int (nI ln), .ref sa, .ref sb, .ref sc, .ref sd, .ref se, .int (nI pn), .ref ma, .ref mb, .ref mc, .ref rv, .int (nI mn), .int tol, .int (nI rn)], gI g zx 144 u.1, gI g zy 144 u.2, gI g zm 3 (upd fm l_ (nI (cutS nr 0 48 0 (n, X, Y) P0).1.1))]) := by
  refine CtI.of (cc := cX9_cut) (maxL := 8) (ret := .boolean) (by decide) rfl (Nat.le_of_ble_eq_true rfl) ?_
  intro p e s m args below meth c A Q hnm F hK hA hP hD hS hret ls hl
  have hx := F.1
  have hb := F.2.1
  have hl : lv_has ls 8 [(0, .ref mo), (1, .int (nI l_))] := hl
  refine lv_iconst (v := 0) hx hb dX9_cut_0 (by decide) ?_
  refine lv_istore_n (lv' := [(2, .int 0), (0, .ref mo), (1, .int (nI l_))]) hx hb dX9_cut_1 rfl hl (by decide) rfl (fun ls hl => ?_)
  refine lv_iconst (v := 1) hx hb dX9_cut_2 (by decide) ?_
  refine lv_istore_n (lv' := [(3, .int 1), (2, .int 0), (0, .ref mo), (1, .int (nI l_))]) hx hb dX9_cut_3 rfl hl (by decide) rfl (fun ls hl => ?_)
  have L4 : ∀ (fuel : Nat) (mo_ : Nat) (an : Nat) (L : LN) (P : LPS) (a : Nat) (fm_ : Nat → Int32) (gx : Nat → Int32) (gy : Nat → Int32) (ls : Array Slot) (H : Heap) (locs : List Loc), 2 * L.1 + mo_ < fuel → (mo_ ≤ 1) → (okL L) → (P.1 ≤ 30) → (fm_ = upd fm l_ (nI L.1)) → (nwW l_ L.1 L.2.1 fx gx) → (nwW l_ L.1 L.2.2 fy gy) → (cutS nr 0 (48 - a) a L P = (cutS nr 0 48 0 (n, X, Y) P0)) → (∀ i, i < a → nnL nr L i) → (a ≤ 48) → (mo_ = 0 → (cutS nr 0 48 0 (n, X, Y) P0) = (L, P)) → ((an = 0 ∧ P.1 = P0.1) ∨ (an = 1 ∧ 0 < P.1)) → lv_has ls 8 [(0, .ref mo), (1, .int (nI l_)), (2, .int (nI an)), (3, .int (nI mo_))] → gP g [gO mo 9 [.int th, .ref zt, .int (nI tn), .int (nI sz), .ref zx, .ref zy, .ref zm, .ref zb, .int rt, .int w0, .int w1, .int w2, .int lg, .int nr, .int (nI yr), .ref va, .ref vb, .ref vc, .ref vd, .ref qa, .ref qb, .ref qc, .int (nI ln), .ref sa, .ref sb, .ref sc, .ref sd, .ref se, .int (nI pn), .ref ma, .ref mb, .ref mc, .ref rv, .int (nI mn), .int tol, .int (nI rn)], gI g zx 144 gx, gI g zy 144 gy, gI g zm 3 fm_] H → va_D A [gO mo 9 [.int th, .ref zt, .int (nI tn), .int (nI sz), .ref zx, .ref zy, .ref zm, .ref zb, .int rt, .int w0, .int w1, .int w2, .int lg, .int nr, .int (nI yr), .ref va, .ref vb, .ref vc, .ref vd, .ref qa, .ref qb, .ref qc, .int (nI ln), .ref sa, .ref sb, .ref sc, .ref sd, .ref se, .int (nI pn), .ref ma, .ref mb, .ref mc, .ref rv, .int (nI mn), .int tol, .int (nI rn)], gI g zx 144 gx, gI g zy 144 gy, gI g zm 3 fm_] → va_S A s.heap H locs → W p l e rm_X9_cut s m args below meth c H locs 0 0 Q (F0 m 4 ls []) := by
    intro fuel
    induction fuel with
    | zero => intro mo_ an L P a fm_ gx gy _ _ _ hk; exact absurd hk (Nat.not_lt_zero _)
    | succ fuel_4 ih_4 =>
      intro mo_ an L P a fm_ gx gy ls H locs hk_4 hmo hoL h30 fmh b1 b2 hc hnn ha hend hap hl hP hD hS
      have hmL : fm_ l_ = nI L.1 := by rw [fmh, pk_us]
      have h4 := hoL.1
      have h48 := hoL.2.1
      refine lv_iload_n hx hb dX9_cut_4 rfl (lv_at hl 3 rfl) ?_
      refine n_if_eq (a := mo_) (tgt := 197) hx hb dX9_cut_5 (by decide) (by omega) (fun c_5 => ?_) (fun c_5 => ?_)
      · refine lv_iload_n hx hb dX9_cut_197 rfl (lv_at hl 2 rfl) ?_
        have he : (cutS nr 0 48 0 (n, X, Y) P0) = (L, P) := hend c_5
        exact hret _ _ _ _ (nI an) (gx, gy) dX9_cut_198 (by rcases hap with ⟨z, _⟩ | ⟨z, _⟩ <;> rw [z] <;> rfl) (⟨by rcases hap with ⟨z, z2⟩ | ⟨z, z2⟩; (right; exact ⟨by rw [z]; rfl, by rw [hasCut, he, decide_eq_true_eq, z2]; decide⟩); (left; exact ⟨by rw [z]; rfl, by rw [hasCut, he, decide_eq_true_eq]; exact z2⟩), by rw [he]; exact ⟨b1, b2⟩⟩) (by rw [he]; subst fmh; exact hP) (by rw [he]; subst fmh; exact hD) hS
      · refine lv_iconst (v := 0) hx hb dX9_cut_8 (by decide) ?_
        refine lv_istore_n (lv' := [(3, .int 0), (0, .ref mo), (1, .int (nI l_)), (2, .int (nI an))]) hx hb dX9_cut_9 rfl hl (by decide) rfl (fun ls hl => ?_)
        refine lv_iconst (v := 0) hx hb dX9_cut_10 (by decide) ?_
        refine lv_istore (lv' := [(4, .int 0), (3, .int 0), (0, .ref mo), (1, .int (nI l_)), (2, .int (nI an))]) hx hb dX9_cut_11 hl (by decide) rfl (fun ls hl => ?_)
        have L13 : ∀ (fuel : Nat) (i : Nat) (a2 : Nat) (ls : Array Slot) (H : Heap) (locs : List Loc), 49 - i < fuel → (i ≤ a2) → (cutS nr 0 (48 - a2) a2 L P = (cutS nr 0 48 0 (n, X, Y) P0)) → (∀ i, i < a2 → nnL nr L i) → (a2 ≤ 48) → lv_has ls 8 [(0, .ref mo), (1, .int (nI l_)), (2, .int (nI an)), (3, .int 0), (4, .int (nI i))] → gP g [gO mo 9 [.int th, .ref zt, .int (nI tn), .int (nI sz), .ref zx, .ref zy, .ref zm, .ref zb, .int rt, .int w0, .int w1, .int w2, .int lg, .int nr, .int (nI yr), .ref va, .ref vb, .ref vc, .ref vd, .ref qa, .ref qb, .ref qc, .int (nI ln), .ref sa, .ref sb, .ref sc, .ref sd, .ref se, .int (nI pn), .ref ma, .ref mb, .ref mc, .ref rv, .int (nI mn), .int tol, .int (nI rn)], gI g zx 144 gx, gI g zy 144 gy, gI g zm 3 fm_] H → va_D A [gO mo 9 [.int th, .ref zt, .int (nI tn), .int (nI sz), .ref zx, .ref zy, .ref zm, .ref zb, .int rt, .int w0, .int w1, .int w2, .int lg, .int nr, .int (nI yr), .ref va, .ref vb, .ref vc, .ref vd, .ref qa, .ref qb, .ref qc, .int (nI ln), .ref sa, .ref sb, .ref sc, .ref sd, .ref se, .int (nI pn), .ref ma, .ref mb, .ref mc, .ref rv, .int (nI mn), .int tol, .int (nI rn)], gI g zx 144 gx, gI g zy 144 gy, gI g zm 3 fm_] → va_S A s.heap H locs → W p l e rm_X9_cut s m args below meth c H locs 0 0 Q (F0 m 13 ls []) := by
          intro fuel
          induction fuel with
          | zero => intro i a2 _ _ _ hk; exact absurd hk (Nat.not_lt_zero _)
          | succ fuel_13 ih_13 =>
            intro i a2 ls H locs hk_13 hia hc2 hnn2 ha2 hl hP hD hS
            refine lv_iload hx hb dX9_cut_13 (lv_at hl 4 rfl) ?_
            refine lv_aload_n hx hb dX9_cut_15 rfl (lv_at hl 0 rfl) ?_
            refine g_get (C := RX9) (T := TX9) (N := 36) F hK hP i_X9_cut_X9 0 rfl rfl 6 (by decide) k_X9_cut_f34 (v := .ref zm) rfl dX9_cut_16 ?_
            refine lv_iload_n hx hb dX9_cut_19 rfl (lv_at hl 1 rfl) ?_
            refine g_iald (i := l_) (v := (nI L.1)) hx hb hK hP 3 rfl (by decide) (by omega) (hmL) dX9_cut_20 ?_
            refine n_icmp_ge (a := i) (b := L.1) (tgt := 194) hx hb dX9_cut_21 (by decide) (by omega) (by omega) (fun c_21 => ?_) (fun c_21 => ?_)
            · refine lv_goto (tgt := 4) hx hb dX9_cut_194 (by decide) ?_
              exact ih_4 0 an L P a2 fm_ gx gy ls _ _ (by omega) (by omega) (by omega) (by omega) (by omega) (by omega) (by omega) (hc2) (hnn2) (ha2) (fun _ => by rw [← hc2, cutS_end (by omega)]) (by omega) (lv_sub hl [0, 1, 2, 3] rfl) hP hD hS
            · refine lv_iload_n hx hb dX9_cut_24 rfl (lv_at hl 3 rfl) ?_
              refine lv_if_ne (tgt := 194) hx hb dX9_cut_25 (by decide) (fun h => absurd (by decide) h) (fun _ => ?_)
              refine lv_aload_n hx hb dX9_cut_28 rfl (lv_at hl 0 rfl) ?_
              refine g_get (C := RX9) (T := TX9) (N := 36) F hK hP i_X9_cut_X9 0 rfl rfl 6 (by decide) k_X9_cut_f34 (v := .ref zm) rfl dX9_cut_29 ?_
              refine lv_iload_n hx hb dX9_cut_32 rfl (lv_at hl 1 rfl) ?_
              refine g_iald (i := l_) (v := (nI L.1)) hx hb hK hP 3 rfl (by decide) (by omega) (hmL) dX9_cut_33 ?_
              refine lv_iconst (v := 1) hx hb dX9_cut_34 (by decide) ?_
              refine n_isub (a := L.1) (b := 1) (d := L.1 - 1) hx hb dX9_cut_35 (by omega) (by omega) ?_
              refine lv_istore (lv' := [(5, .int (nI (L.1 - 1))), (0, .ref mo), (1, .int (nI l_)), (2, .int (nI an)), (3, .int 0), (4, .int (nI i))]) hx hb dX9_cut_36 hl (by decide) rfl (fun ls hl => ?_)
              have L38 : ∀ (fuel : Nat) (j : Nat) (ls : Array Slot) (H : Heap) (locs : List Loc), j < fuel → (j ≤ L.1 - 1) → (neckS L.2.1 L.2.2 L.1 nr i = fneck (nk2B L.2.1 L.2.2 L.1 nr i) (i + 3) j) → lv_has ls 8 [(0, .ref mo), (1, .int (nI l_)), (2, .int (nI an)), (3, .int 0), (4, .int (nI i)), (5, .int (nI j))] → gP g [gO mo 9 [.int th, .ref zt, .int (nI tn), .int (nI sz), .ref zx, .ref zy, .ref zm, .ref zb, .int rt, .int w0, .int w1, .int w2, .int lg, .int nr, .int (nI yr), .ref va, .ref vb, .ref vc, .ref vd, .ref qa, .ref qb, .ref qc, .int (nI ln), .ref sa, .ref sb, .ref sc, .ref sd, .ref se, .int (nI pn), .ref ma, .ref mb, .ref mc, .ref rv, .int (nI mn), .int tol, .int (nI rn)], gI g zx 144 gx, gI g zy 144 gy, gI g zm 3 fm_] H → va_D A [gO mo 9 [.int th, .ref zt, .int (nI tn), .int (nI sz), .ref zx, .ref zy, .ref zm, .ref zb, .int rt, .int w0, .int w1, .int w2, .int lg, .int nr, .int (nI yr), .ref va, .ref vb, .ref vc, .ref vd, .ref qa, .ref qb, .ref qc, .int (nI ln), .ref sa, .ref sb, .ref sc, .ref sd, .ref se, .int (nI pn), .ref ma, .ref mb, .ref mc, .ref rv, .int (nI mn), .int tol, .int (nI rn)], gI g zx 144 gx, gI g zy 144 gy, gI g zm 3 fm_] → va_S A s.heap H locs → W p l e rm_X9_cut s m args below meth c H locs 0 0 Q (F0 m 38 ls []) := by
                intro fuel
                induction fuel with
                | zero => intro j _ _ _ hk; exact absurd hk (Nat.not_lt_zero _)
                | succ fuel_38 ih_38 =>
                  intro j ls H locs hk_38 hj hf hl hP hD hS
                  refine lv_iload hx hb dX9_cut_38 (lv_at hl 5 rfl) ?_
                  refine lv_iload hx hb dX9_cut_40 (lv_at hl 4 rfl) ?_
                  refine lv_iconst (v := 3) hx hb dX9_cut_42 (by decide) ?_
                  refine n_iadd (a := i) (b := 3) (d := i + 3) hx hb dX9_cut_43 (by omega) ?_
                  refine n_icmp_lt (a := j) (b := i + 3) (tgt := 65) hx hb dX9_cut_44 (by decide) (by omega) (by omega) (fun c_44 => ?_) (fun c_44 => ?_)
                  · have hz0 : nnL nr L i := hf.trans (fneck_0 (by omega))
                    refine lv_iload hx hb dX9_cut_65 (lv_at hl 5 rfl) ?_
                    refine lv_iload hx hb dX9_cut_67 (lv_at hl 4 rfl) ?_
                    refine lv_iconst (v := 3) hx hb dX9_cut_69 (by decide) ?_
                    refine n_iadd (a := i) (b := 3) (d := i + 3) hx hb dX9_cut_70 (by omega) ?_
                    refine n_icmp_ge (a := j) (b := i + 3) (tgt := 77) hx hb dX9_cut_71 (by decide) (by omega) (by omega) (fun h => absurd h (by omega)) (fun c_71 => ?_)
                    refine lv_goto (tgt := 188) hx hb dX9_cut_74 (by decide) ?_
                    refine lv_iinc (v := (nI (i + 1))) (lv' := [(4, .int (nI (i + 1))), (0, .ref mo), (1, .int (nI l_)), (2, .int (nI an)), (3, .int 0), (5, .int (nI j))]) hx hb dX9_cut_188 hl (k := 4) rfl (g_inc i 1 (by decide)) (by decide) rfl (fun ls hl => ?_)
                    refine lv_goto (tgt := 13) hx hb dX9_cut_191 (by decide) ?_
                    obtain ⟨hv1, hv2⟩ := cut_adv h48 hia hz0 hnn2 hc2
                    exact ih_13 (i + 1) (max a2 (i + 1)) ls _ _ (by omega) (by omega) (hv1) (hv2) (by omega) (lv_sub hl [1, 2, 3, 4, 0] rfl) hP hD hS
                  · refine lv_aload_n hx hb dX9_cut_47 rfl (lv_at hl 0 rfl) ?_
                    refine lv_iload_n hx hb dX9_cut_48 rfl (lv_at hl 1 rfl) ?_
                    refine lv_iload hx hb dX9_cut_49 (lv_at hl 4 rfl) ?_
                    refine lv_iload hx hb dX9_cut_51 (lv_at hl 5 rfl) ?_
                    refine g_VI (wr := []) (As := [.int (nI l_), .int (nI i), .int (nI j)]) (rest := []) (n := 3) F (c_X9_isNear l g mo th zt tn sz zx zy zm zb rt w0 w1 w2 lg nr yr va vb vc vd qa qb qc ln sa sb sc sd se pn ma mb mc rv mn tol rn l_ L.1 fm_ gx gy L.2.1 L.2.2 i j (hl3) (hmL) (by omega) (b1.1) (b2.1) (by omega) (by omega) (hoL)) gX9_cut_X9_isNear rfl (by decide) ⟨by decide, by decide⟩ 0 9 rfl rfl rfl rfl hl.1 rfl (Nat.le_of_ble_eq_true rfl) dX9_cut_53 ⟨Nat.le_of_ble_eq_true rfl, Nat.le_of_ble_eq_true rfl⟩ hK hP hD hS hA [0, 1, 2, 3] [] (by decide) rfl rfl (by decide) (by decide) (fun r_53 u_53 H locs hw_53 hP hD hS => ?_)
                    have hP : gP g [gO mo 9 [.int th, .ref zt, .int (nI tn), .int (nI sz), .ref zx, .ref zy, .ref zm, .ref zb, .int rt, .int w0, .int w1, .int w2, .int lg, .int nr, .int (nI yr), .ref va, .ref vb, .ref vc, .ref vd, .ref qa, .ref qb, .ref qc, .int (nI ln), .ref sa, .ref sb, .ref sc, .ref sd, .ref se, .int (nI pn), .ref ma, .ref mb, .ref mc, .ref rv, .int (nI mn), .int tol, .int (nI rn)], gI g zx 144 gx, gI g zy 144 gy, gI g zm 3 fm_] H := hP
                    have hD : va_D A [gO mo 9 [.int th, .ref zt, .int (nI tn), .int (nI sz), .ref zx, .ref zy, .ref zm, .ref zb, .int rt, .int w0, .int w1, .int w2, .int lg, .int nr, .int (nI yr), .ref va, .ref vb, .ref vc, .ref vd, .ref qa, .ref qb, .ref qc, .int (nI ln), .ref sa, .ref sb, .ref sc, .ref sd, .ref se, .int (nI pn), .ref ma, .ref mb, .ref mc, .ref rv, .int (nI mn), .int tol, .int (nI rn)], gI g zx 144 gx, gI g zy 144 gy, gI g zm 3 fm_] := hD
                    rcases hw_53 with ⟨rfl, b_53⟩ | ⟨rfl, b_53⟩
                    · refine lv_if_ne (tgt := 65) hx hb dX9_cut_56 (by decide) (fun _ => ?_) (fun h => absurd h (by decide))
                      have hjn : neckS L.2.1 L.2.2 L.1 nr i = j := hf.trans (fneck_y (by omega) (by omega) b_53)
                      have hjz : j ≠ 0 := by omega
                      obtain ⟨hj1, hj2, hj3⟩ := neck_sp hjn hjz
                      have hia2 : i = a2 := by by_cases e : i < a2; (have := hnn2 i e; rw [nnL, hjn] at this; omega); omega
                      refine lv_iload hx hb dX9_cut_65 (lv_at hl 5 rfl) ?_
                      refine lv_iload hx hb dX9_cut_67 (lv_at hl 4 rfl) ?_
                      refine lv_iconst (v := 3) hx hb dX9_cut_69 (by decide) ?_
                      refine n_iadd (a := i) (b := 3) (d := i + 3) hx hb dX9_cut_70 (by omega) ?_
                      refine n_icmp_ge (a := j) (b := i + 3) (tgt := 77) hx hb dX9_cut_71 (by decide) (by omega) (by omega) (fun c_71 => ?_) (fun h => absurd h (by omega))
                      refine lv_iconst (v := 1) hx hb dX9_cut_77 (by decide) ?_
                      refine lv_istore_n (lv' := [(3, .int 1), (0, .ref mo), (1, .int (nI l_)), (2, .int (nI an)), (4, .int (nI i)), (5, .int (nI j))]) hx hb dX9_cut_78 rfl hl (by decide) rfl (fun ls hl => ?_)
                      refine lv_iconst (v := 1) hx hb dX9_cut_79 (by decide) ?_
                      refine lv_istore_n (lv' := [(2, .int 1), (3, .int 1), (0, .ref mo), (1, .int (nI l_)), (4, .int (nI i)), (5, .int (nI j))]) hx hb dX9_cut_80 rfl hl (by decide) rfl (fun ls hl => ?_)
                      refine lv_iload_n hx hb dX9_cut_81 rfl (lv_at hl 3 rfl) ?_
                      refine n_if_ne (a := l_) (tgt := 93) hx hb dX9_cut_82 (by decide) (by omega) (fun c_82 => ?_) (fun h => absurd (hl0.symm.trans h) (by decide))
                      refine lv_iload hx hb dX9_cut_93 (lv_at hl 5 rfl) ?_
                      refine lv_iload hx hb dX9_cut_95 (lv_at hl 4 rfl) ?_
                      refine n_isub (a := j) (b := i) (d := j - i) hx hb dX9_cut_97 (by omega) (by omega) ?_
                      refine lv_iconst (v := 1) hx hb dX9_cut_98 (by decide) ?_
                      refine n_isub (a := j - i) (b := 1) (d := (j - i) - 1) hx hb dX9_cut_99 (by omega) (by omega) ?_
                      refine lv_istore (lv' := [(6, .int (nI ((j - i) - 1))), (2, .int 1), (3, .int 1), (0, .ref mo), (1, .int (nI l_)), (4, .int (nI i)), (5, .int (nI j))]) hx hb dX9_cut_100 hl (by decide) rfl (fun ls hl => ?_)
                      refine lv_iload hx hb dX9_cut_102 (lv_at hl 6 rfl) ?_
                      refine lv_istore (lv' := [(7, .int (nI j)), (6, .int (nI ((j - i) - 1))), (2, .int 1), (3, .int 1), (0, .ref mo), (1, .int (nI l_)), (4, .int (nI i)), (5, .int (nI j))]) hx hb dX9_cut_104 hl (by decide) rfl (fun ls hl => ?_)
                      have L106 : ∀ (fuel : Nat) (k : Nat) (hx_ : Nat → Int32) (hy_ : Nat → Int32) (ls : Array Slot) (H : Heap) (locs : List Loc), L.1 - k < fuel → (j ≤ k) → (k ≤ L.1) → (inW l_ L.1 (k - (j - i - 1)) k (shfS L.2.1 i j) L.2.1 fx hx_) → (inW l_ L.1 (k - (j - i - 1)) k (shfS L.2.2 i j) L.2.2 fy hy_) → lv_has ls 8 [(0, .ref mo), (1, .int (nI l_)), (2, .int 1), (3, .int 1), (4, .int (nI i)), (5, .int (nI j)), (6, .int (nI ((j - i) - 1))), (7, .int (nI k))] → gP g [gO mo 9 [.int th, .ref zt, .int (nI tn), .int (nI sz), .ref zx, .ref zy, .ref zm, .ref zb, .int rt, .int w0, .int w1, .int w2, .int lg, .int nr, .int (nI yr), .ref va, .ref vb, .ref vc, .ref vd, .ref qa, .ref qb, .ref qc, .int (nI ln), .ref sa, .ref sb, .ref sc, .ref sd, .ref se, .int (nI pn), .ref ma, .ref mb, .ref mc, .ref rv, .int (nI mn), .int tol, .int (nI rn)], gI g zx 144 hx_, gI g zy 144 hy_, gI g zm 3 fm_] H → va_D A [gO mo 9 [.int th, .ref zt, .int (nI tn), .int (nI sz), .ref zx, .ref zy, .ref zm, .ref zb, .int rt, .int w0, .int w1, .int w2, .int lg, .int nr, .int (nI yr), .ref va, .ref vb, .ref vc, .ref vd, .ref qa, .ref qb, .ref qc, .int (nI ln), .ref sa, .ref sb, .ref sc, .ref sd, .ref se, .int (nI pn), .ref ma, .ref mb, .ref mc, .ref rv, .int (nI mn), .int tol, .int (nI rn)], gI g zx 144 hx_, gI g zy 144 hy_, gI g zm 3 fm_] → va_S A s.heap H locs → W p l e rm_X9_cut s m args below meth c H locs 0 0 Q (F0 m 106 ls []) := by
                        intro fuel
                        induction fuel with
                        | zero => intro k hx_ hy_ _ _ _ hk; exact absurd hk (Nat.not_lt_zero _)
                        | succ fuel_106 ih_106 =>
                          intro k hx_ hy_ ls H locs hk_106 hk1 hk2 d1 d2 hl hP hD hS
                          refine lv_iload hx hb dX9_cut_106 (lv_at hl 7 rfl) ?_
                          refine lv_aload_n hx hb dX9_cut_108 rfl (lv_at hl 0 rfl) ?_
                          refine g_get (C := RX9) (T := TX9) (N := 36) F hK hP i_X9_cut_X9 0 rfl rfl 6 (by decide) k_X9_cut_f34 (v := .ref zm) rfl dX9_cut_109 ?_
                          refine lv_iload_n hx hb dX9_cut_112 rfl (lv_at hl 1 rfl) ?_
                          refine g_iald (i := l_) (v := (nI L.1)) hx hb hK hP 3 rfl (by decide) (by omega) (hmL) dX9_cut_113 ?_
                          refine n_icmp_ge (a := k) (b := L.1) (tgt := 177) hx hb dX9_cut_114 (by decide) (by omega) (by omega) (fun c_114 => ?_) (fun c_114 => ?_)
                          · obtain rfl : L.1 = k := by omega
                            refine lv_aload_n hx hb dX9_cut_177 rfl (lv_at hl 0 rfl) ?_
                            refine g_get (C := RX9) (T := TX9) (N := 36) F hK hP i_X9_cut_X9 0 rfl rfl 6 (by decide) k_X9_cut_f34 (v := .ref zm) rfl dX9_cut_178 ?_
                            refine lv_iload_n hx hb dX9_cut_181 rfl (lv_at hl 1 rfl) ?_
                            refine lv_dup2_11 hx hb dX9_cut_182 rfl rfl ?_
                            refine g_iald (i := l_) (v := (nI L.1)) hx hb hK hP 3 rfl (by decide) (by omega) (hmL) dX9_cut_183 ?_
                            refine lv_iload hx hb dX9_cut_184 (lv_at hl 6 rfl) ?_
                            refine n_isub (a := L.1) (b := (j - i) - 1) (d := L.1 - ((j - i) - 1)) hx hb dX9_cut_186 (by omega) (by omega) ?_
                            refine g_iast (i := l_) (ws2 := [gO mo 9 [.int th, .ref zt, .int (nI tn), .int (nI sz), .ref zx, .ref zy, .ref zm, .ref zb, .int rt, .int w0, .int w1, .int w2, .int lg, .int nr, .int (nI yr), .ref va, .ref vb, .ref vc, .ref vd, .ref qa, .ref qb, .ref qc, .int (nI ln), .ref sa, .ref sb, .ref sc, .ref sd, .ref se, .int (nI pn), .ref ma, .ref mb, .ref mc, .ref rv, .int (nI mn), .int tol, .int (nI rn)], gI g zx 144 hx_, gI g zy 144 hy_, gI g zm 3 (upd fm_ l_ (nI (L.1 - ((j - i) - 1))))]) hx hb hK hP hD hS 3 rfl (by decide) (by omega) rfl dX9_cut_187 (fun H locs hP hD hS => ?_)
                            refine lv_iinc (v := (nI (i + 1))) (lv' := [(4, .int (nI (i + 1))), (0, .ref mo), (1, .int (nI l_)), (2, .int 1), (3, .int 1), (5, .int (nI j)), (6, .int (nI ((j - i) - 1))), (7, .int (nI L.1))]) hx hb dX9_cut_188 hl (k := 4) rfl (g_inc i 1 (by decide)) (by decide) rfl (fun ls hl => ?_)
                            refine lv_goto (tgt := 13) hx hb dX9_cut_191 (by decide) ?_
                            refine lv_iload hx hb dX9_cut_13 (lv_at hl 0 rfl) ?_
                            refine lv_aload_n hx hb dX9_cut_15 rfl (lv_at hl 1 rfl) ?_
                            refine g_get (C := RX9) (T := TX9) (N := 36) F hK hP i_X9_cut_X9 0 rfl rfl 6 (by decide) k_X9_cut_f34 (v := .ref zm) rfl dX9_cut_16 ?_
                            refine lv_iload_n hx hb dX9_cut_19 rfl (lv_at hl 2 rfl) ?_
                            refine g_iald (i := l_) (v := ((upd fm_ l_ (nI (L.1 - ((j - i) - 1)))) l_)) hx hb hK hP 3 rfl (by decide) (by omega) (rfl) dX9_cut_20 ?_
                            refine lv_icmp_ge (tgt := 194) hx hb dX9_cut_21 (by decide) (fun c_21 => ?_) (fun c_21 => ?_)
                            · refine lv_goto (tgt := 4) hx hb dX9_cut_194 (by decide) ?_
                              exact ih_4 1 1 (cutA L i j) (noteN P.1, noteR P.2.1 P.1 0, noteR P.2.2.1 P.1 (nI (j - i - 1)), noteR P.2.2.2 P.1 (areaS L.2.1 L.2.2 i j)) (i + 1) (upd fm_ l_ (nI (L.1 - ((j - i) - 1)))) hx_ hy_ ls _ _ (by show 2 * (L.1 - (j - i - 1)) + 1 < _; omega) (by omega) (cutA_ok hoL hj1 hj2 hj3) (noteN_le h30) (by rw [fmh, upd_2]; rfl) (⟨d1.1, d1.2.2⟩) (⟨d2.1, d2.2.2⟩) (by rw [← hc2, ← hia2, cutS_cut (by omega) h48 hjn hjz, noteS_eq]) (nn_cut (by rw [hia2]; exact hnn2) hjn hjz) (by omega) (fun z => absurd z (by decide)) (Or.inr ⟨rfl, noteN_pos _⟩) (lv_sub hl [1, 2, 3, 4] rfl) hP hD hS
                            · refine lv_iload_n hx hb dX9_cut_24 rfl (lv_at hl 4 rfl) ?_
                              refine lv_if_ne (tgt := 194) hx hb dX9_cut_25 (by decide) (fun _ => ?_) (fun h => absurd h (by decide))
                              refine lv_goto (tgt := 4) hx hb dX9_cut_194 (by decide) ?_
                              exact ih_4 1 1 (cutA L i j) (noteN P.1, noteR P.2.1 P.1 0, noteR P.2.2.1 P.1 (nI (j - i - 1)), noteR P.2.2.2 P.1 (areaS L.2.1 L.2.2 i j)) (i + 1) (upd fm_ l_ (nI (L.1 - ((j - i) - 1)))) hx_ hy_ ls _ _ (by show 2 * (L.1 - (j - i - 1)) + 1 < _; omega) (by omega) (cutA_ok hoL hj1 hj2 hj3) (noteN_le h30) (by rw [fmh, upd_2]; rfl) (⟨d1.1, d1.2.2⟩) (⟨d2.1, d2.2.2⟩) (by rw [← hc2, ← hia2, cutS_cut (by omega) h48 hjn hjz, noteS_eq]) (nn_cut (by rw [hia2]; exact hnn2) hjn hjz) (by omega) (fun z => absurd z (by decide)) (Or.inr ⟨rfl, noteN_pos _⟩) (lv_sub hl [1, 2, 3, 4] rfl) hP hD hS
                          · refine lv_aload_n hx hb dX9_cut_117 rfl (lv_at hl 0 rfl) ?_
                            refine g_get (C := RX9) (T := TX9) (N := 36) F hK hP i_X9_cut_X9 0 rfl rfl 4 (by decide) k_X9_cut_f27 (v := .ref zx) rfl dX9_cut_118 ?_
                            refine lv_bipush (v := 48) hx hb dX9_cut_121 (by decide) ?_
                            refine lv_iload_n hx hb dX9_cut_123 rfl (lv_at hl 1 rfl) ?_
                            refine n_imul (a := 48) (b := l_) (d := 48 * l_) hx hb dX9_cut_124 (rfl) ?_
                            refine lv_iload hx hb dX9_cut_125 (lv_at hl 7 rfl) ?_
                            refine n_iadd (a := 48 * l_) (b := k) (d := 48 * l_ + k) hx hb dX9_cut_127 (by omega) ?_
                            refine lv_iload hx hb dX9_cut_128 (lv_at hl 6 rfl) ?_
                            refine n_isub (a := 48 * l_ + k) (b := (j - i) - 1) (d := (48 * l_ + k) - ((j - i) - 1)) hx hb dX9_cut_130 (by omega) (by omega) ?_
                            refine lv_aload_n hx hb dX9_cut_131 rfl (lv_at hl 0 rfl) ?_
                            refine g_get (C := RX9) (T := TX9) (N := 36) F hK hP i_X9_cut_X9 0 rfl rfl 4 (by decide) k_X9_cut_f27 (v := .ref zx) rfl dX9_cut_132 ?_
                            refine lv_bipush (v := 48) hx hb dX9_cut_135 (by decide) ?_
                            refine lv_iload_n hx hb dX9_cut_137 rfl (lv_at hl 1 rfl) ?_
                            refine n_imul (a := 48) (b := l_) (d := 48 * l_) hx hb dX9_cut_138 (rfl) ?_
                            refine lv_iload hx hb dX9_cut_139 (lv_at hl 7 rfl) ?_
                            refine n_iadd (a := 48 * l_) (b := k) (d := 48 * l_ + k) hx hb dX9_cut_141 (by omega) ?_
                            refine g_iald (i := 48 * l_ + k) (v := (L.2.1 k)) hx hb hK hP 1 rfl (by decide) (by omega) (d1.2.1 k (Nat.le_refl _) (by omega)) dX9_cut_142 ?_
                            refine g_iast (i := (48 * l_ + k) - ((j - i) - 1)) (ws2 := [gO mo 9 [.int th, .ref zt, .int (nI tn), .int (nI sz), .ref zx, .ref zy, .ref zm, .ref zb, .int rt, .int w0, .int w1, .int w2, .int lg, .int nr, .int (nI yr), .ref va, .ref vb, .ref vc, .ref vd, .ref qa, .ref qb, .ref qc, .int (nI ln), .ref sa, .ref sb, .ref sc, .ref sd, .ref se, .int (nI pn), .ref ma, .ref mb, .ref mc, .ref rv, .int (nI mn), .int tol, .int (nI rn)], gI g zx 144 (upd hx_ ((48 * l_ + k) - ((j - i) - 1)) (L.2.1 k)), gI g zy 144 hy_, gI g zm 3 fm_]) hx hb hK hP hD hS 1 rfl (by decide) (by omega) rfl dX9_cut_143 (fun H locs hP hD hS => ?_)
                            refine lv_aload_n hx hb dX9_cut_144 rfl (lv_at hl 0 rfl) ?_
                            refine g_get (C := RX9) (T := TX9) (N := 36) F hK hP i_X9_cut_X9 0 rfl rfl 5 (by decide) k_X9_cut_f31 (v := .ref zy) rfl dX9_cut_145 ?_
                            refine lv_bipush (v := 48) hx hb dX9_cut_148 (by decide) ?_
                            refine lv_iload_n hx hb dX9_cut_150 rfl (lv_at hl 1 rfl) ?_
                            refine n_imul (a := 48) (b := l_) (d := 48 * l_) hx hb dX9_cut_151 (rfl) ?_
                            refine lv_iload hx hb dX9_cut_152 (lv_at hl 7 rfl) ?_
                            refine n_iadd (a := 48 * l_) (b := k) (d := 48 * l_ + k) hx hb dX9_cut_154 (by omega) ?_
                            refine lv_iload hx hb dX9_cut_155 (lv_at hl 6 rfl) ?_
                            refine n_isub (a := 48 * l_ + k) (b := (j - i) - 1) (d := (48 * l_ + k) - ((j - i) - 1)) hx hb dX9_cut_157 (by omega) (by omega) ?_
                            refine lv_aload_n hx hb dX9_cut_158 rfl (lv_at hl 0 rfl) ?_
                            refine g_get (C := RX9) (T := TX9) (N := 36) F hK hP i_X9_cut_X9 0 rfl rfl 5 (by decide) k_X9_cut_f31 (v := .ref zy) rfl dX9_cut_159 ?_
                            refine lv_bipush (v := 48) hx hb dX9_cut_162 (by decide) ?_
                            refine lv_iload_n hx hb dX9_cut_164 rfl (lv_at hl 1 rfl) ?_
                            refine n_imul (a := 48) (b := l_) (d := 48 * l_) hx hb dX9_cut_165 (rfl) ?_
                            refine lv_iload hx hb dX9_cut_166 (lv_at hl 7 rfl) ?_
                            refine n_iadd (a := 48 * l_) (b := k) (d := 48 * l_ + k) hx hb dX9_cut_168 (by omega) ?_
                            refine g_iald (i := 48 * l_ + k) (v := (L.2.2 k)) hx hb hK hP 2 rfl (by decide) (by omega) (d2.2.1 k (Nat.le_refl _) (by omega)) dX9_cut_169 ?_
                            refine g_iast (i := (48 * l_ + k) - ((j - i) - 1)) (ws2 := [gO mo 9 [.int th, .ref zt, .int (nI tn), .int (nI sz), .ref zx, .ref zy, .ref zm, .ref zb, .int rt, .int w0, .int w1, .int w2, .int lg, .int nr, .int (nI yr), .ref va, .ref vb, .ref vc, .ref vd, .ref qa, .ref qb, .ref qc, .int (nI ln), .ref sa, .ref sb, .ref sc, .ref sd, .ref se, .int (nI pn), .ref ma, .ref mb, .ref mc, .ref rv, .int (nI mn), .int tol, .int (nI rn)], gI g zx 144 (upd hx_ ((48 * l_ + k) - ((j - i) - 1)) (L.2.1 k)), gI g zy 144 (upd hy_ ((48 * l_ + k) - ((j - i) - 1)) (L.2.2 k)), gI g zm 3 fm_]) hx hb hK hP hD hS 2 rfl (by decide) (by omega) rfl dX9_cut_170 (fun H locs hP hD hS => ?_)
                            refine lv_iinc (v := (nI (k + 1))) (lv' := [(7, .int (nI (k + 1))), (0, .ref mo), (1, .int (nI l_)), (2, .int 1), (3, .int 1), (4, .int (nI i)), (5, .int (nI j)), (6, .int (nI ((j - i) - 1)))]) hx hb dX9_cut_171 hl (k := 7) rfl (g_inc k 1 (by decide)) (by decide) rfl (fun ls hl => ?_)
                            refine lv_goto (tgt := 106) hx hb dX9_cut_174 (by decide) ?_
                            exact ih_106 (k + 1) (upd hx_ ((48 * l_ + k) - ((j - i) - 1)) (L.2.1 k)) (upd hy_ ((48 * l_ + k) - ((j - i) - 1)) (L.2.2 k)) ls _ _ (by omega) (by omega) (by omega) (by rw [show (48 * l_ + k) - ((j - i) - 1) = 48 * l_ + (k - (j - i - 1)) by omega, show k + 1 - (j - i - 1) = k - (j - i - 1) + 1 by omega]; exact inW_g d1 (by omega) (by omega) (by rw [shfS, if_neg (by omega)]; exact congrArg _ (show k = k - (j - i - 1) + (j - i - 1) by omega))) (by rw [show (48 * l_ + k) - ((j - i) - 1) = 48 * l_ + (k - (j - i - 1)) by omega, show k + 1 - (j - i - 1) = k - (j - i - 1) + 1 by omega]; exact inW_g d2 (by omega) (by omega) (by rw [shfS, if_neg (by omega)]; exact congrArg _ (show k = k - (j - i - 1) + (j - i - 1) by omega))) (lv_sub hl [1, 2, 3, 4, 5, 6, 7, 0] rfl) hP hD hS
                      exact L106 ((L.1 - j) + 1) j gx gy ls _ _ (Nat.lt_succ_self _) (by omega) (by omega) (⟨fun q hq => by rw [shfS, if_pos (by omega)]; exact b1.1 q (by omega), fun q _ h => b1.1 q h, b1.2⟩) (⟨fun q hq => by rw [shfS, if_pos (by omega)]; exact b2.1 q (by omega), fun q _ h => b2.1 q h, b2.2⟩) (lv_sub hl [4, 5, 2, 3, 6, 7, 1, 0] rfl) hP hD hS
                    · refine lv_if_ne (tgt := 65) hx hb dX9_cut_56 (by decide) (fun h => absurd (by decide) h) (fun _ => ?_)
                      refine lv_iinc (v := (nI (j - 1))) (lv' := [(5, .int (nI (j - 1))), (0, .ref mo), (1, .int (nI l_)), (2, .int (nI an)), (3, .int 0), (4, .int (nI i))]) hx hb dX9_cut_59 hl (k := 5) rfl (g_dec (show 1 ≤ j by omega)) (by decide) rfl (fun ls hl => ?_)
                      refine lv_goto (tgt := 38) hx hb dX9_cut_62 (by decide) ?_
                      exact ih_38 (j - 1) ls _ _ (by omega) (by omega) (hf.trans (fneck_n (by omega) (by omega) b_53)) (lv_sub hl [1, 2, 3, 4, 5, 0] rfl) hP hD hS
              exact L38 ((L.1 - 1) + 1) (L.1 - 1) ls _ _ (Nat.lt_succ_self _) (by omega) ((neck_2 _ _ _ _ h4).symm) (lv_sub hl [1, 2, 3, 4, 5, 0] rfl) hP hD hS
        exact L13 ((49 - 0) + 1) 0 a ls _ _ (Nat.lt_succ_self _) (by omega) (hc) (hnn) (ha) (lv_sub hl [2, 3, 4, 1, 0] rfl) hP hD hS
  exact L4 ((2 * (n, X, Y).1 + 1) + 1) 1 0 (n, X, Y) P0 0 fm fx fy ls _ _ (Nat.lt_succ_self _) (by omega) (hok) (Nat.zero_le _) ((upd_same hm).symm) (⟨hX, fun _ _ => rfl⟩) (⟨hY, fun _ _ => rfl⟩) (rfl) (fun i hi => absurd hi (Nat.not_lt_zero i)) (by omega) (fun z => absurd z (by decide)) (Or.inl ⟨rfl, rfl⟩) (lv_sub hl [2, 3, 1, 0] rfl) hP hD hS

