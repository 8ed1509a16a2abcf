theorem met_r {lo hi : Int32} (h1 : ¬ lo < 0) (h2 : ¬ hi < lo) (h3 : ¬ 200 < hi) (h4 : hi - lo ≤ 19) : metP lo hi := by
  have a1 := h1; have a2 := h2
  rw [Int32.lt_iff_toInt_lt] at a1 a2
  rw [ti_0] at a1
  refine ⟨⟨?_, h3⟩, ⟨h1, h2⟩, ?_⟩
  · rw [Int32.lt_iff_toInt_lt, ti_0]; omega
  · rw [Int32.le_iff_toInt_le, show (19 : Int32).toInt = 19 from by decide] at h4
    rw [Int32.lt_iff_toInt_lt, show (20 : Int32).toInt = 20 from by decide]; omega
abbrev rm_X9_met : Room := { frames := 5, cells := 0, slots := 0, locals := 118 }
theorem i_X9_met_X9 : ∀ w ∈ wsX90, w ∈ wsX9_met := by decide +kernel
theorem k_X9_met_f1 : Cond.fieldLink RX9 1 (TX9 0).1 (TX9 0).2.1 (TX9 0).2.2.1 ∈ wsX9_met := by decide +kernel
set_option maxHeartbeats 4000000 in
set_option maxRecDepth 100000 in
theorem c_X9_met_n (l : Launch) (g : gT) (mo : Nat) (th : Int32) (zt : Nat) (tn : Nat) (sz : Nat) (zx : Nat) (zy : Nat) (zm : Nat) (zb : Nat) (rt : Int32) (w0 : Int32) (w1 : Int32) (w2 : Int32) (lg : Int32) (nr : Int32) (yr : Nat) (va : Nat) (vb : Nat) (vc : Nat) (vd : Nat) (qa : Nat) (qb : Nat) (qc : Nat) (ln : Nat) (sa : Nat) (sb : Nat) (sc : Nat) (sd : Nat) (se : Nat) (pn : Nat) (ma : Nat) (mb : Nat) (mc : Nat) (rv : Nat) (mn : Nat) (tol : Int32) (rn : Nat) (lo_ : Int32) (hi_ : Int32) (h : ¬ metP lo_ hi_) : CtI l g yX9_met wsX9_met rm_X9_met [.ref mo, .int lo_, .int hi_] [gO mo 9 [.int th, .ref zt, .int (nI tn), .int (nI sz), .ref zx, .ref zy, .ref zm, .ref zb, .int rt, .int w0, .int w1, .int w2, .int lg, .int nr, .int (nI yr), .ref va, .ref vb, .ref vc, .ref vd, .ref qa, .ref qb, .ref qc, .int (nI ln), .ref sa, .ref sb, .ref sc, .ref sd, .ref se, .int (nI pn), .ref ma, .ref mb, .ref mc, .ref rv, .int (nI mn), .int tol, .int (nI rn)]] (fun (r : Int32) (_ : Unit) => r = -1) (fun (_ : Unit) => [gO mo 9 [.int 0, .ref zt, .int (nI tn), .int (nI sz), .ref zx, .ref zy, .ref zm, .ref zb, .int rt, .int w0, .int w1, .int w2, .int lg, .int nr, .int (nI yr), .ref va, .ref vb, .ref vc, .ref vd, .ref qa, .ref qb, .ref qc, .int (nI ln), .ref sa, .ref sb, .ref sc, .ref sd, .ref se, .int (nI pn), .ref ma, .ref mb, .ref mc, .ref rv, .int (nI mn), .int tol, .int (nI rn)]]) := by
  refine CtI.of (cc := cX9_met) (maxL := 4) (ret := .int) (by decide) rfl (Nat.le_of_ble_eq_true rfl) ?_
  intro p e s m args below meth c A Q hnm F hK hA hP hD hS hret ls hl
  have hx := F.1
  have hb := F.2.1
  have hl : lv_has ls 4 [(0, .ref mo), (1, .int lo_), (2, .int hi_)] := hl
  refine lv_aload_n hx hb dX9_met_0 rfl (lv_at hl 0 rfl) ?_
  refine lv_iconst (v := 0) hx hb dX9_met_1 (by decide) ?_
  refine g_put (C := RX9) (T := TX9) (N := 36) (ws2 := [gO mo 9 [.int 0, .ref zt, .int (nI tn), .int (nI sz), .ref zx, .ref zy, .ref zm, .ref zb, .int rt, .int w0, .int w1, .int w2, .int lg, .int nr, .int (nI yr), .ref va, .ref vb, .ref vc, .ref vd, .ref qa, .ref qb, .ref qc, .int (nI ln), .ref sa, .ref sb, .ref sc, .ref sd, .ref se, .int (nI pn), .ref ma, .ref mb, .ref mc, .ref rv, .int (nI mn), .int tol, .int (nI rn)]]) F hK hP hD hS i_X9_met_X9 tyX9 tyX9_ok nmX9 0 rfl rfl 0 (by decide) k_X9_met_f1 rfl (v := .int 0) rfl rfl (Nat.le_of_ble_eq_true rfl) rfl dX9_met_2 (fun H locs hP hD hS => ?_)
  refine lv_iload_n hx hb dX9_met_5 rfl (lv_at hl 1 rfl) ?_
  refine lv_if_lt (tgt := 29) hx hb dX9_met_6 (by decide) (fun c_6 => ?_) (fun c_6 => ?_)
  · refine lv_iconst (v := (-1)) hx hb dX9_met_29 (by decide) ?_
    exact hret _ _ _ _ (-1) () dX9_met_30 rfl (rfl) hP hD hS
  · refine lv_iload_n hx hb dX9_met_9 rfl (lv_at hl 2 rfl) ?_
    refine lv_iload_n hx hb dX9_met_10 rfl (lv_at hl 1 rfl) ?_
    refine lv_icmp_lt (tgt := 29) hx hb dX9_met_11 (by decide) (fun c_11 => ?_) (fun c_11 => ?_)
    · refine lv_iconst (v := (-1)) hx hb dX9_met_29 (by decide) ?_
      exact hret _ _ _ _ (-1) () dX9_met_30 rfl (rfl) hP hD hS
    · refine lv_iload_n hx hb dX9_met_14 rfl (lv_at hl 2 rfl) ?_
      refine lv_sipush (v := 200) hx hb dX9_met_15 (by decide) ?_
      refine lv_icmp_gt (tgt := 29) hx hb dX9_met_18 (by decide) (fun c_18 => ?_) (fun c_18 => ?_)
      · refine lv_iconst (v := (-1)) hx hb dX9_met_29 (by decide) ?_
        exact hret _ _ _ _ (-1) () dX9_met_30 rfl (rfl) hP hD hS
      · refine lv_iload_n hx hb dX9_met_21 rfl (lv_at hl 2 rfl) ?_
        refine lv_iload_n hx hb dX9_met_22 rfl (lv_at hl 1 rfl) ?_
        refine lv_isub hx hb dX9_met_23 ?_
        refine lv_bipush (v := 19) hx hb dX9_met_24 (by decide) ?_
        refine lv_icmp_le (tgt := 31) hx hb dX9_met_26 (by decide) (fun c_26 => ?_) (fun c_26 => ?_)
        · exact absurd (met_r c_6 c_11 c_18 c_26) h
        · refine lv_iconst (v := (-1)) hx hb dX9_met_29 (by decide) ?_
          exact hret _ _ _ _ (-1) () dX9_met_30 rfl (rfl) hP hD hS

theorem k_X9_met_f193 : Cond.fieldLink RX9 193 (TX9 35).1 (TX9 35).2.1 (TX9 35).2.2.1 ∈ wsX9_met := by decide +kernel
theorem k_X9_met_f103 : Cond.fieldLink RX9 103 (TX9 32).1 (TX9 32).2.1 (TX9 32).2.2.1 ∈ wsX9_met := by decide +kernel
set_option maxHeartbeats 4000000 in
set_option maxRecDepth 100000 in
theorem c_X9_met_y (l : Launch) (g : gT) (mo : Nat) (th : Int32) (zt : Nat) (tn : Nat) (sz : Nat) (zx : Nat) (zy : Nat) (zm : Nat) (zb : Nat) (rt : Int32) (w0 : Int32) (w1 : Int32) (w2 : Int32) (lg : Int32) (nr : Int32) (yr : Nat) (va : Nat) (vb : Nat) (vc : Nat) (vd : Nat) (qa : Nat) (qb : Nat) (qc : Nat) (ln : Nat) (sa : Nat) (sb : Nat) (sc : Nat) (sd : Nat) (se : Nat) (pn : Nat) (ma : Nat) (mb : Nat) (mc : Nat) (rv : Nat) (mn : Nat) (tol : Int32) (rn : Nat) (tN : Nat) (fm : Nat → Int32) (fx : Nat → Int32) (fy : Nat → Int32) (TX : Nat → Int32) (TY : Nat → Int32) (fb : Nat → Int32) (B : Nat → Int32) (e1 : Nat → Int32) (e2 : Nat → Int32) (e3 : Nat → Int32) (e4 : Nat → Int32) (k1 : Nat → Int32) (k2 : Nat → Int32) (k3 : Nat → Int32) (ax0 : Nat → Int32) (ay0 : Nat → Int32) (az0 : Nat → Int32) (fr : Nat → Int32) (r1 : Nat → Int32) (a : Nat) (b : Nat) (hm2 : fm 2 = nI tN) (htN : tN ≤ 48) (hTX : ∀ k, k < tN → fx (48 * 2 + k) = TX k) (hTY : ∀ k, k < tN → fy (48 * 2 + k) = TY k) (hok : okL (tN, TX, TY)) (hB : ∀ k, k < 64 → fb k = B k) (hmn : mn ≤ 30) (hk1 : ∀ k, k < mn → k1 k = ax0 k) (hk2 : ∀ k, k < mn → k2 k = ay0 k) (hk3 : ∀ k, k < mn → k3 k = az0 k) (hM : okM (mn, ax0, ay0, az0, tol)) (hab : a ≤ b) (hb2 : b ≤ 200) (h19 : b - a ≤ 19) : CtI l g yX9_met wsX9_met rm_X9_met [.ref mo, .int (nI a), .int (nI b)] [gO mo 9 [.int th, .ref zt, .int (nI tn), .int (nI sz), .ref zx, .ref zy, .ref zm, .ref zb, .int rt, .int w0, .int w1, .int w2, .int lg, .int nr, .int (nI yr), .ref va, .ref vb, .ref vc, .ref vd, .ref qa, .ref qb, .ref qc, .int (nI ln), .ref sa, .ref sb, .ref sc, .ref sd, .ref se, .int (nI pn), .ref ma, .ref mb, .ref mc, .ref rv, .int (nI mn), .int tol, .int (nI rn)], gI g zx 144 fx, gI g zy 144 fy, gI g zm 3 fm, gI g zb 64 fb, gI g va 48 e1, gI g vb 48 e2, gI g vc 48 e3, gI g vd 48 e4, gI g ma 30 k1, gI g mb 30 k2, gI g mc 30 k3, gI g rv 20 r1] (fun (r : Int32) (u : (Nat → Int32) × (Nat → Int32) × (Nat → Int32) × (Nat → Int32) × (Nat → Int32) × (Nat → Int32) × (Nat → Int32) × (Nat → Int32)) => r = nI (metS B (w0, w1, w2, lg, nr) (tN, TX, TY) (mn, ax0, ay0, az0, tol) fr a (b - a + 1)).1 ∧ in1 fx u.1 ∧ in1 fy u.2.1 ∧ in1m fm u.2.2.1 ∧ (∀ k, k < (metS B (w0, w1, w2, lg, nr) (tN, TX, TY) (mn, ax0, ay0, az0, tol) fr a (b - a + 1)).1 → u.2.2.2.2.2.2.2 k = (metS B (w0, w1, w2, lg, nr) (tN, TX, TY) (mn, ax0, ay0, az0, tol) fr a (b - a + 1)).2 k)) (fun (u : (Nat → Int32) × (Nat → Int32) × (Nat → Int32) × (Nat → Int32) × (Nat → Int32) × (Nat → Int32) × (Nat → Int32) × (Nat → Int32)) => [gO mo 9 [.int 0, .ref zt, .int (nI tn), .int (nI sz), .ref zx, .ref zy, .ref zm, .ref zb, .int rt, .int w0, .int w1, .int w2, .int lg, .int nr, .int (nI yr), .ref va, .ref vb, .ref vc, .ref vd, .ref qa, .ref qb, .ref qc, .int (nI ln), .ref sa, .ref sb, .ref sc, .ref sd, .ref se, .int (nI pn), .ref ma, .ref mb, .ref mc, .ref rv, .int (nI mn), .int tol, .int (nI ((metS B (w0, w1, w2, lg, nr) (tN, TX, TY) (mn, ax0, ay0, az0, tol) fr a (b - a + 1)).1))], gI g zx 144 u.1, gI g zy 144 u.2.1, gI g zm 3 u.2.2.1, gI g zb 64 fb, gI g va 48 u.2.2.2.1, gI g vb 48 u.2.2.2.2.1, gI g vc 48 u.2.2.2.2.2.1, gI g vd 48 u.2.2.2.2.2.2.1, gI g ma 30 k1, gI g mb 30 k2, gI g mc 30 k3, gI g rv 20 u.2.2.2.2.2.2.2]) := by
  refine CtI.of (cc := cX9_met) (maxL := 4) (ret := .int) (by decide) rfl (Nat.le_of_ble_eq_true rfl) ?_
  intro p e s m args below meth c A Q hnm F hK hA hP hD hS hret ls hl
  have hx := F.1
  have hb := F.2.1
  have hl : lv_has ls 4 [(0, .ref mo), (1, .int (nI a)), (2, .int (nI b))] := hl
  refine lv_aload_n hx hb dX9_met_0 rfl (lv_at hl 0 rfl) ?_
  refine lv_iconst (v := 0) hx hb dX9_met_1 (by decide) ?_
  refine g_put (C := RX9) (T := TX9) (N := 36) (ws2 := [gO mo 9 [.int 0, .ref zt, .int (nI tn), .int (nI sz), .ref zx, .ref zy, .ref zm, .ref zb, .int rt, .int w0, .int w1, .int w2, .int lg, .int nr, .int (nI yr), .ref va, .ref vb, .ref vc, .ref vd, .ref qa, .ref qb, .ref qc, .int (nI ln), .ref sa, .ref sb, .ref sc, .ref sd, .ref se, .int (nI pn), .ref ma, .ref mb, .ref mc, .ref rv, .int (nI mn), .int tol, .int (nI rn)], gI g zx 144 fx, gI g zy 144 fy, gI g zm 3 fm, gI g zb 64 fb, gI g va 48 e1, gI g vb 48 e2, gI g vc 48 e3, gI g vd 48 e4, gI g ma 30 k1, gI g mb 30 k2, gI g mc 30 k3, gI g rv 20 r1]) F hK hP hD hS i_X9_met_X9 tyX9 tyX9_ok nmX9 0 rfl rfl 0 (by decide) k_X9_met_f1 rfl (v := .int 0) rfl rfl (Nat.le_of_ble_eq_true rfl) rfl dX9_met_2 (fun H locs hP hD hS => ?_)
  refine lv_iload_n hx hb dX9_met_5 rfl (lv_at hl 1 rfl) ?_
  refine n_if_lt (a := a) (tgt := 29) hx hb dX9_met_6 (by decide) (by omega) (fun h => absurd h (by omega)) (fun c_6 => ?_)
  refine lv_iload_n hx hb dX9_met_9 rfl (lv_at hl 2 rfl) ?_
  refine lv_iload_n hx hb dX9_met_10 rfl (lv_at hl 1 rfl) ?_
  refine n_icmp_lt (a := b) (b := a) (tgt := 29) hx hb dX9_met_11 (by decide) (by omega) (by omega) (fun h => absurd h (by omega)) (fun c_11 => ?_)
  refine lv_iload_n hx hb dX9_met_14 rfl (lv_at hl 2 rfl) ?_
  refine lv_sipush (v := 200) hx hb dX9_met_15 (by decide) ?_
  refine n_icmp_gt (a := b) (b := 200) (tgt := 29) hx hb dX9_met_18 (by decide) (by omega) (by omega) (fun h => absurd h (by omega)) (fun c_18 => ?_)
  refine lv_iload_n hx hb dX9_met_21 rfl (lv_at hl 2 rfl) ?_
  refine lv_iload_n hx hb dX9_met_22 rfl (lv_at hl 1 rfl) ?_
  refine n_isub (a := b) (b := a) (d := b - a) hx hb dX9_met_23 (by omega) (by omega) ?_
  refine lv_bipush (v := 19) hx hb dX9_met_24 (by decide) ?_
  refine n_icmp_le (a := b - a) (b := 19) (tgt := 31) hx hb dX9_met_26 (by decide) (by omega) (by omega) (fun c_26 => ?_) (fun h => absurd h (by omega))
  refine lv_aload_n hx hb dX9_met_31 rfl (lv_at hl 0 rfl) ?_
  refine lv_iconst (v := 0) hx hb dX9_met_32 (by decide) ?_
  refine g_put (C := RX9) (T := TX9) (N := 36) (ws2 := [gO mo 9 [.int 0, .ref zt, .int (nI tn), .int (nI sz), .ref zx, .ref zy, .ref zm, .ref zb, .int rt, .int w0, .int w1, .int w2, .int lg, .int nr, .int (nI yr), .ref va, .ref vb, .ref vc, .ref vd, .ref qa, .ref qb, .ref qc, .int (nI ln), .ref sa, .ref sb, .ref sc, .ref sd, .ref se, .int (nI pn), .ref ma, .ref mb, .ref mc, .ref rv, .int (nI mn), .int tol, .int 0], gI g zx 144 fx, gI g zy 144 fy, gI g zm 3 fm, gI g zb 64 fb, gI g va 48 e1, gI g vb 48 e2, gI g vc 48 e3, gI g vd 48 e4, gI g ma 30 k1, gI g mb 30 k2, gI g mc 30 k3, gI g rv 20 r1]) F hK hP hD hS i_X9_met_X9 tyX9 tyX9_ok nmX9 0 rfl rfl 35 (by decide) k_X9_met_f193 rfl (v := .int 0) rfl rfl (Nat.le_of_ble_eq_true rfl) rfl dX9_met_33 (fun H locs hP hD hS => ?_)
  refine lv_iload_n hx hb dX9_met_36 rfl (lv_at hl 1 rfl) ?_
  refine lv_istore_n (lv' := [(3, .int (nI a)), (0, .ref mo), (1, .int (nI a)), (2, .int (nI b))]) hx hb dX9_met_37 rfl hl (by decide) rfl (fun ls hl => ?_)
  have L38 : ∀ (fuel : Nat) (q : Nat) (rn_ : Nat) (f_ : Nat → Int32) (r_ : Nat → Int32) (gx : Nat → Int32) (gy : Nat → Int32) (fm_ : Nat → Int32) (a1 : Nat → Int32) (a2 : Nat → Int32) (a3 : Nat → Int32) (a4 : Nat → Int32) (ls : Array Slot) (H : Heap) (locs : List Loc), b + 1 - (a + q) < fuel → (q ≤ b - a + 1) → (rn_ = (metS B (w0, w1, w2, lg, nr) (tN, TX, TY) (mn, ax0, ay0, az0, tol) fr a q).1) → (f_ = (metS B (w0, w1, w2, lg, nr) (tN, TX, TY) (mn, ax0, ay0, az0, tol) fr a q).2) → (∀ k, k < rn_ → r_ k = f_ k) → (in1 fx gx) → (in1 fy gy) → (in1m fm fm_) → (fm_ 2 = nI tN) → (∀ k, k < tN → gx (48 * 2 + k) = TX k) → (∀ k, k < tN → gy (48 * 2 + k) = TY k) → lv_has ls 4 [(0, .ref mo), (1, .int (nI a)), (2, .int (nI b)), (3, .int (nI (a + q)))] → gP g [gO mo 9 [.int 0, .ref zt, .int (nI tn), .int (nI sz), .ref zx, .ref zy, .ref zm, .ref zb, .int rt, .int w0, .int w1, .int w2, .int lg, .int nr, .int (nI yr), .ref va, .ref vb, .ref vc, .ref vd, .ref qa, .ref qb, .ref qc, .int (nI ln), .ref sa, .ref sb, .ref sc, .ref sd, .ref se, .int (nI pn), .ref ma, .ref mb, .ref mc, .ref rv, .int (nI mn), .int tol, .int (nI rn_)], gI g zx 144 gx, gI g zy 144 gy, gI g zm 3 fm_, gI g zb 64 fb, gI g va 48 a1, gI g vb 48 a2, gI g vc 48 a3, gI g vd 48 a4, gI g ma 30 k1, gI g mb 30 k2, gI g mc 30 k3, gI g rv 20 r_] H → va_D A [gO mo 9 [.int 0, .ref zt, .int (nI tn), .int (nI sz), .ref zx, .ref zy, .ref zm, .ref zb, .int rt, .int w0, .int w1, .int w2, .int lg, .int nr, .int (nI yr), .ref va, .ref vb, .ref vc, .ref vd, .ref qa, .ref qb, .ref qc, .int (nI ln), .ref sa, .ref sb, .ref sc, .ref sd, .ref se, .int (nI pn), .ref ma, .ref mb, .ref mc, .ref rv, .int (nI mn), .int tol, .int (nI rn_)], gI g zx 144 gx, gI g zy 144 gy, gI g zm 3 fm_, gI g zb 64 fb, gI g va 48 a1, gI g vb 48 a2, gI g vc 48 a3, gI g vd 48 a4, gI g ma 30 k1, gI g mb 30 k2, gI g mc 30 k3, gI g rv 20 r_] → va_S A s.heap H locs → W p l e rm_X9_met s m args below meth c H locs 0 0 Q (F0 m 38 ls []) := by
    intro fuel
    induction fuel with
    | zero => intro q rn_ f_ r_ gx gy fm_ a1 a2 a3 a4 _ _ _ hk; exact absurd hk (Nat.not_lt_zero _)
    | succ fuel_38 ih_38 =>
      intro q rn_ f_ r_ gx gy fm_ a1 a2 a3 a4 ls H locs hk_38 hq h1 h2 hr i1 i2 i3 hm2_ t1 t2 hl hP hD hS
      have hrl : rn_ ≤ q := by rw [h1]; exact metS_le _ _ _ _ _ _ _
      refine lv_iload_n hx hb dX9_met_38 rfl (lv_at hl 3 rfl) ?_
      refine lv_iload_n hx hb dX9_met_39 rfl (lv_at hl 2 rfl) ?_
      refine n_icmp_gt (a := a + q) (b := b) (tgt := 80) hx hb dX9_met_40 (by decide) (by omega) (by omega) (fun c_40 => ?_) (fun c_40 => ?_)
      · obtain rfl : b - a + 1 = q := by omega
        subst h1
        subst h2
        refine lv_aload_n hx hb dX9_met_80 rfl (lv_at hl 0 rfl) ?_
        refine g_get (C := RX9) (T := TX9) (N := 36) F hK hP i_X9_met_X9 0 rfl rfl 35 (by decide) k_X9_met_f193 (v := .int (nI ((metS B (w0, w1, w2, lg, nr) (tN, TX, TY) (mn, ax0, ay0, az0, tol) fr a (b - a + 1)).1))) rfl dX9_met_81 ?_
        exact hret _ _ _ _ (nI ((metS B (w0, w1, w2, lg, nr) (tN, TX, TY) (mn, ax0, ay0, az0, tol) fr a (b - a + 1)).1)) (gx, gy, fm_, a1, a2, a3, a4, r_) dX9_met_84 rfl (⟨rfl, i1, i2, i3, hr⟩) hP hD hS
      · refine lv_aload_n hx hb dX9_met_43 rfl (lv_at hl 0 rfl) ?_
        refine lv_iload_n hx hb dX9_met_44 rfl (lv_at hl 3 rfl) ?_
        refine g_VI (wr := [gI g rv 20 r_]) (As := [.int (nI (a + q))]) (rest := []) (n := 1) F (c_X9_isMet l g mo 0 zt tn sz zx zy zm zb rt w0 w1 w2 lg nr yr va vb vc vd qa qb qc ln sa sb sc sd se pn ma mb mc rv mn tol rn_ tN fm_ gx gy TX TY fb B a1 a2 a3 a4 k1 k2 k3 ax0 ay0 az0 (nI (a + q)) (hm2_) (htN) (t1) (t2) (hok) (hB) (hmn) (hk1) (hk2) (hk3) (hM)) gX9_met_X9_isMet rfl (by decide) ⟨by decide, by decide⟩ 0 9 rfl rfl rfl rfl hl.1 rfl (Nat.le_of_ble_eq_true rfl) dX9_met_45 ⟨Nat.le_of_ble_eq_true rfl, Nat.le_of_ble_eq_true rfl⟩ hK hP hD hS hA [0, 1, 2, 3, 4, 5, 6, 7, 8, 9, 10, 11] [12] (by decide) rfl rfl (by decide) (by decide) (fun r_45 u_45 H locs hw_45 hP hD hS => ?_)
        obtain ⟨fx2_45, fy2_45, fm2_45, e1t_45, e2t_45, e3t_45, e4t_45⟩ := u_45
        have hP : gP g [gI g rv 20 r_, gO mo 9 [.int 0, .ref zt, .int (nI tn), .int (nI sz), .ref zx, .ref zy, .ref zm, .ref zb, .int rt, .int w0, .int w1, .int w2, .int lg, .int nr, .int (nI yr), .ref va, .ref vb, .ref vc, .ref vd, .ref qa, .ref qb, .ref qc, .int (nI ln), .ref sa, .ref sb, .ref sc, .ref sd, .ref se, .int (nI pn), .ref ma, .ref mb, .ref mc, .ref rv, .int (nI mn), .int tol, .int (nI rn_)], gI g zx 144 fx2_45, gI g zy 144 fy2_45, gI g zm 3 fm2_45, gI g zb 64 fb, gI g va 48 e1t_45, gI g vb 48 e2t_45, gI g vc 48 e3t_45, gI g vd 48 e4t_45, gI g ma 30 k1, gI g mb 30 k2, gI g mc 30 k3] H := hP
        have hD : va_D A [gI g rv 20 r_, gO mo 9 [.int 0, .ref zt, .int (nI tn), .int (nI sz), .ref zx, .ref zy, .ref zm, .ref zb, .int rt, .int w0, .int w1, .int w2, .int lg, .int nr, .int (nI yr), .ref va, .ref vb, .ref vc, .ref vd, .ref qa, .ref qb, .ref qc, .int (nI ln), .ref sa, .ref sb, .ref sc, .ref sd, .ref se, .int (nI pn), .ref ma, .ref mb, .ref mc, .ref rv, .int (nI mn), .int tol, .int (nI rn_)], gI g zx 144 fx2_45, gI g zy 144 fy2_45, gI g zm 3 fm2_45, gI g zb 64 fb, gI g va 48 e1t_45, gI g vb 48 e2t_45, gI g vc 48 e3t_45, gI g vd 48 e4t_45, gI g ma 30 k1, gI g mb 30 k2, gI g mc 30 k3] := hD
        obtain ⟨hw_45, i1_45, i2_45, i3_45⟩ := hw_45
        rcases hw_45 with ⟨rfl, b_45⟩ | ⟨rfl, b_45⟩
        · refine lv_if_ne (tgt := 54) hx hb dX9_met_48 (by decide) (fun _ => ?_) (fun h => absurd h (by decide))
          refine lv_aload_n hx hb dX9_met_54 rfl (lv_at hl 0 rfl) ?_
          refine g_get (C := RX9) (T := TX9) (N := 36) F hK hP i_X9_met_X9 1 rfl rfl 32 (by decide) k_X9_met_f103 (v := .ref rv) rfl dX9_met_55 ?_
          refine lv_aload_n hx hb dX9_met_58 rfl (lv_at hl 0 rfl) ?_
          refine g_get (C := RX9) (T := TX9) (N := 36) F hK hP i_X9_met_X9 1 rfl rfl 35 (by decide) k_X9_met_f193 (v := .int (nI rn_)) rfl dX9_met_59 ?_
          refine lv_iload_n hx hb dX9_met_62 rfl (lv_at hl 3 rfl) ?_
          refine g_iast (i := rn_) (ws2 := [gI g rv 20 (upd r_ rn_ (nI (a + q))), gO mo 9 [.int 0, .ref zt, .int (nI tn), .int (nI sz), .ref zx, .ref zy, .ref zm, .ref zb, .int rt, .int w0, .int w1, .int w2, .int lg, .int nr, .int (nI yr), .ref va, .ref vb, .ref vc, .ref vd, .ref qa, .ref qb, .ref qc, .int (nI ln), .ref sa, .ref sb, .ref sc, .ref sd, .ref se, .int (nI pn), .ref ma, .ref mb, .ref mc, .ref rv, .int (nI mn), .int tol, .int (nI rn_)], gI g zx 144 fx2_45, gI g zy 144 fy2_45, gI g zm 3 fm2_45, gI g zb 64 fb, gI g va 48 e1t_45, gI g vb 48 e2t_45, gI g vc 48 e3t_45, gI g vd 48 e4t_45, gI g ma 30 k1, gI g mb 30 k2, gI g mc 30 k3]) hx hb hK hP hD hS 0 rfl (by decide) (by omega) rfl dX9_met_63 (fun H locs hP hD hS => ?_)
          refine lv_aload_n hx hb dX9_met_64 rfl (lv_at hl 0 rfl) ?_
          refine lv_dup hx hb dX9_met_65 rfl ?_
          refine g_get (C := RX9) (T := TX9) (N := 36) F hK hP i_X9_met_X9 1 rfl rfl 35 (by decide) k_X9_met_f193 (v := .int (nI rn_)) rfl dX9_met_66 ?_
          refine lv_iconst (v := 1) hx hb dX9_met_69 (by decide) ?_
          refine n_iadd (a := rn_) (b := 1) (d := rn_ + 1) hx hb dX9_met_70 (by omega) ?_
          refine g_put (C := RX9) (T := TX9) (N := 36) (ws2 := [gI g rv 20 (upd r_ rn_ (nI (a + q))), gO mo 9 [.int 0, .ref zt, .int (nI tn), .int (nI sz), .ref zx, .ref zy, .ref zm, .ref zb, .int rt, .int w0, .int w1, .int w2, .int lg, .int nr, .int (nI yr), .ref va, .ref vb, .ref vc, .ref vd, .ref qa, .ref qb, .ref qc, .int (nI ln), .ref sa, .ref sb, .ref sc, .ref sd, .ref se, .int (nI pn), .ref ma, .ref mb, .ref mc, .ref rv, .int (nI mn), .int tol, .int (nI (rn_ + 1))], gI g zx 144 fx2_45, gI g zy 144 fy2_45, gI g zm 3 fm2_45, gI g zb 64 fb, gI g va 48 e1t_45, gI g vb 48 e2t_45, gI g vc 48 e3t_45, gI g vd 48 e4t_45, gI g ma 30 k1, gI g mb 30 k2, gI g mc 30 k3]) F hK hP hD hS i_X9_met_X9 tyX9 tyX9_ok nmX9 1 rfl rfl 35 (by decide) k_X9_met_f193 rfl (v := .int (nI (rn_ + 1))) rfl rfl (Nat.le_of_ble_eq_true rfl) rfl dX9_met_71 (fun H locs hP hD hS => ?_)
          refine lv_iinc (v := (nI (a + q + 1))) (lv' := [(3, .int (nI (a + q + 1))), (0, .ref mo), (1, .int (nI a)), (2, .int (nI b))]) hx hb dX9_met_74 hl (k := 3) rfl (g_inc (a + q) 1 (by decide)) (by decide) rfl (fun ls hl => ?_)
          refine lv_goto (tgt := 38) hx hb dX9_met_77 (by decide) ?_
          have he := metS_y (fr := fr) b_45
          exact ih_38 (q + 1) (rn_ + 1) (upd f_ rn_ (nI (a + q))) (upd r_ rn_ (nI (a + q))) fx2_45 fy2_45 fm2_45 e1t_45 e2t_45 e3t_45 e4t_45 ls _ _ (by omega) (by omega) (by rw [he, ← h1]) (by rw [he, ← h1, ← h2]) (upd_v hr) (in1_t i1 i1_45) (in1_t i2 i2_45) (fun q hq => (i3_45 q hq).trans (i3 q hq)) ((i3_45 2 (by decide)).trans hm2_) (fun k hk => (i1_45 _ (by omega)).trans (t1 k hk)) (fun k hk => (i2_45 _ (by omega)).trans (t2 k hk)) (lv_sub hl [1, 2, 3, 0] rfl) (hP.sub [1, 2, 3, 4, 5, 6, 7, 8, 9, 10, 11, 12, 0] rfl) (hD.sub [1, 2, 3, 4, 5, 6, 7, 8, 9, 10, 11, 12, 0] (by decide) rfl) hS
        · refine lv_if_ne (tgt := 54) hx hb dX9_met_48 (by decide) (fun h => absurd (by decide) h) (fun _ => ?_)
          refine lv_goto (tgt := 74) hx hb dX9_met_51 (by decide) ?_
          refine lv_iinc (v := (nI (a + q + 1))) (lv' := [(3, .int (nI (a + q + 1))), (0, .ref mo), (1, .int (nI a)), (2, .int (nI b))]) hx hb dX9_met_74 hl (k := 3) rfl (g_inc (a + q) 1 (by decide)) (by decide) rfl (fun ls hl => ?_)
          refine lv_goto (tgt := 38) hx hb dX9_met_77 (by decide) ?_
          have he := metS_n (fr := fr) b_45
          exact ih_38 (q + 1) rn_ f_ r_ fx2_45 fy2_45 fm2_45 e1t_45 e2t_45 e3t_45 e4t_45 ls _ _ (by omega) (by omega) (by rw [he]; exact h1) (by rw [he]; exact h2) (hr) (in1_t i1 i1_45) (in1_t i2 i2_45) (fun q hq => (i3_45 q hq).trans (i3 q hq)) ((i3_45 2 (by decide)).trans hm2_) (fun k hk => (i1_45 _ (by omega)).trans (t1 k hk)) (fun k hk => (i2_45 _ (by omega)).trans (t2 k hk)) (lv_sub hl [1, 2, 3, 0] rfl) (hP.sub [1, 2, 3, 4, 5, 6, 7, 8, 9, 10, 11, 12, 0] rfl) (hD.sub [1, 2, 3, 4, 5, 6, 7, 8, 9, 10, 11, 12, 0] (by decide) rfl) hS
  exact L38 ((b + 1 - (a + 0)) + 1) 0 0 fr r1 fx fy fm e1 e2 e3 e4 ls _ _ (Nat.lt_succ_self _) (by omega) (rfl) (rfl) (fun k hk => absurd hk (Nat.not_lt_zero k)) (fun _ _ => rfl) (fun _ _ => rfl) (fun _ _ => rfl) (hm2) (hTX) (hTY) (lv_sub hl [1, 2, 3, 0] rfl) hP hD hS

