abbrev rm_X5_bend : Room := { frames := 0, cells := 0, slots := 0, locals := 0 }
theorem i_X5_bend_X5 : ∀ w ∈ wsX50, w ∈ wsX5_bend := by decide +kernel
theorem k_X5_bend_f21 : Cond.fieldLink RX5 21 (TX5 1).1 (TX5 1).2.1 (TX5 1).2.2.1 ∈ wsX5_bend := by decide +kernel
theorem i_X5_bend_X3 : ∀ w ∈ wsX30, w ∈ wsX5_bend := by decide +kernel
theorem k_X5_bend_f55 : Cond.fieldLink RX5 55 (TX3 2).1 (TX3 2).2.1 (TX3 2).2.2.1 ∈ wsX5_bend := by decide +kernel
set_option maxHeartbeats 4000000 in
set_option maxRecDepth 100000 in
theorem c_X5_bend (l : Launch) (g : gT) (ro : Nat) (lo : Nat) (cp : Nat) (sp : Nat) (yr : Nat) (cx : Nat) (cy : Nat) (n : Nat) (ra : Nat) (f : Nat → Int32) (X : Nat → Int32) (v : Int32) (hn : n ≤ 48) (h2n : 2 ≤ n) (hX : ∀ k, k < n → f k = X k) : CtI l g yX5_bend wsX5_bend rm_X5_bend [.ref ro, .ref ra, .int v] [gO ro 5 [.ref lo, .ref cp, .ref sp, .int (nI yr)], gO cp 3 [.ref cx, .ref cy, .int (nI n)], gI g ra 48 f] (fun (r : Int32) (_ : Unit) => r = bendI X n v) (fun (_ : Unit) => [gO ro 5 [.ref lo, .ref cp, .ref sp, .int (nI yr)], gO cp 3 [.ref cx, .ref cy, .int (nI n)], gI g ra 48 f]) := by
  refine CtI.of (cc := cX5_bend) (maxL := 3) (ret := .int) (by decide) rfl (Nat.le_of_ble_eq_true rfl) ?_
  intro p e s m args below meth c A Q hnm F hK hA hP hD hS hret ls hl
  have hx := F.1
  have hb := F.2.1
  have hl : lv_has ls 3 [(0, .ref ro), (1, .ref ra), (2, .int v)] := hl
  refine lv_iload_n hx hb dX5_bend_0 rfl (lv_at hl 2 rfl) ?_
  refine lv_iconst (v := 1) hx hb dX5_bend_1 (by decide) ?_
  refine lv_icmp_lt (tgt := 18) hx hb dX5_bend_2 (by decide) (fun c_2 => ?_) (fun c_2 => ?_)
  · refine lv_iconst (v := 0) hx hb dX5_bend_18 (by decide) ?_
    exact hret _ _ _ _ 0 () dX5_bend_19 rfl (by simp [bendI, c_2]) hP hD hS
  · refine lv_iload_n hx hb dX5_bend_5 rfl (lv_at hl 2 rfl) ?_
    refine lv_aload_n hx hb dX5_bend_6 rfl (lv_at hl 0 rfl) ?_
    refine g_get (C := RX5) (T := TX5) (N := 4) F hK hP i_X5_bend_X5 0 rfl rfl 1 (by decide) k_X5_bend_f21 (v := .ref cp) rfl dX5_bend_7 ?_
    refine g_get (C := RX3) (T := TX3) (N := 3) F hK hP i_X5_bend_X3 1 rfl rfl 2 (by decide) k_X5_bend_f55 (v := .int (nI n)) rfl dX5_bend_10 ?_
    refine lv_iconst (v := 2) hx hb dX5_bend_13 (by decide) ?_
    refine n_isub (a := n) (b := 2) (d := n - 2) hx hb dX5_bend_14 (by omega) (by omega) ?_
    refine lv_icmp_le (tgt := 20) hx hb dX5_bend_15 (by decide) (fun c_15 => ?_) (fun c_15 => ?_)
    · obtain ⟨k, hk1, hk2, rfl⟩ := bend_k hn c_2 c_15
      refine lv_aload_n hx hb dX5_bend_20 rfl (lv_at hl 1 rfl) ?_
      refine lv_iload_n hx hb dX5_bend_21 rfl (lv_at hl 2 rfl) ?_
      refine lv_iconst (v := 1) hx hb dX5_bend_22 (by decide) ?_
      refine n_isub (a := k) (b := 1) (d := k - 1) hx hb dX5_bend_23 (by omega) (by omega) ?_
      refine g_iald (i := k - 1) (v := (X (k - 1))) hx hb hK hP 2 rfl (by decide) (by omega) (hX (k - 1) (by omega)) dX5_bend_24 ?_
      refine lv_aload_n hx hb dX5_bend_25 rfl (lv_at hl 1 rfl) ?_
      refine lv_iload_n hx hb dX5_bend_26 rfl (lv_at hl 2 rfl) ?_
      refine lv_iconst (v := 1) hx hb dX5_bend_27 (by decide) ?_
      refine n_iadd (a := k) (b := 1) (d := k + 1) hx hb dX5_bend_28 (by omega) ?_
      refine g_iald (i := k + 1) (v := (X (k + 1))) hx hb hK hP 2 rfl (by decide) (by omega) (hX (k + 1) (by omega)) dX5_bend_29 ?_
      refine lv_iadd hx hb dX5_bend_30 ?_
      refine lv_iconst (v := 2) hx hb dX5_bend_31 (by decide) ?_
      refine lv_aload_n hx hb dX5_bend_32 rfl (lv_at hl 1 rfl) ?_
      refine lv_iload_n hx hb dX5_bend_33 rfl (lv_at hl 2 rfl) ?_
      refine g_iald (i := k) (v := (X k)) hx hb hK hP 2 rfl (by decide) (by omega) (hX k (by omega)) dX5_bend_34 ?_
      refine lv_imul hx hb dX5_bend_35 ?_
      refine lv_isub hx hb dX5_bend_36 ?_
      exact hret _ _ _ _ (((X (k - 1)) + (X (k + 1))) - (2 * (X k))) () dX5_bend_37 rfl ((bendI_in hk1 hk2 hn).symm) hP hD hS
    · refine lv_iconst (v := 0) hx hb dX5_bend_18 (by decide) ?_
      exact hret _ _ _ _ 0 () dX5_bend_19 rfl (by simp [bendI, c_15]) hP hD hS

abbrev rm_X5_moved : Room := { frames := 2, cells := 0, slots := 0, locals := 43 }
theorem i_X5_moved_X6 : ∀ w ∈ wsX60, w ∈ wsX5_moved := by decide +kernel
theorem k_X5_moved_f100 : Cond.fieldLink RX5 100 (TX6 2).1 (TX6 2).2.1 (TX6 2).2.2.1 ∈ wsX5_moved := by decide +kernel
theorem k_X5_moved_f107 : Cond.fieldLink RX5 107 (TX6 3).1 (TX6 3).2.1 (TX6 3).2.2.1 ∈ wsX5_moved := by decide +kernel
theorem k_X5_moved_f110 : Cond.fieldLink RX5 110 (TX6 4).1 (TX6 4).2.1 (TX6 4).2.2.1 ∈ wsX5_moved := by decide +kernel
theorem k_X5_moved_z113 : Cond.initialized yX8_clamp.cls ∈ wsX5_moved := by decide +kernel
theorem k_X5_moved_t113 : Cond.static yX8_clamp ∈ wsX5_moved := by decide +kernel
set_option maxHeartbeats 4000000 in
set_option maxRecDepth 100000 in
theorem c_X5_moved (l : Launch) (g : gT) (ro : Nat) (lo : Nat) (cp : Nat) (sp : Nat) (yr : Nat) (cx : Nat) (cy : Nat) (n : Nat) (ra : Nat) (f : Nat → Int32) (X : Nat → Int32) (so : Nat) (bk : Nat) (rt : Int32) (w0 : Int32) (w1 : Int32) (w2 : Int32) (lg : Int32) (nr : Int32) (i : Nat) (fc : Int32) (hn : n ≤ 48) (h2n : 2 ≤ n) (hX : ∀ k, k < n → f k = X k) (hi : i < n) : CtI l g yX5_moved wsX5_moved rm_X5_moved [.ref ro, .ref ra, .int (nI i), .ref so, .int fc] [gO ro 5 [.ref lo, .ref cp, .ref sp, .int (nI yr)], gO cp 3 [.ref cx, .ref cy, .int (nI n)], gI g ra 48 f, gO so 6 [.ref bk, .int rt, .int w0, .int w1, .int w2, .int lg, .int nr]] (fun (r : Int32) (_ : Unit) => r = mvS X n w0 w1 w2 fc i) (fun (_ : Unit) => [gO ro 5 [.ref lo, .ref cp, .ref sp, .int (nI yr)], gO cp 3 [.ref cx, .ref cy, .int (nI n)], gI g ra 48 f, gO so 6 [.ref bk, .int rt, .int w0, .int w1, .int w2, .int lg, .int nr]]) := by
  refine CtI.of (cc := cX5_moved) (maxL := 7) (ret := .int) (by decide) rfl (Nat.le_of_ble_eq_true rfl) ?_
  intro p e s m args below meth c A Q hnm F hK hA hP hD hS hret ls hl
  have hx := F.1
  have hb := F.2.1
  have hl : lv_has ls 7 [(0, .ref ro), (1, .ref ra), (2, .int (nI i)), (3, .ref so), (4, .int fc)] := hl
  refine lv_aload_n hx hb dX5_moved_0 rfl (lv_at hl 3 rfl) ?_
  refine g_get (C := RX6) (T := TX6) (N := 7) F hK hP i_X5_moved_X6 3 rfl rfl 2 (by decide) k_X5_moved_f100 (v := .int w0) rfl dX5_moved_1 ?_
  refine lv_aload_n hx hb dX5_moved_4 rfl (lv_at hl 0 rfl) ?_
  refine lv_aload_n hx hb dX5_moved_5 rfl (lv_at hl 1 rfl) ?_
  refine lv_iload_n hx hb dX5_moved_6 rfl (lv_at hl 2 rfl) ?_
  refine g_VI (wr := [gO so 6 [.ref bk, .int rt, .int w0, .int w1, .int w2, .int lg, .int nr]]) (As := [.ref ra, .int (nI i)]) (rest := [.int w0]) (n := 2) F (c_X5_bend l g ro lo cp sp yr cx cy n ra f X (nI i) (by omega) (by omega) (hX)) gX5_moved_X5_bend rfl (by decide) ⟨by decide, by decide⟩ 0 5 rfl rfl rfl rfl hl.1 rfl (Nat.le_of_ble_eq_true rfl) dX5_moved_7 ⟨Nat.le_of_ble_eq_true rfl, Nat.le_of_ble_eq_true rfl⟩ hK hP hD hS hA [0, 1, 2] [3] (by decide) rfl rfl (by decide) (by decide) (fun r_7 u_7 H locs hw_7 hP hD hS => ?_)
  have hP : gP g [gO so 6 [.ref bk, .int rt, .int w0, .int w1, .int w2, .int lg, .int nr], gO ro 5 [.ref lo, .ref cp, .ref sp, .int (nI yr)], gO cp 3 [.ref cx, .ref cy, .int (nI n)], gI g ra 48 f] H := hP
  have hD : va_D A [gO so 6 [.ref bk, .int rt, .int w0, .int w1, .int w2, .int lg, .int nr], gO ro 5 [.ref lo, .ref cp, .ref sp, .int (nI yr)], gO cp 3 [.ref cx, .ref cy, .int (nI n)], gI g ra 48 f] := hD
  obtain rfl := hw_7
  refine lv_imul hx hb dX5_moved_10 ?_
  refine lv_aload_n hx hb dX5_moved_11 rfl (lv_at hl 3 rfl) ?_
  refine g_get (C := RX6) (T := TX6) (N := 7) F hK hP i_X5_moved_X6 0 rfl rfl 3 (by decide) k_X5_moved_f107 (v := .int w1) rfl dX5_moved_12 ?_
  refine lv_aload_n hx hb dX5_moved_15 rfl (lv_at hl 0 rfl) ?_
  refine lv_aload_n hx hb dX5_moved_16 rfl (lv_at hl 1 rfl) ?_
  refine lv_iload_n hx hb dX5_moved_17 rfl (lv_at hl 2 rfl) ?_
  refine lv_iconst (v := 1) hx hb dX5_moved_18 (by decide) ?_
  refine lv_isub hx hb dX5_moved_19 ?_
  refine g_VI (wr := [gO so 6 [.ref bk, .int rt, .int w0, .int w1, .int w2, .int lg, .int nr]]) (As := [.ref ra, .int ((nI i) - 1)]) (rest := [.int w1, .int (w0 * (bendI X n (nI i)))]) (n := 2) F (c_X5_bend l g ro lo cp sp yr cx cy n ra f X ((nI i) - 1) (by omega) (by omega) (hX)) gX5_moved_X5_bend rfl (by decide) ⟨by decide, by decide⟩ 1 5 rfl rfl rfl rfl hl.1 rfl (Nat.le_of_ble_eq_true rfl) dX5_moved_20 ⟨Nat.le_of_ble_eq_true rfl, Nat.le_of_ble_eq_true rfl⟩ hK hP hD hS hA [1, 2, 3] [0] (by decide) rfl rfl (by decide) (by decide) (fun r_20 u_20 H locs hw_20 hP hD hS => ?_)
  have hP : gP g [gO so 6 [.ref bk, .int rt, .int w0, .int w1, .int w2, .int lg, .int nr], gO ro 5 [.ref lo, .ref cp, .ref sp, .int (nI yr)], gO cp 3 [.ref cx, .ref cy, .int (nI n)], gI g ra 48 f] H := hP
  have hD : va_D A [gO so 6 [.ref bk, .int rt, .int w0, .int w1, .int w2, .int lg, .int nr], gO ro 5 [.ref lo, .ref cp, .ref sp, .int (nI yr)], gO cp 3 [.ref cx, .ref cy, .int (nI n)], gI g ra 48 f] := hD
  obtain rfl := hw_20
  refine lv_imul hx hb dX5_moved_23 ?_
  refine lv_iadd hx hb dX5_moved_24 ?_
  refine lv_aload_n hx hb dX5_moved_25 rfl (lv_at hl 3 rfl) ?_
  refine g_get (C := RX6) (T := TX6) (N := 7) F hK hP i_X5_moved_X6 0 rfl rfl 4 (by decide) k_X5_moved_f110 (v := .int w2) rfl dX5_moved_26 ?_
  refine lv_aload_n hx hb dX5_moved_29 rfl (lv_at hl 0 rfl) ?_
  refine lv_aload_n hx hb dX5_moved_30 rfl (lv_at hl 1 rfl) ?_
  refine lv_iload_n hx hb dX5_moved_31 rfl (lv_at hl 2 rfl) ?_
  refine lv_iconst (v := 2) hx hb dX5_moved_32 (by decide) ?_
  refine lv_isub hx hb dX5_moved_33 ?_
  refine g_VI (wr := [gO so 6 [.ref bk, .int rt, .int w0, .int w1, .int w2, .int lg, .int nr]]) (As := [.ref ra, .int ((nI i) - 2)]) (rest := [.int w2, .int ((w0 * (bendI X n (nI i))) + (w1 * (bendI X n ((nI i) - 1))))]) (n := 2) F (c_X5_bend l g ro lo cp sp yr cx cy n ra f X ((nI i) - 2) (by omega) (by omega) (hX)) gX5_moved_X5_bend rfl (by decide) ⟨by decide, by decide⟩ 1 5 rfl rfl rfl rfl hl.1 rfl (Nat.le_of_ble_eq_true rfl) dX5_moved_34 ⟨Nat.le_of_ble_eq_true rfl, Nat.le_of_ble_eq_true rfl⟩ hK hP hD hS hA [1, 2, 3] [0] (by decide) rfl rfl (by decide) (by decide) (fun r_34 u_34 H locs hw_34 hP hD hS => ?_)
  have hP : gP g [gO so 6 [.ref bk, .int rt, .int w0, .int w1, .int w2, .int lg, .int nr], gO ro 5 [.ref lo, .ref cp, .ref sp, .int (nI yr)], gO cp 3 [.ref cx, .ref cy, .int (nI n)], gI g ra 48 f] H := hP
  have hD : va_D A [gO so 6 [.ref bk, .int rt, .int w0, .int w1, .int w2, .int lg, .int nr], gO ro 5 [.ref lo, .ref cp, .ref sp, .int (nI yr)], gO cp 3 [.ref cx, .ref cy, .int (nI n)], gI g ra 48 f] := hD
  obtain rfl := hw_34
  refine lv_imul hx hb dX5_moved_37 ?_
  refine lv_iadd hx hb dX5_moved_38 ?_
  refine lv_istore (lv' := [(5, .int (((w0 * (bendI X n (nI i))) + (w1 * (bendI X n ((nI i) - 1)))) + (w2 * (bendI X n ((nI i) - 2))))), (0, .ref ro), (1, .ref ra), (2, .int (nI i)), (3, .ref so), (4, .int fc)]) hx hb dX5_moved_39 hl (by decide) rfl (fun ls hl => ?_)
  refine lv_iload hx hb dX5_moved_41 (lv_at hl 0 rfl) ?_
  refine lv_iload hx hb dX5_moved_43 (lv_at hl 5 rfl) ?_
  refine lv_imul hx hb dX5_moved_45 ?_
  refine lv_sipush (v := 10000) hx hb dX5_moved_46 (by decide) ?_
  refine lv_idiv hx hb dX5_moved_49 (by decide) ?_
  refine lv_bipush (v := (-8)) hx hb dX5_moved_50 (by decide) ?_
  refine lv_bipush (v := 8) hx hb dX5_moved_52 (by decide) ?_
  refine g_NI (wr := [gO so 6 [.ref bk, .int rt, .int w0, .int w1, .int w2, .int lg, .int nr], gO ro 5 [.ref lo, .ref cp, .ref sp, .int (nI yr)], gO cp 3 [.ref cx, .ref cy, .int (nI n)], gI g ra 48 f]) (As := [.int (((((w0 * (bendI X n (nI i))) + (w1 * (bendI X n ((nI i) - 1)))) + (w2 * (bendI X n ((nI i) - 2)))) * fc) / 10000), .int (-8), .int 8]) (rest := []) (n := 3) F (c_X8_clamp l g (((((w0 * (bendI X n (nI i))) + (w1 * (bendI X n ((nI i) - 1)))) + (w2 * (bendI X n ((nI i) - 2)))) * fc) / 10000) (-8) 8) gX5_moved_X8_clamp_n113 rfl (by decide) k_X5_moved_z113 k_X5_moved_t113 (by decide) ⟨by decide, by decide⟩ rfl hl.1 rfl (Nat.le_of_ble_eq_true rfl) dX5_moved_54 ⟨Nat.le_of_ble_eq_true rfl, Nat.le_of_ble_eq_true rfl⟩ hK hP hD hS hA [] [0, 1, 2, 3] (by decide) rfl rfl (by decide) (by decide) (fun r_54 u_54 H locs hw_54 hP hD hS => ?_)
  have hP : gP g [gO so 6 [.ref bk, .int rt, .int w0, .int w1, .int w2, .int lg, .int nr], gO ro 5 [.ref lo, .ref cp, .ref sp, .int (nI yr)], gO cp 3 [.ref cx, .ref cy, .int (nI n)], gI g ra 48 f] H := hP
  have hD : va_D A [gO so 6 [.ref bk, .int rt, .int w0, .int w1, .int w2, .int lg, .int nr], gO ro 5 [.ref lo, .ref cp, .ref sp, .int (nI yr)], gO cp 3 [.ref cx, .ref cy, .int (nI n)], gI g ra 48 f] := hD
  obtain rfl := hw_54
  refine lv_istore (lv' := [(6, .int (clampS (((((w0 * (bendI X n (nI i))) + (w1 * (bendI X n ((nI i) - 1)))) + (w2 * (bendI X n ((nI i) - 2)))) * fc) / 10000) (-8) 8)), (5, .int (((w0 * (bendI X n (nI i))) + (w1 * (bendI X n ((nI i) - 1)))) + (w2 * (bendI X n ((nI i) - 2))))), (0, .ref ro), (1, .ref ra), (2, .int (nI i)), (3, .ref so), (4, .int fc)]) hx hb dX5_moved_57 hl (by decide) rfl (fun ls hl => ?_)
  refine lv_aload_n hx hb dX5_moved_59 rfl (lv_at hl 3 rfl) ?_
  refine lv_iload_n hx hb dX5_moved_60 rfl (lv_at hl 4 rfl) ?_
  refine g_iald (i := i) (v := (X i)) hx hb hK hP 3 rfl (by decide) (by omega) (hX i (by omega)) dX5_moved_61 ?_
  refine lv_iload hx hb dX5_moved_62 (lv_at hl 0 rfl) ?_
  refine lv_isub hx hb dX5_moved_64 ?_
  refine lv_iconst (v := 0) hx hb dX5_moved_65 (by decide) ?_
  refine lv_sipush (v := 511) hx hb dX5_moved_66 (by decide) ?_
  refine g_NI (wr := [gO so 6 [.ref bk, .int rt, .int w0, .int w1, .int w2, .int lg, .int nr], gO ro 5 [.ref lo, .ref cp, .ref sp, .int (nI yr)], gO cp 3 [.ref cx, .ref cy, .int (nI n)], gI g ra 48 f]) (As := [.int ((X i) - (clampS (((((w0 * (bendI X n (nI i))) + (w1 * (bendI X n ((nI i) - 1)))) + (w2 * (bendI X n ((nI i) - 2)))) * fc) / 10000) (-8) 8)), .int 0, .int 511]) (rest := []) (n := 3) F (c_X8_clamp l g ((X i) - (clampS (((((w0 * (bendI X n (nI i))) + (w1 * (bendI X n ((nI i) - 1)))) + (w2 * (bendI X n ((nI i) - 2)))) * fc) / 10000) (-8) 8)) 0 511) gX5_moved_X8_clamp_n113 rfl (by decide) k_X5_moved_z113 k_X5_moved_t113 (by decide) ⟨by decide, by decide⟩ rfl hl.1 rfl (Nat.le_of_ble_eq_true rfl) dX5_moved_69 ⟨Nat.le_of_ble_eq_true rfl, Nat.le_of_ble_eq_true rfl⟩ hK hP hD hS hA [] [0, 1, 2, 3] (by decide) rfl rfl (by decide) (by decide) (fun r_69 u_69 H locs hw_69 hP hD hS => ?_)
  have hP : gP g [gO so 6 [.ref bk, .int rt, .int w0, .int w1, .int w2, .int lg, .int nr], gO ro 5 [.ref lo, .ref cp, .ref sp, .int (nI yr)], gO cp 3 [.ref cx, .ref cy, .int (nI n)], gI g ra 48 f] H := hP
  have hD : va_D A [gO so 6 [.ref bk, .int rt, .int w0, .int w1, .int w2, .int lg, .int nr], gO ro 5 [.ref lo, .ref cp, .ref sp, .int (nI yr)], gO cp 3 [.ref cx, .ref cy, .int (nI n)], gI g ra 48 f] := hD
  obtain rfl := hw_69
  have hP9 := hP.sub (ws' := [gO ro 5 [.ref lo, .ref cp, .ref sp, .int (nI yr)], gO cp 3 [.ref cx, .ref cy, .int (nI n)], gI g ra 48 f, gO so 6 [.ref bk, .int rt, .int w0, .int w1, .int w2, .int lg, .int nr]]) [1, 2, 3, 0] rfl
  have hD9 := hD.sub (ws' := [gO ro 5 [.ref lo, .ref cp, .ref sp, .int (nI yr)], gO cp 3 [.ref cx, .ref cy, .int (nI n)], gI g ra 48 f, gO so 6 [.ref bk, .int rt, .int w0, .int w1, .int w2, .int lg, .int nr]]) [1, 2, 3, 0] (by decide) rfl
  exact hret _ _ _ _ (clampS ((X i) - (clampS (((((w0 * (bendI X n (nI i))) + (w1 * (bendI X n ((nI i) - 1)))) + (w2 * (bendI X n ((nI i) - 2)))) * fc) / 10000) (-8) 8)) 0 511) () dX5_moved_72 rfl (rfl) hP9 hD9 hS

abbrev rm_X5_takeSpare : Room := { frames := 0, cells := 0, slots := 0, locals := 0 }
theorem i_X5_takeSpare_X5 : ∀ w ∈ wsX50, w ∈ wsX5_takeSpare := by decide +kernel
theorem k_X5_takeSpare_f21 : Cond.fieldLink RX5 21 (TX5 1).1 (TX5 1).2.1 (TX5 1).2.2.1 ∈ wsX5_takeSpare := by decide +kernel
theorem k_X5_takeSpare_f25 : Cond.fieldLink RX5 25 (TX5 2).1 (TX5 2).2.1 (TX5 2).2.2.1 ∈ wsX5_takeSpare := by decide +kernel
set_option maxHeartbeats 4000000 in
set_option maxRecDepth 100000 in
theorem c_X5_takeSpare (l : Launch) (g : gT) (ro : Nat) (lo : Nat) (cp : Nat) (sp : Nat) (yr : Nat)  : CtV l g yX5_takeSpare wsX5_takeSpare rm_X5_takeSpare [.ref ro] [gO ro 5 [.ref lo, .ref cp, .ref sp, .int (nI yr)]] (fun (_ : Unit) => True) (fun (_ : Unit) => [gO ro 5 [.ref lo, .ref sp, .ref cp, .int (nI yr)]]) := by
  refine CtV.of (cc := cX5_takeSpare) (maxL := 2) (by decide) rfl (Nat.le_of_ble_eq_true rfl) ?_
  intro p e s m args below meth c A Q hnm F hK hA hP hD hS hret ls hl
  have hx := F.1
  have hb := F.2.1
  have hl : lv_has ls 2 [(0, .ref ro)] := hl
  refine lv_aload_n hx hb dX5_takeSpare_0 rfl (lv_at hl 0 rfl) ?_
  refine g_get (C := RX5) (T := TX5) (N := 4) F hK hP i_X5_takeSpare_X5 0 rfl rfl 1 (by decide) k_X5_takeSpare_f21 (v := .ref cp) rfl dX5_takeSpare_1 ?_
  refine lv_astore_n (lv' := [(1, .ref cp), (0, .ref ro)]) hx hb dX5_takeSpare_4 rfl hl (by decide) rfl (fun ls hl => ?_)
  refine lv_aload_n hx hb dX5_takeSpare_5 rfl (lv_at hl 1 rfl) ?_
  refine lv_aload_n hx hb dX5_takeSpare_6 rfl (lv_at hl 1 rfl) ?_
  refine g_get (C := RX5) (T := TX5) (N := 4) F hK hP i_X5_takeSpare_X5 0 rfl rfl 2 (by decide) k_X5_takeSpare_f25 (v := .ref sp) rfl dX5_takeSpare_7 ?_
  refine g_put (C := RX5) (T := TX5) (N := 4) (ws2 := [gO ro 5 [.ref lo, .ref sp, .ref sp, .int (nI yr)]]) F hK hP hD hS i_X5_takeSpare_X5 tyX5 tyX5_ok nmX5 0 rfl rfl 1 (by decide) k_X5_takeSpare_f21 rfl (v := .ref sp) rfl rfl (Nat.le_of_ble_eq_true rfl) rfl dX5_takeSpare_10 (fun H locs hP hD hS => ?_)
  refine lv_aload_n hx hb dX5_takeSpare_13 rfl (lv_at hl 1 rfl) ?_
  refine lv_aload_n hx hb dX5_takeSpare_14 rfl (lv_at hl 0 rfl) ?_
  refine g_put (C := RX5) (T := TX5) (N := 4) (ws2 := [gO ro 5 [.ref lo, .ref sp, .ref cp, .int (nI yr)]]) F hK hP hD hS i_X5_takeSpare_X5 tyX5 tyX5_ok nmX5 0 rfl rfl 2 (by decide) k_X5_takeSpare_f25 rfl (v := .ref cp) rfl rfl (Nat.le_of_ble_eq_true rfl) rfl dX5_takeSpare_15 (fun H locs hP hD hS => ?_)
  exact hret _ _ _ _ () dX5_takeSpare_18 (trivial) hP hD hS

theorem mvR_o {Z X Y : RW} {n : Nat} {B : RW} {rate w0 w1 w2 : Int32} {i : Nat} (h : ¬ (0 < i ∧ i < n - 1)) : Z i = mvR Z X Y n B rate w0 w1 w2 i := by rw [mvR, if_neg h]
theorem mvR_i {Z X Y : RW} {n : Nat} {B : RW} {rate w0 w1 w2 : Int32} {i : Nat} (h : 0 < i ∧ i < n - 1) : mvS Z n w0 w1 w2 (rate * B (bidx (X i) (Y i))) i = mvR Z X Y n B rate w0 w1 w2 i := by rw [mvR, if_pos h]; rfl
abbrev rm_X5_move : Room := { frames := 3, cells := 0, slots := 0, locals := 69 }
theorem i_X5_move_X5 : ∀ w ∈ wsX50, w ∈ wsX5_move := by decide +kernel
theorem k_X5_move_f21 : Cond.fieldLink RX5 21 (TX5 1).1 (TX5 1).2.1 (TX5 1).2.2.1 ∈ wsX5_move := by decide +kernel
theorem i_X5_move_X3 : ∀ w ∈ wsX30, w ∈ wsX5_move := by decide +kernel
theorem k_X5_move_f55 : Cond.fieldLink RX5 55 (TX3 2).1 (TX3 2).2.1 (TX3 2).2.2.1 ∈ wsX5_move := by decide +kernel
theorem k_X5_move_f25 : Cond.fieldLink RX5 25 (TX5 2).1 (TX5 2).2.1 (TX5 2).2.2.1 ∈ wsX5_move := by decide +kernel
theorem k_X5_move_f76 : Cond.fieldLink RX5 76 (TX3 0).1 (TX3 0).2.1 (TX3 0).2.2.1 ∈ wsX5_move := by decide +kernel
theorem k_X5_move_f80 : Cond.fieldLink RX5 80 (TX3 1).1 (TX3 1).2.1 (TX3 1).2.2.1 ∈ wsX5_move := by decide +kernel
set_option maxHeartbeats 4000000 in
set_option maxRecDepth 100000 in
theorem c_X5_move (l : Launch) (g : gT) (ro : Nat) (lo : Nat) (cp : Nat) (sp : Nat) (yr : Nat) (cx : Nat) (cy : Nat) (n : Nat) (fx : Nat → Int32) (fy : Nat → Int32) (X : Nat → Int32) (Y : Nat → Int32) (dx : Nat) (dy : Nat) (n2 : Nat) (gx : Nat → Int32) (gy : Nat → Int32) (so : Nat) (bk : Nat) (rt : Int32) (w0 : Int32) (w1 : Int32) (w2 : Int32) (lg : Int32) (nr : Int32) (fb : Nat → Int32) (B : Nat → Int32) (rate : Int32) (hn : n ≤ 48) (hX : ∀ k, k < n → fx k = X k) (hY : ∀ k, k < n → fy k = Y k) (hB : ∀ k, k < 64 → fb k = B k) (h2n : 2 ≤ n) (hin : ∀ k, k < n → inP (X k) ∧ inP (Y k)) : CtV l g yX5_move wsX5_move rm_X5_move [.ref ro, .ref so, .int rate] [gO ro 5 [.ref lo, .ref cp, .ref sp, .int (nI yr)], gO cp 3 [.ref cx, .ref cy, .int (nI n)], gI g cx 48 fx, gI g cy 48 fy, gO sp 3 [.ref dx, .ref dy, .int (nI n2)], gI g dx 48 gx, gI g dy 48 gy, gO so 6 [.ref bk, .int rt, .int w0, .int w1, .int w2, .int lg, .int nr], gI g bk 64 fb] (fun (u : (Nat → Int32) × (Nat → Int32)) => (∀ k, k < n → u.1 k = mvR X X Y n B rate w0 w1 w2 k) ∧ (∀ k, k < n → u.2 k = mvR Y X Y n B rate w0 w1 w2 k)) (fun (u : (Nat → Int32) × (Nat → Int32)) => [gO ro 5 [.ref lo, .ref sp, .ref cp, .int (nI yr)], gO cp 3 [.ref cx, .ref cy, .int (nI n)], gI g cx 48 fx, gI g cy 48 fy, gO sp 3 [.ref dx, .ref dy, .int (nI n)], gI g dx 48 u.1, gI g dy 48 u.2, gO so 6 [.ref bk, .int rt, .int w0, .int w1, .int w2, .int lg, .int nr], gI g bk 64 fb]) := by
  refine CtV.of (cc := cX5_move) (maxL := 8) (by decide) rfl (Nat.le_of_ble_eq_true rfl) ?_
  intro p e s m args below meth c A Q hnm F hK hA hP hD hS hret ls hl
  have hx := F.1
  have hb := F.2.1
  have hl : lv_has ls 8 [(0, .ref ro), (1, .ref so), (2, .int rate)] := hl
  refine lv_aload_n hx hb dX5_move_0 rfl (lv_at hl 0 rfl) ?_
  refine g_get (C := RX5) (T := TX5) (N := 4) F hK hP i_X5_move_X5 0 rfl rfl 1 (by decide) k_X5_move_f21 (v := .ref cp) rfl dX5_move_1 ?_
  refine g_get (C := RX3) (T := TX3) (N := 3) F hK hP i_X5_move_X3 1 rfl rfl 2 (by decide) k_X5_move_f55 (v := .int (nI n)) rfl dX5_move_4 ?_
  refine lv_iconst (v := 1) hx hb dX5_move_7 (by decide) ?_
  refine n_isub (a := n) (b := 1) (d := n - 1) hx hb dX5_move_8 (by omega) (by omega) ?_
  refine lv_istore_n (lv' := [(3, .int (nI (n - 1))), (0, .ref ro), (1, .ref so), (2, .int rate)]) hx hb dX5_move_9 rfl hl (by decide) rfl (fun ls hl => ?_)
  refine lv_aload_n hx hb dX5_move_10 rfl (lv_at hl 1 rfl) ?_
  refine g_get (C := RX5) (T := TX5) (N := 4) F hK hP i_X5_move_X5 0 rfl rfl 2 (by decide) k_X5_move_f25 (v := .ref sp) rfl dX5_move_11 ?_
  refine lv_iconst (v := 0) hx hb dX5_move_14 (by decide) ?_
  refine g_put (C := RX3) (T := TX3) (N := 3) (ws2 := [gO ro 5 [.ref lo, .ref cp, .ref sp, .int (nI yr)], gO cp 3 [.ref cx, .ref cy, .int (nI n)], gI g cx 48 fx, gI g cy 48 fy, gO sp 3 [.ref dx, .ref dy, .int 0], gI g dx 48 gx, gI g dy 48 gy, gO so 6 [.ref bk, .int rt, .int w0, .int w1, .int w2, .int lg, .int nr], gI g bk 64 fb]) F hK hP hD hS i_X5_move_X3 tyX3 tyX3_ok nmX3 4 rfl rfl 2 (by decide) k_X5_move_f55 rfl (v := .int 0) rfl rfl (Nat.le_of_ble_eq_true rfl) rfl dX5_move_15 (fun H locs hP hD hS => ?_)
  refine lv_iconst (v := 0) hx hb dX5_move_18 (by decide) ?_
  refine lv_istore (lv' := [(4, .int 0), (3, .int (nI (n - 1))), (0, .ref ro), (1, .ref so), (2, .int rate)]) hx hb dX5_move_19 hl (by decide) rfl (fun ls hl => ?_)
  have L21 : ∀ (fuel : Nat) (i : Nat) (hx_ : Nat → Int32) (hy_ : Nat → Int32) (ls : Array Slot) (H : Heap) (locs : List Loc), n - i < fuel → (i ≤ n) → (∀ k, k < i → hx_ k = mvR X X Y n B rate w0 w1 w2 k) → (∀ k, k < i → hy_ k = mvR Y X Y n B rate w0 w1 w2 k) → lv_has ls 8 [(0, .ref ro), (1, .ref so), (2, .int rate), (3, .int (nI (n - 1))), (4, .int (nI i))] → gP g [gO ro 5 [.ref lo, .ref cp, .ref sp, .int (nI yr)], gO cp 3 [.ref cx, .ref cy, .int (nI n)], gI g cx 48 fx, gI g cy 48 fy, gO sp 3 [.ref dx, .ref dy, .int (nI i)], gI g dx 48 hx_, gI g dy 48 hy_, gO so 6 [.ref bk, .int rt, .int w0, .int w1, .int w2, .int lg, .int nr], gI g bk 64 fb] H → va_D A [gO ro 5 [.ref lo, .ref cp, .ref sp, .int (nI yr)], gO cp 3 [.ref cx, .ref cy, .int (nI n)], gI g cx 48 fx, gI g cy 48 fy, gO sp 3 [.ref dx, .ref dy, .int (nI i)], gI g dx 48 hx_, gI g dy 48 hy_, gO so 6 [.ref bk, .int rt, .int w0, .int w1, .int w2, .int lg, .int nr], gI g bk 64 fb] → va_S A s.heap H locs → W p l e rm_X5_move s m args below meth c H locs 0 0 Q (F0 m 21 ls []) := by
    intro fuel
    induction fuel with
    | zero => intro i hx_ hy_ _ _ _ hk; exact absurd hk (Nat.not_lt_zero _)
    | succ fuel_21 ih_21 =>
      intro i hx_ hy_ ls H locs hk_21 hi h1 h2 hl hP hD hS
      refine lv_iload hx hb dX5_move_21 (lv_at hl 4 rfl) ?_
      refine lv_iload_n hx hb dX5_move_23 rfl (lv_at hl 3 rfl) ?_
      refine n_icmp_gt (a := i) (b := n - 1) (tgt := 127) hx hb dX5_move_24 (by decide) (by omega) (by omega) (fun c_24 => ?_) (fun c_24 => ?_)
      · obtain rfl : n = i := by omega
        refine lv_aload_n hx hb dX5_move_127 rfl (lv_at hl 0 rfl) ?_
        refine g_VV (wr := [gO cp 3 [.ref cx, .ref cy, .int (nI n)], gI g cx 48 fx, gI g cy 48 fy, gO sp 3 [.ref dx, .ref dy, .int (nI n)], gI g dx 48 hx_, gI g dy 48 hy_, gO so 6 [.ref bk, .int rt, .int w0, .int w1, .int w2, .int lg, .int nr], gI g bk 64 fb]) (As := []) (rest := []) (n := 0) F (c_X5_takeSpare l g ro lo cp sp yr) gX5_move_X5_takeSpare rfl (by decide) ⟨by decide, by decide⟩ 0 5 rfl rfl rfl rfl hl.1 rfl (Nat.le_of_ble_eq_true rfl) dX5_move_128 ⟨Nat.le_of_ble_eq_true rfl, Nat.le_of_ble_eq_true rfl⟩ hK hP hD hS hA [0] [1, 2, 3, 4, 5, 6, 7, 8] (by decide) rfl rfl (by decide) (by decide) (fun u_128 H locs hw_128 hP hD hS => ?_)
        have hP : gP g [gO cp 3 [.ref cx, .ref cy, .int (nI n)], gI g cx 48 fx, gI g cy 48 fy, gO sp 3 [.ref dx, .ref dy, .int (nI n)], gI g dx 48 hx_, gI g dy 48 hy_, gO so 6 [.ref bk, .int rt, .int w0, .int w1, .int w2, .int lg, .int nr], gI g bk 64 fb, gO ro 5 [.ref lo, .ref sp, .ref cp, .int (nI yr)]] H := hP
        have hD : va_D A [gO cp 3 [.ref cx, .ref cy, .int (nI n)], gI g cx 48 fx, gI g cy 48 fy, gO sp 3 [.ref dx, .ref dy, .int (nI n)], gI g dx 48 hx_, gI g dy 48 hy_, gO so 6 [.ref bk, .int rt, .int w0, .int w1, .int w2, .int lg, .int nr], gI g bk 64 fb, gO ro 5 [.ref lo, .ref sp, .ref cp, .int (nI yr)]] := hD
        have hP9 := hP.sub (ws' := [gO ro 5 [.ref lo, .ref sp, .ref cp, .int (nI yr)], gO cp 3 [.ref cx, .ref cy, .int (nI n)], gI g cx 48 fx, gI g cy 48 fy, gO sp 3 [.ref dx, .ref dy, .int (nI n)], gI g dx 48 hx_, gI g dy 48 hy_, gO so 6 [.ref bk, .int rt, .int w0, .int w1, .int w2, .int lg, .int nr], gI g bk 64 fb]) [8, 0, 1, 2, 3, 4, 5, 6, 7] rfl
        have hD9 := hD.sub (ws' := [gO ro 5 [.ref lo, .ref sp, .ref cp, .int (nI yr)], gO cp 3 [.ref cx, .ref cy, .int (nI n)], gI g cx 48 fx, gI g cy 48 fy, gO sp 3 [.ref dx, .ref dy, .int (nI n)], gI g dx 48 hx_, gI g dy 48 hy_, gO so 6 [.ref bk, .int rt, .int w0, .int w1, .int w2, .int lg, .int nr], gI g bk 64 fb]) [8, 0, 1, 2, 3, 4, 5, 6, 7] (by decide) rfl
        exact hret _ _ _ _ (hx_, hy_) dX5_move_131 (⟨h1, h2⟩) hP9 hD9 hS
      · refine lv_aload_n hx hb dX5_move_27 rfl (lv_at hl 0 rfl) ?_
        refine g_get (C := RX5) (T := TX5) (N := 4) F hK hP i_X5_move_X5 0 rfl rfl 1 (by decide) k_X5_move_f21 (v := .ref cp) rfl dX5_move_28 ?_
        refine g_get (C := RX3) (T := TX3) (N := 3) F hK hP i_X5_move_X3 1 rfl rfl 0 (by decide) k_X5_move_f76 (v := .ref cx) rfl dX5_move_31 ?_
        refine lv_iload hx hb dX5_move_34 (lv_at hl 4 rfl) ?_
        refine g_iald (i := i) (v := (X i)) hx hb hK hP 2 rfl (by decide) (by omega) (hX i (by omega)) dX5_move_36 ?_
        refine lv_istore (lv' := [(5, .int (X i)), (0, .ref ro), (1, .ref so), (2, .int rate), (3, .int (nI (n - 1))), (4, .int (nI i))]) hx hb dX5_move_37 hl (by decide) rfl (fun ls hl => ?_)
        refine lv_aload_n hx hb dX5_move_39 rfl (lv_at hl 1 rfl) ?_
        refine g_get (C := RX5) (T := TX5) (N := 4) F hK hP i_X5_move_X5 0 rfl rfl 1 (by decide) k_X5_move_f21 (v := .ref cp) rfl dX5_move_40 ?_
        refine g_get (C := RX3) (T := TX3) (N := 3) F hK hP i_X5_move_X3 1 rfl rfl 1 (by decide) k_X5_move_f80 (v := .ref cy) rfl dX5_move_43 ?_
        refine lv_iload hx hb dX5_move_46 (lv_at hl 5 rfl) ?_
        refine g_iald (i := i) (v := (Y i)) hx hb hK hP 3 rfl (by decide) (by omega) (hY i (by omega)) dX5_move_48 ?_
        refine lv_istore (lv' := [(6, .int (Y i)), (5, .int (X i)), (0, .ref ro), (1, .ref so), (2, .int rate), (3, .int (nI (n - 1))), (4, .int (nI i))]) hx hb dX5_move_49 hl (by decide) rfl (fun ls hl => ?_)
        refine lv_iload hx hb dX5_move_51 (lv_at hl 6 rfl) ?_
        refine n_if_le (a := i) (tgt := 110) hx hb dX5_move_53 (by decide) (by omega) (fun c_53 => ?_) (fun c_53 => ?_)
        · refine lv_aload_n hx hb dX5_move_110 rfl (lv_at hl 2 rfl) ?_
          refine g_get (C := RX5) (T := TX5) (N := 4) F hK hP i_X5_move_X5 0 rfl rfl 2 (by decide) k_X5_move_f25 (v := .ref sp) rfl dX5_move_111 ?_
          refine lv_iload hx hb dX5_move_114 (lv_at hl 1 rfl) ?_
          refine lv_iload hx hb dX5_move_116 (lv_at hl 0 rfl) ?_
          refine g_VV (wr := [gO ro 5 [.ref lo, .ref cp, .ref sp, .int (nI yr)], gO cp 3 [.ref cx, .ref cy, .int (nI n)], gI g cx 48 fx, gI g cy 48 fy, gO so 6 [.ref bk, .int rt, .int w0, .int w1, .int w2, .int lg, .int nr], gI g bk 64 fb]) (As := [.int (X i), .int (Y i)]) (rest := []) (n := 2) F (c_X3_add l g sp dx dy i hx_ hy_ (X i) (Y i) (by omega)) gX5_move_X3_add rfl (by decide) ⟨by decide, by decide⟩ 4 3 rfl rfl rfl rfl hl.1 rfl (Nat.le_of_ble_eq_true rfl) dX5_move_118 ⟨Nat.le_of_ble_eq_true rfl, Nat.le_of_ble_eq_true rfl⟩ hK hP hD hS hA [4, 5, 6] [0, 1, 2, 3, 7, 8] (by decide) rfl rfl (by decide) (by decide) (fun u_118 H locs hw_118 hP hD hS => ?_)
          have hP : gP g [gO ro 5 [.ref lo, .ref cp, .ref sp, .int (nI yr)], gO cp 3 [.ref cx, .ref cy, .int (nI n)], gI g cx 48 fx, gI g cy 48 fy, gO so 6 [.ref bk, .int rt, .int w0, .int w1, .int w2, .int lg, .int nr], gI g bk 64 fb, gO sp 3 [.ref dx, .ref dy, .int (nI (i + 1))], gI g dx 48 (upd hx_ i (X i)), gI g dy 48 (upd hy_ i (Y i))] H := hP
          have hD : va_D A [gO ro 5 [.ref lo, .ref cp, .ref sp, .int (nI yr)], gO cp 3 [.ref cx, .ref cy, .int (nI n)], gI g cx 48 fx, gI g cy 48 fy, gO so 6 [.ref bk, .int rt, .int w0, .int w1, .int w2, .int lg, .int nr], gI g bk 64 fb, gO sp 3 [.ref dx, .ref dy, .int (nI (i + 1))], gI g dx 48 (upd hx_ i (X i)), gI g dy 48 (upd hy_ i (Y i))] := hD
          refine lv_iinc (v := (nI (i + 1))) (lv' := [(4, .int (nI (i + 1))), (6, .int (Y i)), (5, .int (X i)), (0, .ref ro), (1, .ref so), (2, .int rate), (3, .int (nI (n - 1)))]) hx hb dX5_move_121 hl (k := 6) rfl (g_inc i 1 (by decide)) (by decide) rfl (fun ls hl => ?_)
          refine lv_goto (tgt := 21) hx hb dX5_move_124 (by decide) ?_
          exact ih_21 (i + 1) (upd hx_ i (X i)) (upd hy_ i (Y i)) ls _ _ (by omega) (by omega) (upd_c h1 (mvR_o (by omega))) (upd_c h2 (mvR_o (by omega))) (lv_sub hl [3, 4, 5, 6, 0] rfl) (hP.sub [0, 1, 2, 3, 6, 7, 8, 4, 5] rfl) (hD.sub [0, 1, 2, 3, 6, 7, 8, 4, 5] (by decide) rfl) hS
        · refine lv_iload hx hb dX5_move_56 (lv_at hl 6 rfl) ?_
          refine lv_iload_n hx hb dX5_move_58 rfl (lv_at hl 5 rfl) ?_
          refine n_icmp_ge (a := i) (b := n - 1) (tgt := 110) hx hb dX5_move_59 (by decide) (by omega) (by omega) (fun c_59 => ?_) (fun c_59 => ?_)
          · refine lv_aload_n hx hb dX5_move_110 rfl (lv_at hl 2 rfl) ?_
            refine g_get (C := RX5) (T := TX5) (N := 4) F hK hP i_X5_move_X5 0 rfl rfl 2 (by decide) k_X5_move_f25 (v := .ref sp) rfl dX5_move_111 ?_
            refine lv_iload hx hb dX5_move_114 (lv_at hl 1 rfl) ?_
            refine lv_iload hx hb dX5_move_116 (lv_at hl 0 rfl) ?_
            refine g_VV (wr := [gO ro 5 [.ref lo, .ref cp, .ref sp, .int (nI yr)], gO cp 3 [.ref cx, .ref cy, .int (nI n)], gI g cx 48 fx, gI g cy 48 fy, gO so 6 [.ref bk, .int rt, .int w0, .int w1, .int w2, .int lg, .int nr], gI g bk 64 fb]) (As := [.int (X i), .int (Y i)]) (rest := []) (n := 2) F (c_X3_add l g sp dx dy i hx_ hy_ (X i) (Y i) (by omega)) gX5_move_X3_add rfl (by decide) ⟨by decide, by decide⟩ 4 3 rfl rfl rfl rfl hl.1 rfl (Nat.le_of_ble_eq_true rfl) dX5_move_118 ⟨Nat.le_of_ble_eq_true rfl, Nat.le_of_ble_eq_true rfl⟩ hK hP hD hS hA [4, 5, 6] [0, 1, 2, 3, 7, 8] (by decide) rfl rfl (by decide) (by decide) (fun u_118 H locs hw_118 hP hD hS => ?_)
            have hP : gP g [gO ro 5 [.ref lo, .ref cp, .ref sp, .int (nI yr)], gO cp 3 [.ref cx, .ref cy, .int (nI n)], gI g cx 48 fx, gI g cy 48 fy, gO so 6 [.ref bk, .int rt, .int w0, .int w1, .int w2, .int lg, .int nr], gI g bk 64 fb, gO sp 3 [.ref dx, .ref dy, .int (nI (i + 1))], gI g dx 48 (upd hx_ i (X i)), gI g dy 48 (upd hy_ i (Y i))] H := hP
            have hD : va_D A [gO ro 5 [.ref lo, .ref cp, .ref sp, .int (nI yr)], gO cp 3 [.ref cx, .ref cy, .int (nI n)], gI g cx 48 fx, gI g cy 48 fy, gO so 6 [.ref bk, .int rt, .int w0, .int w1, .int w2, .int lg, .int nr], gI g bk 64 fb, gO sp 3 [.ref dx, .ref dy, .int (nI (i + 1))], gI g dx 48 (upd hx_ i (X i)), gI g dy 48 (upd hy_ i (Y i))] := hD
            refine lv_iinc (v := (nI (i + 1))) (lv' := [(4, .int (nI (i + 1))), (6, .int (Y i)), (5, .int (X i)), (0, .ref ro), (1, .ref so), (2, .int rate), (3, .int (nI (n - 1)))]) hx hb dX5_move_121 hl (k := 6) rfl (g_inc i 1 (by decide)) (by decide) rfl (fun ls hl => ?_)
            refine lv_goto (tgt := 21) hx hb dX5_move_124 (by decide) ?_
            exact ih_21 (i + 1) (upd hx_ i (X i)) (upd hy_ i (Y i)) ls _ _ (by omega) (by omega) (upd_c h1 (mvR_o (by omega))) (upd_c h2 (mvR_o (by omega))) (lv_sub hl [3, 4, 5, 6, 0] rfl) (hP.sub [0, 1, 2, 3, 6, 7, 8, 4, 5] rfl) (hD.sub [0, 1, 2, 3, 6, 7, 8, 4, 5] (by decide) rfl) hS
          · refine lv_iload_n hx hb dX5_move_62 rfl (lv_at hl 4 rfl) ?_
            refine lv_aload_n hx hb dX5_move_63 rfl (lv_at hl 3 rfl) ?_
            refine lv_iload hx hb dX5_move_64 (lv_at hl 1 rfl) ?_
            refine lv_iload hx hb dX5_move_66 (lv_at hl 0 rfl) ?_
            refine g_VI (wr := [gO ro 5 [.ref lo, .ref cp, .ref sp, .int (nI yr)], gO cp 3 [.ref cx, .ref cy, .int (nI n)], gI g cx 48 fx, gI g cy 48 fy, gO sp 3 [.ref dx, .ref dy, .int (nI i)], gI g dx 48 hx_, gI g dy 48 hy_]) (As := [.int (X i), .int (Y i)]) (rest := [.int rate]) (n := 2) F (c_X6_bankAt l g so bk rt w0 w1 w2 lg nr fb B (X i) (Y i) (hB) ((hin i (by omega)).1) ((hin i (by omega)).2)) gX5_move_X6_bankAt rfl (by decide) ⟨by decide, by decide⟩ 7 6 rfl rfl rfl rfl hl.1 rfl (Nat.le_of_ble_eq_true rfl) dX5_move_68 ⟨Nat.le_of_ble_eq_true rfl, Nat.le_of_ble_eq_true rfl⟩ hK hP hD hS hA [7, 8] [0, 1, 2, 3, 4, 5, 6] (by decide) rfl rfl (by decide) (by decide) (fun r_68 u_68 H locs hw_68 hP hD hS => ?_)
            have hP : gP g [gO ro 5 [.ref lo, .ref cp, .ref sp, .int (nI yr)], gO cp 3 [.ref cx, .ref cy, .int (nI n)], gI g cx 48 fx, gI g cy 48 fy, gO sp 3 [.ref dx, .ref dy, .int (nI i)], gI g dx 48 hx_, gI g dy 48 hy_, gO so 6 [.ref bk, .int rt, .int w0, .int w1, .int w2, .int lg, .int nr], gI g bk 64 fb] H := hP
            have hD : va_D A [gO ro 5 [.ref lo, .ref cp, .ref sp, .int (nI yr)], gO cp 3 [.ref cx, .ref cy, .int (nI n)], gI g cx 48 fx, gI g cy 48 fy, gO sp 3 [.ref dx, .ref dy, .int (nI i)], gI g dx 48 hx_, gI g dy 48 hy_, gO so 6 [.ref bk, .int rt, .int w0, .int w1, .int w2, .int lg, .int nr], gI g bk 64 fb] := hD
            obtain rfl := hw_68
            refine lv_imul hx hb dX5_move_71 ?_
            refine lv_istore (lv' := [(7, .int (rate * (B (bidx (X i) (Y i))))), (6, .int (Y i)), (5, .int (X i)), (0, .ref ro), (1, .ref so), (2, .int rate), (3, .int (nI (n - 1))), (4, .int (nI i))]) hx hb dX5_move_72 hl (by decide) rfl (fun ls hl => ?_)
            refine lv_aload_n hx hb dX5_move_74 rfl (lv_at hl 3 rfl) ?_
            refine lv_aload_n hx hb dX5_move_75 rfl (lv_at hl 3 rfl) ?_
            refine g_get (C := RX5) (T := TX5) (N := 4) F hK hP i_X5_move_X5 0 rfl rfl 1 (by decide) k_X5_move_f21 (v := .ref cp) rfl dX5_move_76 ?_
            refine g_get (C := RX3) (T := TX3) (N := 3) F hK hP i_X5_move_X3 1 rfl rfl 0 (by decide) k_X5_move_f76 (v := .ref cx) rfl dX5_move_79 ?_
            refine lv_iload hx hb dX5_move_82 (lv_at hl 7 rfl) ?_
            refine lv_aload_n hx hb dX5_move_84 rfl (lv_at hl 4 rfl) ?_
            refine lv_iload hx hb dX5_move_85 (lv_at hl 0 rfl) ?_
            refine g_VI (wr := [gI g cy 48 fy, gO sp 3 [.ref dx, .ref dy, .int (nI i)], gI g dx 48 hx_, gI g dy 48 hy_, gI g bk 64 fb]) (As := [.ref cx, .int (nI i), .ref so, .int (rate * (B (bidx (X i) (Y i))))]) (rest := []) (n := 4) F (c_X5_moved l g ro lo cp sp yr cx cy n cx fx X so bk rt w0 w1 w2 lg nr i (rate * (B (bidx (X i) (Y i)))) (by omega) (by omega) (hX) (by omega)) gX5_move_X5_moved rfl (by decide) ⟨by decide, by decide⟩ 0 5 rfl rfl rfl rfl hl.1 rfl (Nat.le_of_ble_eq_true rfl) dX5_move_87 ⟨Nat.le_of_ble_eq_true rfl, Nat.le_of_ble_eq_true rfl⟩ hK hP hD hS hA [0, 1, 2, 7] [3, 4, 5, 6, 8] (by decide) rfl rfl (by decide) (by decide) (fun r_87 u_87 H locs hw_87 hP hD hS => ?_)
            have hP : gP g [gI g cy 48 fy, gO sp 3 [.ref dx, .ref dy, .int (nI i)], gI g dx 48 hx_, gI g dy 48 hy_, gI g bk 64 fb, gO ro 5 [.ref lo, .ref cp, .ref sp, .int (nI yr)], gO cp 3 [.ref cx, .ref cy, .int (nI n)], gI g cx 48 fx, gO so 6 [.ref bk, .int rt, .int w0, .int w1, .int w2, .int lg, .int nr]] H := hP
            have hD : va_D A [gI g cy 48 fy, gO sp 3 [.ref dx, .ref dy, .int (nI i)], gI g dx 48 hx_, gI g dy 48 hy_, gI g bk 64 fb, gO ro 5 [.ref lo, .ref cp, .ref sp, .int (nI yr)], gO cp 3 [.ref cx, .ref cy, .int (nI n)], gI g cx 48 fx, gO so 6 [.ref bk, .int rt, .int w0, .int w1, .int w2, .int lg, .int nr]] := hD
            obtain rfl := hw_87
            refine lv_istore (lv' := [(5, .int (mvS X n w0 w1 w2 (rate * (B (bidx (X i) (Y i)))) i)), (7, .int (rate * (B (bidx (X i) (Y i))))), (6, .int (Y i)), (0, .ref ro), (1, .ref so), (2, .int rate), (3, .int (nI (n - 1))), (4, .int (nI i))]) hx hb dX5_move_90 hl (by decide) rfl (fun ls hl => ?_)
            refine lv_aload_n hx hb dX5_move_92 rfl (lv_at hl 3 rfl) ?_
            refine lv_aload_n hx hb dX5_move_93 rfl (lv_at hl 3 rfl) ?_
            refine g_get (C := RX5) (T := TX5) (N := 4) F hK hP i_X5_move_X5 5 rfl rfl 1 (by decide) k_X5_move_f21 (v := .ref cp) rfl dX5_move_94 ?_
            refine g_get (C := RX3) (T := TX3) (N := 3) F hK hP i_X5_move_X3 6 rfl rfl 1 (by decide) k_X5_move_f80 (v := .ref cy) rfl dX5_move_97 ?_
            refine lv_iload hx hb dX5_move_100 (lv_at hl 7 rfl) ?_
            refine lv_aload_n hx hb dX5_move_102 rfl (lv_at hl 4 rfl) ?_
            refine lv_iload hx hb dX5_move_103 (lv_at hl 1 rfl) ?_
            refine g_VI (wr := [gO sp 3 [.ref dx, .ref dy, .int (nI i)], gI g dx 48 hx_, gI g dy 48 hy_, gI g bk 64 fb, gI g cx 48 fx]) (As := [.ref cy, .int (nI i), .ref so, .int (rate * (B (bidx (X i) (Y i))))]) (rest := []) (n := 4) F (c_X5_moved l g ro lo cp sp yr cx cy n cy fy Y so bk rt w0 w1 w2 lg nr i (rate * (B (bidx (X i) (Y i)))) (by omega) (by omega) (hY) (by omega)) gX5_move_X5_moved rfl (by decide) ⟨by decide, by decide⟩ 5 5 rfl rfl rfl rfl hl.1 rfl (Nat.le_of_ble_eq_true rfl) dX5_move_105 ⟨Nat.le_of_ble_eq_true rfl, Nat.le_of_ble_eq_true rfl⟩ hK hP hD hS hA [5, 6, 0, 8] [1, 2, 3, 4, 7] (by decide) rfl rfl (by decide) (by decide) (fun r_105 u_105 H locs hw_105 hP hD hS => ?_)
            have hP : gP g [gO sp 3 [.ref dx, .ref dy, .int (nI i)], gI g dx 48 hx_, gI g dy 48 hy_, gI g bk 64 fb, gI g cx 48 fx, gO ro 5 [.ref lo, .ref cp, .ref sp, .int (nI yr)], gO cp 3 [.ref cx, .ref cy, .int (nI n)], gI g cy 48 fy, gO so 6 [.ref bk, .int rt, .int w0, .int w1, .int w2, .int lg, .int nr]] H := hP
            have hD : va_D A [gO sp 3 [.ref dx, .ref dy, .int (nI i)], gI g dx 48 hx_, gI g dy 48 hy_, gI g bk 64 fb, gI g cx 48 fx, gO ro 5 [.ref lo, .ref cp, .ref sp, .int (nI yr)], gO cp 3 [.ref cx, .ref cy, .int (nI n)], gI g cy 48 fy, gO so 6 [.ref bk, .int rt, .int w0, .int w1, .int w2, .int lg, .int nr]] := hD
            obtain rfl := hw_105
            refine lv_istore (lv' := [(6, .int (mvS Y n w0 w1 w2 (rate * (B (bidx (X i) (Y i)))) i)), (5, .int (mvS X n w0 w1 w2 (rate * (B (bidx (X i) (Y i)))) i)), (7, .int (rate * (B (bidx (X i) (Y i))))), (0, .ref ro), (1, .ref so), (2, .int rate), (3, .int (nI (n - 1))), (4, .int (nI i))]) hx hb dX5_move_108 hl (by decide) rfl (fun ls hl => ?_)
            refine lv_aload_n hx hb dX5_move_110 rfl (lv_at hl 3 rfl) ?_
            refine g_get (C := RX5) (T := TX5) (N := 4) F hK hP i_X5_move_X5 5 rfl rfl 2 (by decide) k_X5_move_f25 (v := .ref sp) rfl dX5_move_111 ?_
            refine lv_iload hx hb dX5_move_114 (lv_at hl 1 rfl) ?_
            refine lv_iload hx hb dX5_move_116 (lv_at hl 0 rfl) ?_
            refine g_VV (wr := [gI g bk 64 fb, gI g cx 48 fx, gO ro 5 [.ref lo, .ref cp, .ref sp, .int (nI yr)], gO cp 3 [.ref cx, .ref cy, .int (nI n)], gI g cy 48 fy, gO so 6 [.ref bk, .int rt, .int w0, .int w1, .int w2, .int lg, .int nr]]) (As := [.int (mvS X n w0 w1 w2 (rate * (B (bidx (X i) (Y i)))) i), .int (mvS Y n w0 w1 w2 (rate * (B (bidx (X i) (Y i)))) i)]) (rest := []) (n := 2) F (c_X3_add l g sp dx dy i hx_ hy_ (mvS X n w0 w1 w2 (rate * (B (bidx (X i) (Y i)))) i) (mvS Y n w0 w1 w2 (rate * (B (bidx (X i) (Y i)))) i) (by omega)) gX5_move_X3_add rfl (by decide) ⟨by decide, by decide⟩ 0 3 rfl rfl rfl rfl hl.1 rfl (Nat.le_of_ble_eq_true rfl) dX5_move_118 ⟨Nat.le_of_ble_eq_true rfl, Nat.le_of_ble_eq_true rfl⟩ hK hP hD hS hA [0, 1, 2] [3, 4, 5, 6, 7, 8] (by decide) rfl rfl (by decide) (by decide) (fun u_118 H locs hw_118 hP hD hS => ?_)
            have hP : gP g [gI g bk 64 fb, gI g cx 48 fx, gO ro 5 [.ref lo, .ref cp, .ref sp, .int (nI yr)], gO cp 3 [.ref cx, .ref cy, .int (nI n)], gI g cy 48 fy, gO so 6 [.ref bk, .int rt, .int w0, .int w1, .int w2, .int lg, .int nr], gO sp 3 [.ref dx, .ref dy, .int (nI (i + 1))], gI g dx 48 (upd hx_ i (mvS X n w0 w1 w2 (rate * (B (bidx (X i) (Y i)))) i)), gI g dy 48 (upd hy_ i (mvS Y n w0 w1 w2 (rate * (B (bidx (X i) (Y i)))) i))] H := hP
            have hD : va_D A [gI g bk 64 fb, gI g cx 48 fx, gO ro 5 [.ref lo, .ref cp, .ref sp, .int (nI yr)], gO cp 3 [.ref cx, .ref cy, .int (nI n)], gI g cy 48 fy, gO so 6 [.ref bk, .int rt, .int w0, .int w1, .int w2, .int lg, .int nr], gO sp 3 [.ref dx, .ref dy, .int (nI (i + 1))], gI g dx 48 (upd hx_ i (mvS X n w0 w1 w2 (rate * (B (bidx (X i) (Y i)))) i)), gI g dy 48 (upd hy_ i (mvS Y n w0 w1 w2 (rate * (B (bidx (X i) (Y i)))) i))] := hD
            refine lv_iinc (v := (nI (i + 1))) (lv' := [(4, .int (nI (i + 1))), (6, .int (mvS Y n w0 w1 w2 (rate * (B (bidx (X i) (Y i)))) i)), (5, .int (mvS X n w0 w1 w2 (rate * (B (bidx (X i) (Y i)))) i)), (7, .int (rate * (B (bidx (X i) (Y i))))), (0, .ref ro), (1, .ref so), (2, .int rate), (3, .int (nI (n - 1)))]) hx hb dX5_move_121 hl (k := 7) rfl (g_inc i 1 (by decide)) (by decide) rfl (fun ls hl => ?_)
            refine lv_goto (tgt := 21) hx hb dX5_move_124 (by decide) ?_
            exact ih_21 (i + 1) (upd hx_ i (mvS X n w0 w1 w2 (rate * (B (bidx (X i) (Y i)))) i)) (upd hy_ i (mvS Y n w0 w1 w2 (rate * (B (bidx (X i) (Y i)))) i)) ls _ _ (by omega) (by omega) (upd_c h1 (mvR_i ⟨by omega, by omega⟩)) (upd_c h2 (mvR_i ⟨by omega, by omega⟩)) (lv_sub hl [4, 5, 6, 7, 0] rfl) (hP.sub [2, 3, 1, 4, 6, 7, 8, 5, 0] rfl) (hD.sub [2, 3, 1, 4, 6, 7, 8, 5, 0] (by decide) rfl) hS
  exact L21 ((n - 0) + 1) 0 gx gy ls _ _ (Nat.lt_succ_self _) (by omega) (fun k hk => absurd hk (Nat.not_lt_zero k)) (fun k hk => absurd hk (Nat.not_lt_zero k)) (lv_sub hl [2, 3, 4, 1, 0] rfl) hP hD hS

