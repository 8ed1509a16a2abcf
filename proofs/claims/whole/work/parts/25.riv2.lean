abbrev rm_X5_isCloseToKept : Room := { frames := 2, cells := 0, slots := 0, locals := 45 }
theorem i_X5_isCloseToKept_X5 : ∀ w ∈ wsX50, w ∈ wsX5_isCloseToKept := by decide +kernel
theorem k_X5_isCloseToKept_f25 : Cond.fieldLink RX5 25 (TX5 2).1 (TX5 2).2.1 (TX5 2).2.2.1 ∈ wsX5_isCloseToKept := by decide +kernel
theorem i_X5_isCloseToKept_X3 : ∀ w ∈ wsX30, w ∈ wsX5_isCloseToKept := by decide +kernel
theorem k_X5_isCloseToKept_f55 : Cond.fieldLink RX5 55 (TX3 2).1 (TX3 2).2.1 (TX3 2).2.2.1 ∈ wsX5_isCloseToKept := by decide +kernel
set_option maxHeartbeats 4000000 in
set_option maxRecDepth 100000 in
theorem c_X5_isCloseToKept (l : Launch) (g : gT) (ro : Nat) (lo : Nat) (cp : Nat) (sp : Nat) (yr : Nat) (dx : Nat) (dy : Nat) (n2 : Nat) (gx : Nat → Int32) (gy : Nat → Int32) (SX : Nat → Int32) (SY : Nat → Int32) (x : Int32) (y : Int32) (hn2 : n2 ≤ 48) (hSX : ∀ k, k < n2 → gx k = SX k) (hSY : ∀ k, k < n2 → gy k = SY k) : CtI l g yX5_isCloseToKept wsX5_isCloseToKept rm_X5_isCloseToKept [.ref ro, .int x, .int y] [gO ro 5 [.ref lo, .ref cp, .ref sp, .int (nI yr)], gO sp 3 [.ref dx, .ref dy, .int (nI n2)], gI g dx 48 gx, gI g dy 48 gy] (fun (r : Int32) (_ : Unit) => (r = 1 ∧ (0 < n2 ∧ nearB SX SY (n2 - 1) x y 3 = true)) ∨ (r = 0 ∧ ¬ (0 < n2 ∧ nearB SX SY (n2 - 1) x y 3 = true))) (fun (_ : Unit) => [gO ro 5 [.ref lo, .ref cp, .ref sp, .int (nI yr)], gO sp 3 [.ref dx, .ref dy, .int (nI n2)], gI g dx 48 gx, gI g dy 48 gy]) := by
  refine CtI.of (cc := cX5_isCloseToKept) (maxL := 3) (ret := .boolean) (by decide) rfl (Nat.le_of_ble_eq_true rfl) ?_
  intro p e s m args below meth c A Q hnm F hK hA hP hD hS hret ls hl
  have hx := F.1
  have hb := F.2.1
  have hl : lv_has ls 3 [(0, .ref ro), (1, .int x), (2, .int y)] := hl
  refine lv_aload_n hx hb dX5_isCloseToKept_0 rfl (lv_at hl 0 rfl) ?_
  refine g_get (C := RX5) (T := TX5) (N := 4) F hK hP i_X5_isCloseToKept_X5 0 rfl rfl 2 (by decide) k_X5_isCloseToKept_f25 (v := .ref sp) rfl dX5_isCloseToKept_1 ?_
  refine g_get (C := RX3) (T := TX3) (N := 3) F hK hP i_X5_isCloseToKept_X3 1 rfl rfl 2 (by decide) k_X5_isCloseToKept_f55 (v := .int (nI n2)) rfl dX5_isCloseToKept_4 ?_
  refine n_if_le (a := n2) (tgt := 36) hx hb dX5_isCloseToKept_7 (by decide) (by omega) (fun c_7 => ?_) (fun c_7 => ?_)
  · refine lv_iconst (v := 0) hx hb dX5_isCloseToKept_36 (by decide) ?_
    exact hret _ _ _ _ 0 () dX5_isCloseToKept_37 rfl (by simp [c_7]) hP hD hS
  · refine lv_aload_n hx hb dX5_isCloseToKept_10 rfl (lv_at hl 0 rfl) ?_
    refine g_get (C := RX5) (T := TX5) (N := 4) F hK hP i_X5_isCloseToKept_X5 0 rfl rfl 2 (by decide) k_X5_isCloseToKept_f25 (v := .ref sp) rfl dX5_isCloseToKept_11 ?_
    refine lv_aload_n hx hb dX5_isCloseToKept_14 rfl (lv_at hl 0 rfl) ?_
    refine g_get (C := RX5) (T := TX5) (N := 4) F hK hP i_X5_isCloseToKept_X5 0 rfl rfl 2 (by decide) k_X5_isCloseToKept_f25 (v := .ref sp) rfl dX5_isCloseToKept_15 ?_
    refine g_get (C := RX3) (T := TX3) (N := 3) F hK hP i_X5_isCloseToKept_X3 1 rfl rfl 2 (by decide) k_X5_isCloseToKept_f55 (v := .int (nI n2)) rfl dX5_isCloseToKept_18 ?_
    refine lv_iconst (v := 1) hx hb dX5_isCloseToKept_21 (by decide) ?_
    refine n_isub (a := n2) (b := 1) (d := n2 - 1) hx hb dX5_isCloseToKept_22 (by omega) (by omega) ?_
    refine lv_iload_n hx hb dX5_isCloseToKept_23 rfl (lv_at hl 1 rfl) ?_
    refine lv_iload_n hx hb dX5_isCloseToKept_24 rfl (lv_at hl 2 rfl) ?_
    refine lv_iconst (v := 3) hx hb dX5_isCloseToKept_25 (by decide) ?_
    refine g_VI (wr := [gO ro 5 [.ref lo, .ref cp, .ref sp, .int (nI yr)]]) (As := [.int (nI (n2 - 1)), .int x, .int y, .int 3]) (rest := []) (n := 4) F (c_X3_isNear l g sp dx dy n2 gx gy SX SY (n2 - 1) x y 3 (by omega) (hSX) (hSY) (by omega)) gX5_isCloseToKept_X3_isNear rfl (by decide) ⟨by decide, by decide⟩ 1 3 rfl rfl rfl rfl hl.1 rfl (Nat.le_of_ble_eq_true rfl) dX5_isCloseToKept_26 ⟨Nat.le_of_ble_eq_true rfl, Nat.le_of_ble_eq_true rfl⟩ hK hP hD hS hA [1, 2, 3] [0] (by decide) rfl rfl (by decide) (by decide) (fun r_26 u_26 H locs hw_26 hP hD hS => ?_)
    have hP : gP g [gO ro 5 [.ref lo, .ref cp, .ref sp, .int (nI yr)], gO sp 3 [.ref dx, .ref dy, .int (nI n2)], gI g dx 48 gx, gI g dy 48 gy] H := hP
    have hD : va_D A [gO ro 5 [.ref lo, .ref cp, .ref sp, .int (nI yr)], gO sp 3 [.ref dx, .ref dy, .int (nI n2)], gI g dx 48 gx, gI g dy 48 gy] := hD
    rcases hw_26 with ⟨rfl, b_26⟩ | ⟨rfl, b_26⟩
    · refine lv_if_eq (tgt := 36) hx hb dX5_isCloseToKept_29 (by decide) (fun h => absurd h (by decide)) (fun _ => ?_)
      refine lv_iconst (v := 1) hx hb dX5_isCloseToKept_32 (by decide) ?_
      refine lv_goto (tgt := 37) hx hb dX5_isCloseToKept_33 (by decide) ?_
      exact hret _ _ _ _ 1 () dX5_isCloseToKept_37 rfl (by simp [c_7, b_26]) hP hD hS
    · refine lv_if_eq (tgt := 36) hx hb dX5_isCloseToKept_29 (by decide) (fun _ => ?_) (fun h => absurd (by decide) h)
      refine lv_iconst (v := 0) hx hb dX5_isCloseToKept_36 (by decide) ?_
      exact hret _ _ _ _ 0 () dX5_isCloseToKept_37 rfl (by simp [c_7, b_26]) hP hD hS

abbrev rm_X5_leaveOutClose : Room := { frames := 3, cells := 0, slots := 0, locals := 67 }
theorem i_X5_leaveOutClose_X5 : ∀ w ∈ wsX50, w ∈ wsX5_leaveOutClose := by decide +kernel
theorem k_X5_leaveOutClose_f21 : Cond.fieldLink RX5 21 (TX5 1).1 (TX5 1).2.1 (TX5 1).2.2.1 ∈ wsX5_leaveOutClose := by decide +kernel
theorem i_X5_leaveOutClose_X3 : ∀ w ∈ wsX30, w ∈ wsX5_leaveOutClose := by decide +kernel
theorem k_X5_leaveOutClose_f55 : Cond.fieldLink RX5 55 (TX3 2).1 (TX3 2).2.1 (TX3 2).2.2.1 ∈ wsX5_leaveOutClose := by decide +kernel
theorem k_X5_leaveOutClose_f25 : Cond.fieldLink RX5 25 (TX5 2).1 (TX5 2).2.1 (TX5 2).2.2.1 ∈ wsX5_leaveOutClose := by decide +kernel
theorem k_X5_leaveOutClose_f76 : Cond.fieldLink RX5 76 (TX3 0).1 (TX3 0).2.1 (TX3 0).2.2.1 ∈ wsX5_leaveOutClose := by decide +kernel
theorem k_X5_leaveOutClose_f80 : Cond.fieldLink RX5 80 (TX3 1).1 (TX3 1).2.1 (TX3 1).2.2.1 ∈ wsX5_leaveOutClose := by decide +kernel
set_option maxHeartbeats 4000000 in
set_option maxRecDepth 100000 in
theorem c_X5_leaveOutClose (l : Launch) (g : gT) (ro : Nat) (lo : Nat) (cp : Nat) (sp : Nat) (yr : Nat) (cx : Nat) (cy : Nat) (n : Nat) (fx : Nat → Int32) (fy : Nat → Int32) (X : Nat → Int32) (Y : Nat → Int32) (dx : Nat) (dy : Nat) (n2 : Nat) (gx : Nat → Int32) (gy : Nat → Int32) (hn : n ≤ 48) (hX : ∀ k, k < n → fx k = X k) (hY : ∀ k, k < n → fy k = Y k) (h4n : 4 ≤ n) : CtV l g yX5_leaveOutClose wsX5_leaveOutClose rm_X5_leaveOutClose [.ref ro] [gO ro 5 [.ref lo, .ref cp, .ref sp, .int (nI yr)], gO cp 3 [.ref cx, .ref cy, .int (nI n)], gI g cx 48 fx, gI g cy 48 fy, gO sp 3 [.ref dx, .ref dy, .int (nI n2)], gI g dx 48 gx, gI g dy 48 gy] (fun (u : (Nat → Int32) × (Nat → Int32)) => (∀ k, k < (clsS X Y n n).1 → u.1 k = (clsS X Y n n).2.1 k) ∧ (∀ k, k < (clsS X Y n n).1 → u.2 k = (clsS X Y n n).2.2.1 k)) (fun (u : (Nat → Int32) × (Nat → Int32)) => [gO ro 5 [.ref lo, .ref sp, .ref cp, .int (nI yr)], gO cp 3 [.ref cx, .ref cy, .int (nI n)], gI g cx 48 fx, gI g cy 48 fy, gO sp 3 [.ref dx, .ref dy, .int (nI ((clsS X Y n n).1))], gI g dx 48 u.1, gI g dy 48 u.2]) := by
  refine CtV.of (cc := cX5_leaveOutClose) (maxL := 5) (by decide) rfl (Nat.le_of_ble_eq_true rfl) ?_
  intro p e s m args below meth c A Q hnm F hK hA hP hD hS hret ls hl
  have hx := F.1
  have hb := F.2.1
  have hl : lv_has ls 5 [(0, .ref ro)] := hl
  refine lv_aload_n hx hb dX5_leaveOutClose_0 rfl (lv_at hl 0 rfl) ?_
  refine g_get (C := RX5) (T := TX5) (N := 4) F hK hP i_X5_leaveOutClose_X5 0 rfl rfl 1 (by decide) k_X5_leaveOutClose_f21 (v := .ref cp) rfl dX5_leaveOutClose_1 ?_
  refine g_get (C := RX3) (T := TX3) (N := 3) F hK hP i_X5_leaveOutClose_X3 1 rfl rfl 2 (by decide) k_X5_leaveOutClose_f55 (v := .int (nI n)) rfl dX5_leaveOutClose_4 ?_
  refine lv_iconst (v := 1) hx hb dX5_leaveOutClose_7 (by decide) ?_
  refine n_isub (a := n) (b := 1) (d := n - 1) hx hb dX5_leaveOutClose_8 (by omega) (by omega) ?_
  refine lv_istore_n (lv' := [(1, .int (nI (n - 1))), (0, .ref ro)]) hx hb dX5_leaveOutClose_9 rfl hl (by decide) rfl (fun ls hl => ?_)
  refine lv_aload_n hx hb dX5_leaveOutClose_10 rfl (lv_at hl 1 rfl) ?_
  refine g_get (C := RX5) (T := TX5) (N := 4) F hK hP i_X5_leaveOutClose_X5 0 rfl rfl 1 (by decide) k_X5_leaveOutClose_f21 (v := .ref cp) rfl dX5_leaveOutClose_11 ?_
  refine g_get (C := RX3) (T := TX3) (N := 3) F hK hP i_X5_leaveOutClose_X3 1 rfl rfl 2 (by decide) k_X5_leaveOutClose_f55 (v := .int (nI n)) rfl dX5_leaveOutClose_14 ?_
  refine lv_istore_n (lv' := [(2, .int (nI n)), (1, .int (nI (n - 1))), (0, .ref ro)]) hx hb dX5_leaveOutClose_17 rfl hl (by decide) rfl (fun ls hl => ?_)
  refine lv_aload_n hx hb dX5_leaveOutClose_18 rfl (lv_at hl 2 rfl) ?_
  refine g_get (C := RX5) (T := TX5) (N := 4) F hK hP i_X5_leaveOutClose_X5 0 rfl rfl 2 (by decide) k_X5_leaveOutClose_f25 (v := .ref sp) rfl dX5_leaveOutClose_19 ?_
  refine lv_iconst (v := 0) hx hb dX5_leaveOutClose_22 (by decide) ?_
  refine g_put (C := RX3) (T := TX3) (N := 3) (ws2 := [gO ro 5 [.ref lo, .ref cp, .ref sp, .int (nI yr)], gO cp 3 [.ref cx, .ref cy, .int (nI n)], gI g cx 48 fx, gI g cy 48 fy, gO sp 3 [.ref dx, .ref dy, .int 0], gI g dx 48 gx, gI g dy 48 gy]) F hK hP hD hS i_X5_leaveOutClose_X3 tyX3 tyX3_ok nmX3 4 rfl rfl 2 (by decide) k_X5_leaveOutClose_f55 rfl (v := .int 0) rfl rfl (Nat.le_of_ble_eq_true rfl) rfl dX5_leaveOutClose_23 (fun H locs hP hD hS => ?_)
  refine lv_iconst (v := 0) hx hb dX5_leaveOutClose_26 (by decide) ?_
  refine lv_istore_n (lv' := [(3, .int 0), (2, .int (nI n)), (1, .int (nI (n - 1))), (0, .ref ro)]) hx hb dX5_leaveOutClose_27 rfl hl (by decide) rfl (fun ls hl => ?_)
  have L28 : ∀ (fuel : Nat) (i : Nat) (mm : Nat) (t : Nat) (hx_ : Nat → Int32) (hy_ : Nat → Int32) (ls : Array Slot) (H : Heap) (locs : List Loc), n - i < fuel → (i ≤ n) → (mm = (clsS X Y n i).1) → (t = (clsS X Y n i).2.2.2) → (∀ k, k < mm → hx_ k = (clsS X Y n i).2.1 k) → (∀ k, k < mm → hy_ k = (clsS X Y n i).2.2.1 k) → lv_has ls 5 [(0, .ref ro), (1, .int (nI (n - 1))), (2, .int (nI t)), (3, .int (nI i))] → gP g [gO ro 5 [.ref lo, .ref cp, .ref sp, .int (nI yr)], gO cp 3 [.ref cx, .ref cy, .int (nI n)], gI g cx 48 fx, gI g cy 48 fy, gO sp 3 [.ref dx, .ref dy, .int (nI mm)], gI g dx 48 hx_, gI g dy 48 hy_] H → va_D A [gO ro 5 [.ref lo, .ref cp, .ref sp, .int (nI yr)], gO cp 3 [.ref cx, .ref cy, .int (nI n)], gI g cx 48 fx, gI g cy 48 fy, gO sp 3 [.ref dx, .ref dy, .int (nI mm)], gI g dx 48 hx_, gI g dy 48 hy_] → va_S A s.heap H locs → W p l e rm_X5_leaveOutClose s m args below meth c H locs 0 0 Q (F0 m 28 ls []) := by
    intro fuel
    induction fuel with
    | zero => intro i mm t hx_ hy_ _ _ _ hk; exact absurd hk (Nat.not_lt_zero _)
    | succ fuel_28 ih_28 =>
      intro i mm t hx_ hy_ ls H locs hk_28 hi hm ht h1 h2 hl hP hD hS
      have hiv := cls_inv X Y h4n i hi
      refine lv_iload_n hx hb dX5_leaveOutClose_28 rfl (lv_at hl 3 rfl) ?_
      refine lv_iload_n hx hb dX5_leaveOutClose_29 rfl (lv_at hl 1 rfl) ?_
      refine n_icmp_gt (a := i) (b := n - 1) (tgt := 121) hx hb dX5_leaveOutClose_30 (by decide) (by omega) (by omega) (fun c_30 => ?_) (fun c_30 => ?_)
      · obtain rfl : n = i := by omega
        obtain rfl : (clsS X Y n n).1 = mm := hm.symm
        refine lv_aload_n hx hb dX5_leaveOutClose_121 rfl (lv_at hl 0 rfl) ?_
        refine g_VV (wr := [gO cp 3 [.ref cx, .ref cy, .int (nI n)], gI g cx 48 fx, gI g cy 48 fy, gO sp 3 [.ref dx, .ref dy, .int (nI ((clsS X Y n n).1))], gI g dx 48 hx_, gI g dy 48 hy_]) (As := []) (rest := []) (n := 0) F (c_X5_takeSpare l g ro lo cp sp yr) gX5_leaveOutClose_X5_takeSpare rfl (by decide) ⟨by decide, by decide⟩ 0 5 rfl rfl rfl rfl hl.1 rfl (Nat.le_of_ble_eq_true rfl) dX5_leaveOutClose_122 ⟨Nat.le_of_ble_eq_true rfl, Nat.le_of_ble_eq_true rfl⟩ hK hP hD hS hA [0] [1, 2, 3, 4, 5, 6] (by decide) rfl rfl (by decide) (by decide) (fun u_122 H locs hw_122 hP hD hS => ?_)
        have hP : gP g [gO cp 3 [.ref cx, .ref cy, .int (nI n)], gI g cx 48 fx, gI g cy 48 fy, gO sp 3 [.ref dx, .ref dy, .int (nI ((clsS X Y n n).1))], gI g dx 48 hx_, gI g dy 48 hy_, gO ro 5 [.ref lo, .ref sp, .ref cp, .int (nI yr)]] H := hP
        have hD : va_D A [gO cp 3 [.ref cx, .ref cy, .int (nI n)], gI g cx 48 fx, gI g cy 48 fy, gO sp 3 [.ref dx, .ref dy, .int (nI ((clsS X Y n n).1))], gI g dx 48 hx_, gI g dy 48 hy_, gO ro 5 [.ref lo, .ref sp, .ref cp, .int (nI yr)]] := hD
        have hP9 := hP.sub (ws' := [gO ro 5 [.ref lo, .ref sp, .ref cp, .int (nI yr)], gO cp 3 [.ref cx, .ref cy, .int (nI n)], gI g cx 48 fx, gI g cy 48 fy, gO sp 3 [.ref dx, .ref dy, .int (nI ((clsS X Y n n).1))], gI g dx 48 hx_, gI g dy 48 hy_]) [6, 0, 1, 2, 3, 4, 5] rfl
        have hD9 := hD.sub (ws' := [gO ro 5 [.ref lo, .ref sp, .ref cp, .int (nI yr)], gO cp 3 [.ref cx, .ref cy, .int (nI n)], gI g cx 48 fx, gI g cy 48 fy, gO sp 3 [.ref dx, .ref dy, .int (nI ((clsS X Y n n).1))], gI g dx 48 hx_, gI g dy 48 hy_]) [6, 0, 1, 2, 3, 4, 5] (by decide) rfl
        exact hret _ _ _ _ (hx_, hy_) dX5_leaveOutClose_125 (⟨h1, h2⟩) hP9 hD9 hS
      · refine lv_iload_n hx hb dX5_leaveOutClose_33 rfl (lv_at hl 3 rfl) ?_
        refine n_if_le (a := i) (tgt := 46) hx hb dX5_leaveOutClose_34 (by decide) (by omega) (fun c_34 => ?_) (fun c_34 => ?_)
        · refine lv_iconst (v := 0) hx hb dX5_leaveOutClose_46 (by decide) ?_
          refine lv_istore (lv' := [(4, .int 0), (0, .ref ro), (1, .int (nI (n - 1))), (2, .int (nI t)), (3, .int (nI i))]) hx hb dX5_leaveOutClose_47 hl (by decide) rfl (fun ls hl => ?_)
          refine lv_iload hx hb dX5_leaveOutClose_49 (lv_at hl 0 rfl) ?_
          refine lv_if_eq (tgt := 90) hx hb dX5_leaveOutClose_51 (by decide) (fun _ => ?_) (fun h => absurd (by decide) h)
          refine lv_aload_n hx hb dX5_leaveOutClose_90 rfl (lv_at hl 1 rfl) ?_
          refine g_get (C := RX5) (T := TX5) (N := 4) F hK hP i_X5_leaveOutClose_X5 0 rfl rfl 2 (by decide) k_X5_leaveOutClose_f25 (v := .ref sp) rfl dX5_leaveOutClose_91 ?_
          refine lv_aload_n hx hb dX5_leaveOutClose_94 rfl (lv_at hl 1 rfl) ?_
          refine g_get (C := RX5) (T := TX5) (N := 4) F hK hP i_X5_leaveOutClose_X5 0 rfl rfl 1 (by decide) k_X5_leaveOutClose_f21 (v := .ref cp) rfl dX5_leaveOutClose_95 ?_
          refine g_get (C := RX3) (T := TX3) (N := 3) F hK hP i_X5_leaveOutClose_X3 1 rfl rfl 0 (by decide) k_X5_leaveOutClose_f76 (v := .ref cx) rfl dX5_leaveOutClose_98 ?_
          refine lv_iload_n hx hb dX5_leaveOutClose_101 rfl (lv_at hl 4 rfl) ?_
          refine g_iald (i := i) (v := (X i)) hx hb hK hP 2 rfl (by decide) (by omega) (hX i (by omega)) dX5_leaveOutClose_102 ?_
          refine lv_aload_n hx hb dX5_leaveOutClose_103 rfl (lv_at hl 1 rfl) ?_
          refine g_get (C := RX5) (T := TX5) (N := 4) F hK hP i_X5_leaveOutClose_X5 0 rfl rfl 1 (by decide) k_X5_leaveOutClose_f21 (v := .ref cp) rfl dX5_leaveOutClose_104 ?_
          refine g_get (C := RX3) (T := TX3) (N := 3) F hK hP i_X5_leaveOutClose_X3 1 rfl rfl 1 (by decide) k_X5_leaveOutClose_f80 (v := .ref cy) rfl dX5_leaveOutClose_107 ?_
          refine lv_iload_n hx hb dX5_leaveOutClose_110 rfl (lv_at hl 4 rfl) ?_
          refine g_iald (i := i) (v := (Y i)) hx hb hK hP 3 rfl (by decide) (by omega) (hY i (by omega)) dX5_leaveOutClose_111 ?_
          refine g_VV (wr := [gO ro 5 [.ref lo, .ref cp, .ref sp, .int (nI yr)], gO cp 3 [.ref cx, .ref cy, .int (nI n)], gI g cx 48 fx, gI g cy 48 fy]) (As := [.int (X i), .int (Y i)]) (rest := []) (n := 2) F (c_X3_add l g sp dx dy mm hx_ hy_ (X i) (Y i) (by omega)) gX5_leaveOutClose_X3_add rfl (by decide) ⟨by decide, by decide⟩ 4 3 rfl rfl rfl rfl hl.1 rfl (Nat.le_of_ble_eq_true rfl) dX5_leaveOutClose_112 ⟨Nat.le_of_ble_eq_true rfl, Nat.le_of_ble_eq_true rfl⟩ hK hP hD hS hA [4, 5, 6] [0, 1, 2, 3] (by decide) rfl rfl (by decide) (by decide) (fun u_112 H locs hw_112 hP hD hS => ?_)
          have hP : gP g [gO ro 5 [.ref lo, .ref cp, .ref sp, .int (nI yr)], gO cp 3 [.ref cx, .ref cy, .int (nI n)], gI g cx 48 fx, gI g cy 48 fy, gO sp 3 [.ref dx, .ref dy, .int (nI (mm + 1))], gI g dx 48 (upd hx_ mm (X i)), gI g dy 48 (upd hy_ mm (Y i))] H := hP
          have hD : va_D A [gO ro 5 [.ref lo, .ref cp, .ref sp, .int (nI yr)], gO cp 3 [.ref cx, .ref cy, .int (nI n)], gI g cx 48 fx, gI g cy 48 fy, gO sp 3 [.ref dx, .ref dy, .int (nI (mm + 1))], gI g dx 48 (upd hx_ mm (X i)), gI g dy 48 (upd hy_ mm (Y i))] := hD
          refine lv_iinc (v := (nI (i + 1))) (lv' := [(3, .int (nI (i + 1))), (4, .int 0), (0, .ref ro), (1, .int (nI (n - 1))), (2, .int (nI t))]) hx hb dX5_leaveOutClose_115 hl (k := 4) rfl (g_inc i 1 (by decide)) (by decide) rfl (fun ls hl => ?_)
          refine lv_goto (tgt := 28) hx hb dX5_leaveOutClose_118 (by decide) ?_
          have he := cls_in (X := X) (Y := Y) (n := n) (i := i) (fun hz => absurd hz.1 (by omega))
          exact ih_28 (i + 1) (mm + 1) t (upd hx_ mm (X i)) (upd hy_ mm (Y i)) ls _ _ (by omega) (by omega) (by rw [he, hm]) (by rw [he]; exact ht) (by rw [he]; subst hm; exact upd_v h1) (by rw [he]; subst hm; exact upd_v h2) (lv_sub hl [2, 3, 4, 0] rfl) hP hD hS
        · refine lv_iload_n hx hb dX5_leaveOutClose_37 rfl (lv_at hl 3 rfl) ?_
          refine lv_iload_n hx hb dX5_leaveOutClose_38 rfl (lv_at hl 1 rfl) ?_
          refine n_icmp_ge (a := i) (b := n - 1) (tgt := 46) hx hb dX5_leaveOutClose_39 (by decide) (by omega) (by omega) (fun c_39 => ?_) (fun c_39 => ?_)
          · refine lv_iconst (v := 0) hx hb dX5_leaveOutClose_46 (by decide) ?_
            refine lv_istore (lv' := [(4, .int 0), (0, .ref ro), (1, .int (nI (n - 1))), (2, .int (nI t)), (3, .int (nI i))]) hx hb dX5_leaveOutClose_47 hl (by decide) rfl (fun ls hl => ?_)
            refine lv_iload hx hb dX5_leaveOutClose_49 (lv_at hl 0 rfl) ?_
            refine lv_if_eq (tgt := 90) hx hb dX5_leaveOutClose_51 (by decide) (fun _ => ?_) (fun h => absurd (by decide) h)
            refine lv_aload_n hx hb dX5_leaveOutClose_90 rfl (lv_at hl 1 rfl) ?_
            refine g_get (C := RX5) (T := TX5) (N := 4) F hK hP i_X5_leaveOutClose_X5 0 rfl rfl 2 (by decide) k_X5_leaveOutClose_f25 (v := .ref sp) rfl dX5_leaveOutClose_91 ?_
            refine lv_aload_n hx hb dX5_leaveOutClose_94 rfl (lv_at hl 1 rfl) ?_
            refine g_get (C := RX5) (T := TX5) (N := 4) F hK hP i_X5_leaveOutClose_X5 0 rfl rfl 1 (by decide) k_X5_leaveOutClose_f21 (v := .ref cp) rfl dX5_leaveOutClose_95 ?_
            refine g_get (C := RX3) (T := TX3) (N := 3) F hK hP i_X5_leaveOutClose_X3 1 rfl rfl 0 (by decide) k_X5_leaveOutClose_f76 (v := .ref cx) rfl dX5_leaveOutClose_98 ?_
            refine lv_iload_n hx hb dX5_leaveOutClose_101 rfl (lv_at hl 4 rfl) ?_
            refine g_iald (i := i) (v := (X i)) hx hb hK hP 2 rfl (by decide) (by omega) (hX i (by omega)) dX5_leaveOutClose_102 ?_
            refine lv_aload_n hx hb dX5_leaveOutClose_103 rfl (lv_at hl 1 rfl) ?_
            refine g_get (C := RX5) (T := TX5) (N := 4) F hK hP i_X5_leaveOutClose_X5 0 rfl rfl 1 (by decide) k_X5_leaveOutClose_f21 (v := .ref cp) rfl dX5_leaveOutClose_104 ?_
            refine g_get (C := RX3) (T := TX3) (N := 3) F hK hP i_X5_leaveOutClose_X3 1 rfl rfl 1 (by decide) k_X5_leaveOutClose_f80 (v := .ref cy) rfl dX5_leaveOutClose_107 ?_
            refine lv_iload_n hx hb dX5_leaveOutClose_110 rfl (lv_at hl 4 rfl) ?_
            refine g_iald (i := i) (v := (Y i)) hx hb hK hP 3 rfl (by decide) (by omega) (hY i (by omega)) dX5_leaveOutClose_111 ?_
            refine g_VV (wr := [gO ro 5 [.ref lo, .ref cp, .ref sp, .int (nI yr)], gO cp 3 [.ref cx, .ref cy, .int (nI n)], gI g cx 48 fx, gI g cy 48 fy]) (As := [.int (X i), .int (Y i)]) (rest := []) (n := 2) F (c_X3_add l g sp dx dy mm hx_ hy_ (X i) (Y i) (by omega)) gX5_leaveOutClose_X3_add rfl (by decide) ⟨by decide, by decide⟩ 4 3 rfl rfl rfl rfl hl.1 rfl (Nat.le_of_ble_eq_true rfl) dX5_leaveOutClose_112 ⟨Nat.le_of_ble_eq_true rfl, Nat.le_of_ble_eq_true rfl⟩ hK hP hD hS hA [4, 5, 6] [0, 1, 2, 3] (by decide) rfl rfl (by decide) (by decide) (fun u_112 H locs hw_112 hP hD hS => ?_)
            have hP : gP g [gO ro 5 [.ref lo, .ref cp, .ref sp, .int (nI yr)], gO cp 3 [.ref cx, .ref cy, .int (nI n)], gI g cx 48 fx, gI g cy 48 fy, gO sp 3 [.ref dx, .ref dy, .int (nI (mm + 1))], gI g dx 48 (upd hx_ mm (X i)), gI g dy 48 (upd hy_ mm (Y i))] H := hP
            have hD : va_D A [gO ro 5 [.ref lo, .ref cp, .ref sp, .int (nI yr)], gO cp 3 [.ref cx, .ref cy, .int (nI n)], gI g cx 48 fx, gI g cy 48 fy, gO sp 3 [.ref dx, .ref dy, .int (nI (mm + 1))], gI g dx 48 (upd hx_ mm (X i)), gI g dy 48 (upd hy_ mm (Y i))] := hD
            refine lv_iinc (v := (nI (i + 1))) (lv' := [(3, .int (nI (i + 1))), (4, .int 0), (0, .ref ro), (1, .int (nI (n - 1))), (2, .int (nI t))]) hx hb dX5_leaveOutClose_115 hl (k := 4) rfl (g_inc i 1 (by decide)) (by decide) rfl (fun ls hl => ?_)
            refine lv_goto (tgt := 28) hx hb dX5_leaveOutClose_118 (by decide) ?_
            have he := cls_in (X := X) (Y := Y) (n := n) (i := i) (fun hz => absurd hz.1 (by omega))
            exact ih_28 (i + 1) (mm + 1) t (upd hx_ mm (X i)) (upd hy_ mm (Y i)) ls _ _ (by omega) (by omega) (by rw [he, hm]) (by rw [he]; exact ht) (by rw [he]; subst hm; exact upd_v h1) (by rw [he]; subst hm; exact upd_v h2) (lv_sub hl [2, 3, 4, 0] rfl) hP hD hS
          · refine lv_iconst (v := 1) hx hb dX5_leaveOutClose_42 (by decide) ?_
            refine lv_goto (tgt := 47) hx hb dX5_leaveOutClose_43 (by decide) ?_
            refine lv_istore (lv' := [(4, .int 1), (0, .ref ro), (1, .int (nI (n - 1))), (2, .int (nI t)), (3, .int (nI i))]) hx hb dX5_leaveOutClose_47 hl (by decide) rfl (fun ls hl => ?_)
            refine lv_iload hx hb dX5_leaveOutClose_49 (lv_at hl 0 rfl) ?_
            refine lv_if_eq (tgt := 90) hx hb dX5_leaveOutClose_51 (by decide) (fun h => absurd h (by decide)) (fun _ => ?_)
            refine lv_iload_n hx hb dX5_leaveOutClose_54 rfl (lv_at hl 3 rfl) ?_
            refine lv_iconst (v := 4) hx hb dX5_leaveOutClose_55 (by decide) ?_
            refine n_icmp_le (a := t) (b := 4) (tgt := 90) hx hb dX5_leaveOutClose_56 (by decide) (by omega) (by omega) (fun c_56 => ?_) (fun c_56 => ?_)
            · refine lv_aload_n hx hb dX5_leaveOutClose_90 rfl (lv_at hl 1 rfl) ?_
              refine g_get (C := RX5) (T := TX5) (N := 4) F hK hP i_X5_leaveOutClose_X5 0 rfl rfl 2 (by decide) k_X5_leaveOutClose_f25 (v := .ref sp) rfl dX5_leaveOutClose_91 ?_
              refine lv_aload_n hx hb dX5_leaveOutClose_94 rfl (lv_at hl 1 rfl) ?_
              refine g_get (C := RX5) (T := TX5) (N := 4) F hK hP i_X5_leaveOutClose_X5 0 rfl rfl 1 (by decide) k_X5_leaveOutClose_f21 (v := .ref cp) rfl dX5_leaveOutClose_95 ?_
              refine g_get (C := RX3) (T := TX3) (N := 3) F hK hP i_X5_leaveOutClose_X3 1 rfl rfl 0 (by decide) k_X5_leaveOutClose_f76 (v := .ref cx) rfl dX5_leaveOutClose_98 ?_
              refine lv_iload_n hx hb dX5_leaveOutClose_101 rfl (lv_at hl 4 rfl) ?_
              refine g_iald (i := i) (v := (X i)) hx hb hK hP 2 rfl (by decide) (by omega) (hX i (by omega)) dX5_leaveOutClose_102 ?_
              refine lv_aload_n hx hb dX5_leaveOutClose_103 rfl (lv_at hl 1 rfl) ?_
              refine g_get (C := RX5) (T := TX5) (N := 4) F hK hP i_X5_leaveOutClose_X5 0 rfl rfl 1 (by decide) k_X5_leaveOutClose_f21 (v := .ref cp) rfl dX5_leaveOutClose_104 ?_
              refine g_get (C := RX3) (T := TX3) (N := 3) F hK hP i_X5_leaveOutClose_X3 1 rfl rfl 1 (by decide) k_X5_leaveOutClose_f80 (v := .ref cy) rfl dX5_leaveOutClose_107 ?_
              refine lv_iload_n hx hb dX5_leaveOutClose_110 rfl (lv_at hl 4 rfl) ?_
              refine g_iald (i := i) (v := (Y i)) hx hb hK hP 3 rfl (by decide) (by omega) (hY i (by omega)) dX5_leaveOutClose_111 ?_
              refine g_VV (wr := [gO ro 5 [.ref lo, .ref cp, .ref sp, .int (nI yr)], gO cp 3 [.ref cx, .ref cy, .int (nI n)], gI g cx 48 fx, gI g cy 48 fy]) (As := [.int (X i), .int (Y i)]) (rest := []) (n := 2) F (c_X3_add l g sp dx dy mm hx_ hy_ (X i) (Y i) (by omega)) gX5_leaveOutClose_X3_add rfl (by decide) ⟨by decide, by decide⟩ 4 3 rfl rfl rfl rfl hl.1 rfl (Nat.le_of_ble_eq_true rfl) dX5_leaveOutClose_112 ⟨Nat.le_of_ble_eq_true rfl, Nat.le_of_ble_eq_true rfl⟩ hK hP hD hS hA [4, 5, 6] [0, 1, 2, 3] (by decide) rfl rfl (by decide) (by decide) (fun u_112 H locs hw_112 hP hD hS => ?_)
              have hP : gP g [gO ro 5 [.ref lo, .ref cp, .ref sp, .int (nI yr)], gO cp 3 [.ref cx, .ref cy, .int (nI n)], gI g cx 48 fx, gI g cy 48 fy, gO sp 3 [.ref dx, .ref dy, .int (nI (mm + 1))], gI g dx 48 (upd hx_ mm (X i)), gI g dy 48 (upd hy_ mm (Y i))] H := hP
              have hD : va_D A [gO ro 5 [.ref lo, .ref cp, .ref sp, .int (nI yr)], gO cp 3 [.ref cx, .ref cy, .int (nI n)], gI g cx 48 fx, gI g cy 48 fy, gO sp 3 [.ref dx, .ref dy, .int (nI (mm + 1))], gI g dx 48 (upd hx_ mm (X i)), gI g dy 48 (upd hy_ mm (Y i))] := hD
              refine lv_iinc (v := (nI (i + 1))) (lv' := [(3, .int (nI (i + 1))), (4, .int 1), (0, .ref ro), (1, .int (nI (n - 1))), (2, .int (nI t))]) hx hb dX5_leaveOutClose_115 hl (k := 4) rfl (g_inc i 1 (by decide)) (by decide) rfl (fun ls hl => ?_)
              refine lv_goto (tgt := 28) hx hb dX5_leaveOutClose_118 (by decide) ?_
              have he := cls_in (X := X) (Y := Y) (n := n) (i := i) (fun hz => absurd hz.2.1 (by omega))
              exact ih_28 (i + 1) (mm + 1) t (upd hx_ mm (X i)) (upd hy_ mm (Y i)) ls _ _ (by omega) (by omega) (by rw [he, hm]) (by rw [he]; exact ht) (by rw [he]; subst hm; exact upd_v h1) (by rw [he]; subst hm; exact upd_v h2) (lv_sub hl [2, 3, 4, 0] rfl) hP hD hS
            · refine lv_aload_n hx hb dX5_leaveOutClose_59 rfl (lv_at hl 1 rfl) ?_
              refine lv_aload_n hx hb dX5_leaveOutClose_60 rfl (lv_at hl 1 rfl) ?_
              refine g_get (C := RX5) (T := TX5) (N := 4) F hK hP i_X5_leaveOutClose_X5 0 rfl rfl 1 (by decide) k_X5_leaveOutClose_f21 (v := .ref cp) rfl dX5_leaveOutClose_61 ?_
              refine g_get (C := RX3) (T := TX3) (N := 3) F hK hP i_X5_leaveOutClose_X3 1 rfl rfl 0 (by decide) k_X5_leaveOutClose_f76 (v := .ref cx) rfl dX5_leaveOutClose_64 ?_
              refine lv_iload_n hx hb dX5_leaveOutClose_67 rfl (lv_at hl 4 rfl) ?_
              refine g_iald (i := i) (v := (X i)) hx hb hK hP 2 rfl (by decide) (by omega) (hX i (by omega)) dX5_leaveOutClose_68 ?_
              refine lv_aload_n hx hb dX5_leaveOutClose_69 rfl (lv_at hl 1 rfl) ?_
              refine g_get (C := RX5) (T := TX5) (N := 4) F hK hP i_X5_leaveOutClose_X5 0 rfl rfl 1 (by decide) k_X5_leaveOutClose_f21 (v := .ref cp) rfl dX5_leaveOutClose_70 ?_
              refine g_get (C := RX3) (T := TX3) (N := 3) F hK hP i_X5_leaveOutClose_X3 1 rfl rfl 1 (by decide) k_X5_leaveOutClose_f80 (v := .ref cy) rfl dX5_leaveOutClose_73 ?_
              refine lv_iload_n hx hb dX5_leaveOutClose_76 rfl (lv_at hl 4 rfl) ?_
              refine g_iald (i := i) (v := (Y i)) hx hb hK hP 3 rfl (by decide) (by omega) (hY i (by omega)) dX5_leaveOutClose_77 ?_
              refine g_VI (wr := [gO cp 3 [.ref cx, .ref cy, .int (nI n)], gI g cx 48 fx, gI g cy 48 fy]) (As := [.int (X i), .int (Y i)]) (rest := []) (n := 2) F (c_X5_isCloseToKept l g ro lo cp sp yr dx dy mm hx_ hy_ ((clsS X Y n i).2.1) ((clsS X Y n i).2.2.1) (X i) (Y i) (by omega) (h1) (h2)) gX5_leaveOutClose_X5_isCloseToKept rfl (by decide) ⟨by decide, by decide⟩ 0 5 rfl rfl rfl rfl hl.1 rfl (Nat.le_of_ble_eq_true rfl) dX5_leaveOutClose_78 ⟨Nat.le_of_ble_eq_true rfl, Nat.le_of_ble_eq_true rfl⟩ hK hP hD hS hA [0, 4, 5, 6] [1, 2, 3] (by decide) rfl rfl (by decide) (by decide) (fun r_78 u_78 H locs hw_78 hP hD hS => ?_)
              have hP : gP g [gO cp 3 [.ref cx, .ref cy, .int (nI n)], gI g cx 48 fx, gI g cy 48 fy, gO ro 5 [.ref lo, .ref cp, .ref sp, .int (nI yr)], gO sp 3 [.ref dx, .ref dy, .int (nI mm)], gI g dx 48 hx_, gI g dy 48 hy_] H := hP
              have hD : va_D A [gO cp 3 [.ref cx, .ref cy, .int (nI n)], gI g cx 48 fx, gI g cy 48 fy, gO ro 5 [.ref lo, .ref cp, .ref sp, .int (nI yr)], gO sp 3 [.ref dx, .ref dy, .int (nI mm)], gI g dx 48 hx_, gI g dy 48 hy_] := hD
              rcases hw_78 with ⟨rfl, b_78⟩ | ⟨rfl, b_78⟩
              · refine lv_if_eq (tgt := 90) hx hb dX5_leaveOutClose_81 (by decide) (fun h => absurd h (by decide)) (fun _ => ?_)
                refine lv_iinc (v := (nI (t - 1))) (lv' := [(2, .int (nI (t - 1))), (4, .int 1), (0, .ref ro), (1, .int (nI (n - 1))), (3, .int (nI i))]) hx hb dX5_leaveOutClose_84 hl (k := 3) rfl (g_dec (show 1 ≤ t by omega)) (by decide) rfl (fun ls hl => ?_)
                refine lv_goto (tgt := 115) hx hb dX5_leaveOutClose_87 (by decide) ?_
                refine lv_iinc (v := (nI (i + 1))) (lv' := [(3, .int (nI (i + 1))), (2, .int (nI (t - 1))), (4, .int 1), (0, .ref ro), (1, .int (nI (n - 1)))]) hx hb dX5_leaveOutClose_115 hl (k := 4) rfl (g_inc i 1 (by decide)) (by decide) rfl (fun ls hl => ?_)
                refine lv_goto (tgt := 28) hx hb dX5_leaveOutClose_118 (by decide) ?_
                have he := cls_out (X := X) (Y := Y) (n := n) (i := i) ⟨⟨by omega, by omega⟩, by omega, by rw [← hm]; exact b_78.2⟩
                exact ih_28 (i + 1) mm (t - 1) hx_ hy_ ls _ _ (by omega) (by omega) (by rw [he]; exact hm) (by rw [he, ht]) (by rw [he]; exact h1) (by rw [he]; exact h2) (lv_sub hl [3, 4, 1, 0] rfl) (hP.sub [3, 0, 1, 2, 4, 5, 6] rfl) (hD.sub [3, 0, 1, 2, 4, 5, 6] (by decide) rfl) hS
              · refine lv_if_eq (tgt := 90) hx hb dX5_leaveOutClose_81 (by decide) (fun _ => ?_) (fun h => absurd (by decide) h)
                refine lv_aload_n hx hb dX5_leaveOutClose_90 rfl (lv_at hl 1 rfl) ?_
                refine g_get (C := RX5) (T := TX5) (N := 4) F hK hP i_X5_leaveOutClose_X5 3 rfl rfl 2 (by decide) k_X5_leaveOutClose_f25 (v := .ref sp) rfl dX5_leaveOutClose_91 ?_
                refine lv_aload_n hx hb dX5_leaveOutClose_94 rfl (lv_at hl 1 rfl) ?_
                refine g_get (C := RX5) (T := TX5) (N := 4) F hK hP i_X5_leaveOutClose_X5 3 rfl rfl 1 (by decide) k_X5_leaveOutClose_f21 (v := .ref cp) rfl dX5_leaveOutClose_95 ?_
                refine g_get (C := RX3) (T := TX3) (N := 3) F hK hP i_X5_leaveOutClose_X3 0 rfl rfl 0 (by decide) k_X5_leaveOutClose_f76 (v := .ref cx) rfl dX5_leaveOutClose_98 ?_
                refine lv_iload_n hx hb dX5_leaveOutClose_101 rfl (lv_at hl 4 rfl) ?_
                refine g_iald (i := i) (v := (X i)) hx hb hK hP 1 rfl (by decide) (by omega) (hX i (by omega)) dX5_leaveOutClose_102 ?_
                refine lv_aload_n hx hb dX5_leaveOutClose_103 rfl (lv_at hl 1 rfl) ?_
                refine g_get (C := RX5) (T := TX5) (N := 4) F hK hP i_X5_leaveOutClose_X5 3 rfl rfl 1 (by decide) k_X5_leaveOutClose_f21 (v := .ref cp) rfl dX5_leaveOutClose_104 ?_
                refine g_get (C := RX3) (T := TX3) (N := 3) F hK hP i_X5_leaveOutClose_X3 0 rfl rfl 1 (by decide) k_X5_leaveOutClose_f80 (v := .ref cy) rfl dX5_leaveOutClose_107 ?_
                refine lv_iload_n hx hb dX5_leaveOutClose_110 rfl (lv_at hl 4 rfl) ?_
                refine g_iald (i := i) (v := (Y i)) hx hb hK hP 2 rfl (by decide) (by omega) (hY i (by omega)) dX5_leaveOutClose_111 ?_
                refine g_VV (wr := [gO cp 3 [.ref cx, .ref cy, .int (nI n)], gI g cx 48 fx, gI g cy 48 fy, gO ro 5 [.ref lo, .ref cp, .ref sp, .int (nI yr)]]) (As := [.int (X i), .int (Y i)]) (rest := []) (n := 2) F (c_X3_add l g sp dx dy mm hx_ hy_ (X i) (Y i) (by omega)) gX5_leaveOutClose_X3_add rfl (by decide) ⟨by decide, by decide⟩ 4 3 rfl rfl rfl rfl hl.1 rfl (Nat.le_of_ble_eq_true rfl) dX5_leaveOutClose_112 ⟨Nat.le_of_ble_eq_true rfl, Nat.le_of_ble_eq_true rfl⟩ hK hP hD hS hA [4, 5, 6] [0, 1, 2, 3] (by decide) rfl rfl (by decide) (by decide) (fun u_112 H locs hw_112 hP hD hS => ?_)
                have hP : gP g [gO cp 3 [.ref cx, .ref cy, .int (nI n)], gI g cx 48 fx, gI g cy 48 fy, gO ro 5 [.ref lo, .ref cp, .ref sp, .int (nI yr)], gO sp 3 [.ref dx, .ref dy, .int (nI (mm + 1))], gI g dx 48 (upd hx_ mm (X i)), gI g dy 48 (upd hy_ mm (Y i))] H := hP
                have hD : va_D A [gO cp 3 [.ref cx, .ref cy, .int (nI n)], gI g cx 48 fx, gI g cy 48 fy, gO ro 5 [.ref lo, .ref cp, .ref sp, .int (nI yr)], gO sp 3 [.ref dx, .ref dy, .int (nI (mm + 1))], gI g dx 48 (upd hx_ mm (X i)), gI g dy 48 (upd hy_ mm (Y i))] := hD
                refine lv_iinc (v := (nI (i + 1))) (lv' := [(3, .int (nI (i + 1))), (4, .int 1), (0, .ref ro), (1, .int (nI (n - 1))), (2, .int (nI t))]) hx hb dX5_leaveOutClose_115 hl (k := 4) rfl (g_inc i 1 (by decide)) (by decide) rfl (fun ls hl => ?_)
                refine lv_goto (tgt := 28) hx hb dX5_leaveOutClose_118 (by decide) ?_
                have he := cls_in (X := X) (Y := Y) (n := n) (i := i) (fun hz => b_78 ⟨by omega, by rw [hm]; exact hz.2.2⟩)
                exact ih_28 (i + 1) (mm + 1) t (upd hx_ mm (X i)) (upd hy_ mm (Y i)) ls _ _ (by omega) (by omega) (by rw [he, hm]) (by rw [he]; exact ht) (by rw [he]; subst hm; exact upd_v h1) (by rw [he]; subst hm; exact upd_v h2) (lv_sub hl [2, 3, 4, 0] rfl) (hP.sub [3, 0, 1, 2, 4, 5, 6] rfl) (hD.sub [3, 0, 1, 2, 4, 5, 6] (by decide) rfl) hS
  exact L28 ((n - 0) + 1) 0 0 n gx gy ls _ _ (Nat.lt_succ_self _) (by omega) (rfl) (rfl) (fun k hk => absurd hk (Nat.not_lt_zero k)) (fun k hk => absurd hk (Nat.not_lt_zero k)) (lv_sub hl [3, 2, 1, 0] rfl) hP hD hS

abbrev rm_X5_fillLong : Room := { frames := 2, cells := 0, slots := 0, locals := 45 }
theorem i_X5_fillLong_X5 : ∀ w ∈ wsX50, w ∈ wsX5_fillLong := by decide +kernel
theorem k_X5_fillLong_f21 : Cond.fieldLink RX5 21 (TX5 1).1 (TX5 1).2.1 (TX5 1).2.2.1 ∈ wsX5_fillLong := by decide +kernel
theorem i_X5_fillLong_X3 : ∀ w ∈ wsX30, w ∈ wsX5_fillLong := by decide +kernel
theorem k_X5_fillLong_f55 : Cond.fieldLink RX5 55 (TX3 2).1 (TX3 2).2.1 (TX3 2).2.2.1 ∈ wsX5_fillLong := by decide +kernel
theorem k_X5_fillLong_f25 : Cond.fieldLink RX5 25 (TX5 2).1 (TX5 2).2.1 (TX5 2).2.2.1 ∈ wsX5_fillLong := by decide +kernel
theorem k_X5_fillLong_f76 : Cond.fieldLink RX5 76 (TX3 0).1 (TX3 0).2.1 (TX3 0).2.2.1 ∈ wsX5_fillLong := by decide +kernel
theorem k_X5_fillLong_f80 : Cond.fieldLink RX5 80 (TX3 1).1 (TX3 1).2.1 (TX3 1).2.2.1 ∈ wsX5_fillLong := by decide +kernel
set_option maxHeartbeats 4000000 in
set_option maxRecDepth 100000 in
theorem c_X5_fillLong (l : Launch) (g : gT) (ro : Nat) (lo : Nat) (cp : Nat) (sp : Nat) (yr : Nat) (cx : Nat) (cy : Nat) (n : Nat) (fx : Nat → Int32) (fy : Nat → Int32) (X : Nat → Int32) (Y : Nat → Int32) (dx : Nat) (dy : Nat) (n2 : Nat) (gx : Nat → Int32) (gy : Nat → Int32) (d : Int32) (hn : n ≤ 48) (hX : ∀ k, k < n → fx k = X k) (hY : ∀ k, k < n → fy k = Y k) (h1n : 1 ≤ n) : CtV l g yX5_fillLong wsX5_fillLong rm_X5_fillLong [.ref ro, .int d] [gO ro 5 [.ref lo, .ref cp, .ref sp, .int (nI yr)], gO cp 3 [.ref cx, .ref cy, .int (nI n)], gI g cx 48 fx, gI g cy 48 fy, gO sp 3 [.ref dx, .ref dy, .int (nI n2)], gI g dx 48 gx, gI g dy 48 gy] (fun (u : (Nat → Int32) × (Nat → Int32)) => (∀ k, k < (lngS X Y n d n).1 → u.1 k = (lngS X Y n d n).2.1 k) ∧ (∀ k, k < (lngS X Y n d n).1 → u.2 k = (lngS X Y n d n).2.2.1 k)) (fun (u : (Nat → Int32) × (Nat → Int32)) => [gO ro 5 [.ref lo, .ref sp, .ref cp, .int (nI yr)], gO cp 3 [.ref cx, .ref cy, .int (nI n)], gI g cx 48 fx, gI g cy 48 fy, gO sp 3 [.ref dx, .ref dy, .int (nI ((lngS X Y n d n).1))], gI g dx 48 u.1, gI g dy 48 u.2]) := by
  refine CtV.of (cc := cX5_fillLong) (maxL := 6) (by decide) rfl (Nat.le_of_ble_eq_true rfl) ?_
  intro p e s m args below meth c A Q hnm F hK hA hP hD hS hret ls hl
  have hx := F.1
  have hb := F.2.1
  have hl : lv_has ls 6 [(0, .ref ro), (1, .int d)] := hl
  refine lv_aload_n hx hb dX5_fillLong_0 rfl (lv_at hl 0 rfl) ?_
  refine g_get (C := RX5) (T := TX5) (N := 4) F hK hP i_X5_fillLong_X5 0 rfl rfl 1 (by decide) k_X5_fillLong_f21 (v := .ref cp) rfl dX5_fillLong_1 ?_
  refine g_get (C := RX3) (T := TX3) (N := 3) F hK hP i_X5_fillLong_X3 1 rfl rfl 2 (by decide) k_X5_fillLong_f55 (v := .int (nI n)) rfl dX5_fillLong_4 ?_
  refine lv_istore_n (lv' := [(2, .int (nI n)), (0, .ref ro), (1, .int d)]) hx hb dX5_fillLong_7 rfl hl (by decide) rfl (fun ls hl => ?_)
  refine lv_aload_n hx hb dX5_fillLong_8 rfl (lv_at hl 1 rfl) ?_
  refine g_get (C := RX5) (T := TX5) (N := 4) F hK hP i_X5_fillLong_X5 0 rfl rfl 2 (by decide) k_X5_fillLong_f25 (v := .ref sp) rfl dX5_fillLong_9 ?_
  refine lv_iconst (v := 0) hx hb dX5_fillLong_12 (by decide) ?_
  refine g_put (C := RX3) (T := TX3) (N := 3) (ws2 := [gO ro 5 [.ref lo, .ref cp, .ref sp, .int (nI yr)], gO cp 3 [.ref cx, .ref cy, .int (nI n)], gI g cx 48 fx, gI g cy 48 fy, gO sp 3 [.ref dx, .ref dy, .int 0], gI g dx 48 gx, gI g dy 48 gy]) F hK hP hD hS i_X5_fillLong_X3 tyX3 tyX3_ok nmX3 4 rfl rfl 2 (by decide) k_X5_fillLong_f55 rfl (v := .int 0) rfl rfl (Nat.le_of_ble_eq_true rfl) rfl dX5_fillLong_13 (fun H locs hP hD hS => ?_)
  refine lv_iconst (v := 0) hx hb dX5_fillLong_16 (by decide) ?_
  refine lv_istore_n (lv' := [(3, .int 0), (2, .int (nI n)), (0, .ref ro), (1, .int d)]) hx hb dX5_fillLong_17 rfl hl (by decide) rfl (fun ls hl => ?_)
  have L18 : ∀ (fuel : Nat) (i : Nat) (mm : Nat) (t : Nat) (hx_ : Nat → Int32) (hy_ : Nat → Int32) (ls : Array Slot) (H : Heap) (locs : List Loc), n - i < fuel → (i ≤ n) → (mm = (lngS X Y n d i).1) → (t = (lngS X Y n d i).2.2.2) → (∀ k, k < mm → hx_ k = (lngS X Y n d i).2.1 k) → (∀ k, k < mm → hy_ k = (lngS X Y n d i).2.2.1 k) → lv_has ls 6 [(0, .ref ro), (1, .int d), (2, .int (nI t)), (3, .int (nI i))] → gP g [gO ro 5 [.ref lo, .ref cp, .ref sp, .int (nI yr)], gO cp 3 [.ref cx, .ref cy, .int (nI n)], gI g cx 48 fx, gI g cy 48 fy, gO sp 3 [.ref dx, .ref dy, .int (nI mm)], gI g dx 48 hx_, gI g dy 48 hy_] H → va_D A [gO ro 5 [.ref lo, .ref cp, .ref sp, .int (nI yr)], gO cp 3 [.ref cx, .ref cy, .int (nI n)], gI g cx 48 fx, gI g cy 48 fy, gO sp 3 [.ref dx, .ref dy, .int (nI mm)], gI g dx 48 hx_, gI g dy 48 hy_] → va_S A s.heap H locs → W p l e rm_X5_fillLong s m args below meth c H locs 0 0 Q (F0 m 18 ls []) := by
    intro fuel
    induction fuel with
    | zero => intro i mm t hx_ hy_ _ _ _ hk; exact absurd hk (Nat.not_lt_zero _)
    | succ fuel_18 ih_18 =>
      intro i mm t hx_ hy_ ls H locs hk_18 hi hm ht h1 h2 hl hP hD hS
      have hiv := lng_inv X Y d hn i hi
      refine lv_iload_n hx hb dX5_fillLong_18 rfl (lv_at hl 3 rfl) ?_
      refine lv_aload_n hx hb dX5_fillLong_19 rfl (lv_at hl 0 rfl) ?_
      refine g_get (C := RX5) (T := TX5) (N := 4) F hK hP i_X5_fillLong_X5 0 rfl rfl 1 (by decide) k_X5_fillLong_f21 (v := .ref cp) rfl dX5_fillLong_20 ?_
      refine g_get (C := RX3) (T := TX3) (N := 3) F hK hP i_X5_fillLong_X3 1 rfl rfl 2 (by decide) k_X5_fillLong_f55 (v := .int (nI n)) rfl dX5_fillLong_23 ?_
      refine n_icmp_ge (a := i) (b := n) (tgt := 138) hx hb dX5_fillLong_26 (by decide) (by omega) (by omega) (fun c_26 => ?_) (fun c_26 => ?_)
      · obtain rfl : n = i := by omega
        obtain rfl : (lngS X Y n d n).1 = mm := hm.symm
        refine lv_aload_n hx hb dX5_fillLong_138 rfl (lv_at hl 0 rfl) ?_
        refine g_VV (wr := [gO cp 3 [.ref cx, .ref cy, .int (nI n)], gI g cx 48 fx, gI g cy 48 fy, gO sp 3 [.ref dx, .ref dy, .int (nI ((lngS X Y n d n).1))], gI g dx 48 hx_, gI g dy 48 hy_]) (As := []) (rest := []) (n := 0) F (c_X5_takeSpare l g ro lo cp sp yr) gX5_fillLong_X5_takeSpare rfl (by decide) ⟨by decide, by decide⟩ 0 5 rfl rfl rfl rfl hl.1 rfl (Nat.le_of_ble_eq_true rfl) dX5_fillLong_139 ⟨Nat.le_of_ble_eq_true rfl, Nat.le_of_ble_eq_true rfl⟩ hK hP hD hS hA [0] [1, 2, 3, 4, 5, 6] (by decide) rfl rfl (by decide) (by decide) (fun u_139 H locs hw_139 hP hD hS => ?_)
        have hP : gP g [gO cp 3 [.ref cx, .ref cy, .int (nI n)], gI g cx 48 fx, gI g cy 48 fy, gO sp 3 [.ref dx, .ref dy, .int (nI ((lngS X Y n d n).1))], gI g dx 48 hx_, gI g dy 48 hy_, gO ro 5 [.ref lo, .ref sp, .ref cp, .int (nI yr)]] H := hP
        have hD : va_D A [gO cp 3 [.ref cx, .ref cy, .int (nI n)], gI g cx 48 fx, gI g cy 48 fy, gO sp 3 [.ref dx, .ref dy, .int (nI ((lngS X Y n d n).1))], gI g dx 48 hx_, gI g dy 48 hy_, gO ro 5 [.ref lo, .ref sp, .ref cp, .int (nI yr)]] := hD
        have hP9 := hP.sub (ws' := [gO ro 5 [.ref lo, .ref sp, .ref cp, .int (nI yr)], gO cp 3 [.ref cx, .ref cy, .int (nI n)], gI g cx 48 fx, gI g cy 48 fy, gO sp 3 [.ref dx, .ref dy, .int (nI ((lngS X Y n d n).1))], gI g dx 48 hx_, gI g dy 48 hy_]) [6, 0, 1, 2, 3, 4, 5] rfl
        have hD9 := hD.sub (ws' := [gO ro 5 [.ref lo, .ref sp, .ref cp, .int (nI yr)], gO cp 3 [.ref cx, .ref cy, .int (nI n)], gI g cx 48 fx, gI g cy 48 fy, gO sp 3 [.ref dx, .ref dy, .int (nI ((lngS X Y n d n).1))], gI g dx 48 hx_, gI g dy 48 hy_]) [6, 0, 1, 2, 3, 4, 5] (by decide) rfl
        exact hret _ _ _ _ (hx_, hy_) dX5_fillLong_142 (⟨h1, h2⟩) hP9 hD9 hS
      · refine lv_aload_n hx hb dX5_fillLong_29 rfl (lv_at hl 0 rfl) ?_
        refine g_get (C := RX5) (T := TX5) (N := 4) F hK hP i_X5_fillLong_X5 0 rfl rfl 1 (by decide) k_X5_fillLong_f21 (v := .ref cp) rfl dX5_fillLong_30 ?_
        refine g_get (C := RX3) (T := TX3) (N := 3) F hK hP i_X5_fillLong_X3 1 rfl rfl 0 (by decide) k_X5_fillLong_f76 (v := .ref cx) rfl dX5_fillLong_33 ?_
        refine lv_iload_n hx hb dX5_fillLong_36 rfl (lv_at hl 3 rfl) ?_
        refine g_iald (i := i) (v := (X i)) hx hb hK hP 2 rfl (by decide) (by omega) (hX i (by omega)) dX5_fillLong_37 ?_
        refine lv_istore (lv' := [(4, .int (X i)), (0, .ref ro), (1, .int d), (2, .int (nI t)), (3, .int (nI i))]) hx hb dX5_fillLong_38 hl (by decide) rfl (fun ls hl => ?_)
        refine lv_aload_n hx hb dX5_fillLong_40 rfl (lv_at hl 1 rfl) ?_
        refine g_get (C := RX5) (T := TX5) (N := 4) F hK hP i_X5_fillLong_X5 0 rfl rfl 1 (by decide) k_X5_fillLong_f21 (v := .ref cp) rfl dX5_fillLong_41 ?_
        refine g_get (C := RX3) (T := TX3) (N := 3) F hK hP i_X5_fillLong_X3 1 rfl rfl 1 (by decide) k_X5_fillLong_f80 (v := .ref cy) rfl dX5_fillLong_44 ?_
        refine lv_iload_n hx hb dX5_fillLong_47 rfl (lv_at hl 4 rfl) ?_
        refine g_iald (i := i) (v := (Y i)) hx hb hK hP 3 rfl (by decide) (by omega) (hY i (by omega)) dX5_fillLong_48 ?_
        refine lv_istore (lv' := [(5, .int (Y i)), (4, .int (X i)), (0, .ref ro), (1, .int d), (2, .int (nI t)), (3, .int (nI i))]) hx hb dX5_fillLong_49 hl (by decide) rfl (fun ls hl => ?_)
        refine lv_iload_n hx hb dX5_fillLong_51 rfl (lv_at hl 5 rfl) ?_
        refine n_if_le (a := i) (tgt := 121) hx hb dX5_fillLong_52 (by decide) (by omega) (fun c_52 => ?_) (fun c_52 => ?_)
        · refine lv_aload_n hx hb dX5_fillLong_121 rfl (lv_at hl 2 rfl) ?_
          refine g_get (C := RX5) (T := TX5) (N := 4) F hK hP i_X5_fillLong_X5 0 rfl rfl 2 (by decide) k_X5_fillLong_f25 (v := .ref sp) rfl dX5_fillLong_122 ?_
          refine lv_iload hx hb dX5_fillLong_125 (lv_at hl 1 rfl) ?_
          refine lv_iload hx hb dX5_fillLong_127 (lv_at hl 0 rfl) ?_
          refine g_VV (wr := [gO ro 5 [.ref lo, .ref cp, .ref sp, .int (nI yr)], gO cp 3 [.ref cx, .ref cy, .int (nI n)], gI g cx 48 fx, gI g cy 48 fy]) (As := [.int (X i), .int (Y i)]) (rest := []) (n := 2) F (c_X3_add l g sp dx dy mm hx_ hy_ (X i) (Y i) (by omega)) gX5_fillLong_X3_add rfl (by decide) ⟨by decide, by decide⟩ 4 3 rfl rfl rfl rfl hl.1 rfl (Nat.le_of_ble_eq_true rfl) dX5_fillLong_129 ⟨Nat.le_of_ble_eq_true rfl, Nat.le_of_ble_eq_true rfl⟩ hK hP hD hS hA [4, 5, 6] [0, 1, 2, 3] (by decide) rfl rfl (by decide) (by decide) (fun u_129 H locs hw_129 hP hD hS => ?_)
          have hP : gP g [gO ro 5 [.ref lo, .ref cp, .ref sp, .int (nI yr)], gO cp 3 [.ref cx, .ref cy, .int (nI n)], gI g cx 48 fx, gI g cy 48 fy, gO sp 3 [.ref dx, .ref dy, .int (nI (mm + 1))], gI g dx 48 (upd hx_ mm (X i)), gI g dy 48 (upd hy_ mm (Y i))] H := hP
          have hD : va_D A [gO ro 5 [.ref lo, .ref cp, .ref sp, .int (nI yr)], gO cp 3 [.ref cx, .ref cy, .int (nI n)], gI g cx 48 fx, gI g cy 48 fy, gO sp 3 [.ref dx, .ref dy, .int (nI (mm + 1))], gI g dx 48 (upd hx_ mm (X i)), gI g dy 48 (upd hy_ mm (Y i))] := hD
          refine lv_iinc (v := (nI (i + 1))) (lv' := [(3, .int (nI (i + 1))), (5, .int (Y i)), (4, .int (X i)), (0, .ref ro), (1, .int d), (2, .int (nI t))]) hx hb dX5_fillLong_132 hl (k := 5) rfl (g_inc i 1 (by decide)) (by decide) rfl (fun ls hl => ?_)
          refine lv_goto (tgt := 18) hx hb dX5_fillLong_135 (by decide) ?_
          have he := lng_one (X := X) (Y := Y) (n := n) (d := d) (i := i) (fun hz => absurd hz.1 (by omega))
          exact ih_18 (i + 1) (mm + 1) t (upd hx_ mm (X i)) (upd hy_ mm (Y i)) ls _ _ (by omega) (by omega) (by rw [he, hm]) (by rw [he]; exact ht) (by rw [he]; subst hm; exact upd_v h1) (by rw [he]; subst hm; exact upd_v h2) (lv_sub hl [3, 4, 5, 0] rfl) hP hD hS
        · refine lv_iload_n hx hb dX5_fillLong_55 rfl (lv_at hl 4 rfl) ?_
          refine lv_bipush (v := 48) hx hb dX5_fillLong_56 (by decide) ?_
          refine n_icmp_ge (a := t) (b := 48) (tgt := 121) hx hb dX5_fillLong_58 (by decide) (by omega) (by omega) (fun c_58 => ?_) (fun c_58 => ?_)
          · refine lv_aload_n hx hb dX5_fillLong_121 rfl (lv_at hl 2 rfl) ?_
            refine g_get (C := RX5) (T := TX5) (N := 4) F hK hP i_X5_fillLong_X5 0 rfl rfl 2 (by decide) k_X5_fillLong_f25 (v := .ref sp) rfl dX5_fillLong_122 ?_
            refine lv_iload hx hb dX5_fillLong_125 (lv_at hl 1 rfl) ?_
            refine lv_iload hx hb dX5_fillLong_127 (lv_at hl 0 rfl) ?_
            refine g_VV (wr := [gO ro 5 [.ref lo, .ref cp, .ref sp, .int (nI yr)], gO cp 3 [.ref cx, .ref cy, .int (nI n)], gI g cx 48 fx, gI g cy 48 fy]) (As := [.int (X i), .int (Y i)]) (rest := []) (n := 2) F (c_X3_add l g sp dx dy mm hx_ hy_ (X i) (Y i) (by omega)) gX5_fillLong_X3_add rfl (by decide) ⟨by decide, by decide⟩ 4 3 rfl rfl rfl rfl hl.1 rfl (Nat.le_of_ble_eq_true rfl) dX5_fillLong_129 ⟨Nat.le_of_ble_eq_true rfl, Nat.le_of_ble_eq_true rfl⟩ hK hP hD hS hA [4, 5, 6] [0, 1, 2, 3] (by decide) rfl rfl (by decide) (by decide) (fun u_129 H locs hw_129 hP hD hS => ?_)
            have hP : gP g [gO ro 5 [.ref lo, .ref cp, .ref sp, .int (nI yr)], gO cp 3 [.ref cx, .ref cy, .int (nI n)], gI g cx 48 fx, gI g cy 48 fy, gO sp 3 [.ref dx, .ref dy, .int (nI (mm + 1))], gI g dx 48 (upd hx_ mm (X i)), gI g dy 48 (upd hy_ mm (Y i))] H := hP
            have hD : va_D A [gO ro 5 [.ref lo, .ref cp, .ref sp, .int (nI yr)], gO cp 3 [.ref cx, .ref cy, .int (nI n)], gI g cx 48 fx, gI g cy 48 fy, gO sp 3 [.ref dx, .ref dy, .int (nI (mm + 1))], gI g dx 48 (upd hx_ mm (X i)), gI g dy 48 (upd hy_ mm (Y i))] := hD
            refine lv_iinc (v := (nI (i + 1))) (lv' := [(3, .int (nI (i + 1))), (5, .int (Y i)), (4, .int (X i)), (0, .ref ro), (1, .int d), (2, .int (nI t))]) hx hb dX5_fillLong_132 hl (k := 5) rfl (g_inc i 1 (by decide)) (by decide) rfl (fun ls hl => ?_)
            refine lv_goto (tgt := 18) hx hb dX5_fillLong_135 (by decide) ?_
            have he := lng_one (X := X) (Y := Y) (n := n) (d := d) (i := i) (fun hz => absurd hz.2.1 (by omega))
            exact ih_18 (i + 1) (mm + 1) t (upd hx_ mm (X i)) (upd hy_ mm (Y i)) ls _ _ (by omega) (by omega) (by rw [he, hm]) (by rw [he]; exact ht) (by rw [he]; subst hm; exact upd_v h1) (by rw [he]; subst hm; exact upd_v h2) (lv_sub hl [3, 4, 5, 0] rfl) hP hD hS
          · refine lv_aload_n hx hb dX5_fillLong_61 rfl (lv_at hl 2 rfl) ?_
            refine g_get (C := RX5) (T := TX5) (N := 4) F hK hP i_X5_fillLong_X5 0 rfl rfl 1 (by decide) k_X5_fillLong_f21 (v := .ref cp) rfl dX5_fillLong_62 ?_
            refine lv_iload_n hx hb dX5_fillLong_65 rfl (lv_at hl 5 rfl) ?_
            refine lv_iconst (v := 1) hx hb dX5_fillLong_66 (by decide) ?_
            refine n_isub (a := i) (b := 1) (d := i - 1) hx hb dX5_fillLong_67 (by omega) (by omega) ?_
            refine lv_iload hx hb dX5_fillLong_68 (lv_at hl 1 rfl) ?_
            refine lv_iload hx hb dX5_fillLong_70 (lv_at hl 0 rfl) ?_
            refine lv_iload_n hx hb dX5_fillLong_72 rfl (lv_at hl 3 rfl) ?_
            refine g_VI (wr := [gO ro 5 [.ref lo, .ref cp, .ref sp, .int (nI yr)], gO sp 3 [.ref dx, .ref dy, .int (nI mm)], gI g dx 48 hx_, gI g dy 48 hy_]) (As := [.int (nI (i - 1)), .int (X i), .int (Y i), .int d]) (rest := []) (n := 4) F (c_X3_isNear l g cp cx cy n fx fy X Y (i - 1) (X i) (Y i) d (by omega) (hX) (hY) (by omega)) gX5_fillLong_X3_isNear rfl (by decide) ⟨by decide, by decide⟩ 1 3 rfl rfl rfl rfl hl.1 rfl (Nat.le_of_ble_eq_true rfl) dX5_fillLong_73 ⟨Nat.le_of_ble_eq_true rfl, Nat.le_of_ble_eq_true rfl⟩ hK hP hD hS hA [1, 2, 3] [0, 4, 5, 6] (by decide) rfl rfl (by decide) (by decide) (fun r_73 u_73 H locs hw_73 hP hD hS => ?_)
            have hP : gP g [gO ro 5 [.ref lo, .ref cp, .ref sp, .int (nI yr)], gO sp 3 [.ref dx, .ref dy, .int (nI mm)], gI g dx 48 hx_, gI g dy 48 hy_, gO cp 3 [.ref cx, .ref cy, .int (nI n)], gI g cx 48 fx, gI g cy 48 fy] H := hP
            have hD : va_D A [gO ro 5 [.ref lo, .ref cp, .ref sp, .int (nI yr)], gO sp 3 [.ref dx, .ref dy, .int (nI mm)], gI g dx 48 hx_, gI g dy 48 hy_, gO cp 3 [.ref cx, .ref cy, .int (nI n)], gI g cx 48 fx, gI g cy 48 fy] := hD
            rcases hw_73 with ⟨rfl, b_73⟩ | ⟨rfl, b_73⟩
            · refine lv_if_ne (tgt := 121) hx hb dX5_fillLong_76 (by decide) (fun _ => ?_) (fun h => absurd h (by decide))
              refine lv_aload_n hx hb dX5_fillLong_121 rfl (lv_at hl 2 rfl) ?_
              refine g_get (C := RX5) (T := TX5) (N := 4) F hK hP i_X5_fillLong_X5 0 rfl rfl 2 (by decide) k_X5_fillLong_f25 (v := .ref sp) rfl dX5_fillLong_122 ?_
              refine lv_iload hx hb dX5_fillLong_125 (lv_at hl 1 rfl) ?_
              refine lv_iload hx hb dX5_fillLong_127 (lv_at hl 0 rfl) ?_
              refine g_VV (wr := [gO ro 5 [.ref lo, .ref cp, .ref sp, .int (nI yr)], gO cp 3 [.ref cx, .ref cy, .int (nI n)], gI g cx 48 fx, gI g cy 48 fy]) (As := [.int (X i), .int (Y i)]) (rest := []) (n := 2) F (c_X3_add l g sp dx dy mm hx_ hy_ (X i) (Y i) (by omega)) gX5_fillLong_X3_add rfl (by decide) ⟨by decide, by decide⟩ 1 3 rfl rfl rfl rfl hl.1 rfl (Nat.le_of_ble_eq_true rfl) dX5_fillLong_129 ⟨Nat.le_of_ble_eq_true rfl, Nat.le_of_ble_eq_true rfl⟩ hK hP hD hS hA [1, 2, 3] [0, 4, 5, 6] (by decide) rfl rfl (by decide) (by decide) (fun u_129 H locs hw_129 hP hD hS => ?_)
              have hP : gP g [gO ro 5 [.ref lo, .ref cp, .ref sp, .int (nI yr)], gO cp 3 [.ref cx, .ref cy, .int (nI n)], gI g cx 48 fx, gI g cy 48 fy, gO sp 3 [.ref dx, .ref dy, .int (nI (mm + 1))], gI g dx 48 (upd hx_ mm (X i)), gI g dy 48 (upd hy_ mm (Y i))] H := hP
              have hD : va_D A [gO ro 5 [.ref lo, .ref cp, .ref sp, .int (nI yr)], gO cp 3 [.ref cx, .ref cy, .int (nI n)], gI g cx 48 fx, gI g cy 48 fy, gO sp 3 [.ref dx, .ref dy, .int (nI (mm + 1))], gI g dx 48 (upd hx_ mm (X i)), gI g dy 48 (upd hy_ mm (Y i))] := hD
              refine lv_iinc (v := (nI (i + 1))) (lv' := [(3, .int (nI (i + 1))), (5, .int (Y i)), (4, .int (X i)), (0, .ref ro), (1, .int d), (2, .int (nI t))]) hx hb dX5_fillLong_132 hl (k := 5) rfl (g_inc i 1 (by decide)) (by decide) rfl (fun ls hl => ?_)
              refine lv_goto (tgt := 18) hx hb dX5_fillLong_135 (by decide) ?_
              have he := lng_one (X := X) (Y := Y) (n := n) (d := d) (i := i) (fun hz => hz.2.2 b_73)
              exact ih_18 (i + 1) (mm + 1) t (upd hx_ mm (X i)) (upd hy_ mm (Y i)) ls _ _ (by omega) (by omega) (by rw [he, hm]) (by rw [he]; exact ht) (by rw [he]; subst hm; exact upd_v h1) (by rw [he]; subst hm; exact upd_v h2) (lv_sub hl [3, 4, 5, 0] rfl) hP hD hS
            · refine lv_if_ne (tgt := 121) hx hb dX5_fillLong_76 (by decide) (fun h => absurd (by decide) h) (fun _ => ?_)
              refine lv_aload_n hx hb dX5_fillLong_79 rfl (lv_at hl 2 rfl) ?_
              refine g_get (C := RX5) (T := TX5) (N := 4) F hK hP i_X5_fillLong_X5 0 rfl rfl 2 (by decide) k_X5_fillLong_f25 (v := .ref sp) rfl dX5_fillLong_80 ?_
              refine lv_aload_n hx hb dX5_fillLong_83 rfl (lv_at hl 2 rfl) ?_
              refine g_get (C := RX5) (T := TX5) (N := 4) F hK hP i_X5_fillLong_X5 0 rfl rfl 1 (by decide) k_X5_fillLong_f21 (v := .ref cp) rfl dX5_fillLong_84 ?_
              refine g_get (C := RX3) (T := TX3) (N := 3) F hK hP i_X5_fillLong_X3 4 rfl rfl 0 (by decide) k_X5_fillLong_f76 (v := .ref cx) rfl dX5_fillLong_87 ?_
              refine lv_iload_n hx hb dX5_fillLong_90 rfl (lv_at hl 5 rfl) ?_
              refine lv_iconst (v := 1) hx hb dX5_fillLong_91 (by decide) ?_
              refine n_isub (a := i) (b := 1) (d := i - 1) hx hb dX5_fillLong_92 (by omega) (by omega) ?_
              refine g_iald (i := i - 1) (v := (X (i - 1))) hx hb hK hP 5 rfl (by decide) (by omega) (hX (i - 1) (by omega)) dX5_fillLong_93 ?_
              refine lv_iload hx hb dX5_fillLong_94 (lv_at hl 1 rfl) ?_
              refine lv_iadd hx hb dX5_fillLong_96 ?_
              refine lv_iconst (v := 2) hx hb dX5_fillLong_97 (by decide) ?_
              refine lv_idiv hx hb dX5_fillLong_98 (by decide) ?_
              refine lv_aload_n hx hb dX5_fillLong_99 rfl (lv_at hl 2 rfl) ?_
              refine g_get (C := RX5) (T := TX5) (N := 4) F hK hP i_X5_fillLong_X5 0 rfl rfl 1 (by decide) k_X5_fillLong_f21 (v := .ref cp) rfl dX5_fillLong_100 ?_
              refine g_get (C := RX3) (T := TX3) (N := 3) F hK hP i_X5_fillLong_X3 4 rfl rfl 1 (by decide) k_X5_fillLong_f80 (v := .ref cy) rfl dX5_fillLong_103 ?_
              refine lv_iload_n hx hb dX5_fillLong_106 rfl (lv_at hl 5 rfl) ?_
              refine lv_iconst (v := 1) hx hb dX5_fillLong_107 (by decide) ?_
              refine n_isub (a := i) (b := 1) (d := i - 1) hx hb dX5_fillLong_108 (by omega) (by omega) ?_
              refine g_iald (i := i - 1) (v := (Y (i - 1))) hx hb hK hP 6 rfl (by decide) (by omega) (hY (i - 1) (by omega)) dX5_fillLong_109 ?_
              refine lv_iload hx hb dX5_fillLong_110 (lv_at hl 0 rfl) ?_
              refine lv_iadd hx hb dX5_fillLong_112 ?_
              refine lv_iconst (v := 2) hx hb dX5_fillLong_113 (by decide) ?_
              refine lv_idiv hx hb dX5_fillLong_114 (by decide) ?_
              refine g_VV (wr := [gO ro 5 [.ref lo, .ref cp, .ref sp, .int (nI yr)], gO cp 3 [.ref cx, .ref cy, .int (nI n)], gI g cx 48 fx, gI g cy 48 fy]) (As := [.int (((X (i - 1)) + (X i)) / 2), .int (((Y (i - 1)) + (Y i)) / 2)]) (rest := []) (n := 2) F (c_X3_add l g sp dx dy mm hx_ hy_ (((X (i - 1)) + (X i)) / 2) (((Y (i - 1)) + (Y i)) / 2) (by omega)) gX5_fillLong_X3_add rfl (by decide) ⟨by decide, by decide⟩ 1 3 rfl rfl rfl rfl hl.1 rfl (Nat.le_of_ble_eq_true rfl) dX5_fillLong_115 ⟨Nat.le_of_ble_eq_true rfl, Nat.le_of_ble_eq_true rfl⟩ hK hP hD hS hA [1, 2, 3] [0, 4, 5, 6] (by decide) rfl rfl (by decide) (by decide) (fun u_115 H locs hw_115 hP hD hS => ?_)
              have hP : gP g [gO ro 5 [.ref lo, .ref cp, .ref sp, .int (nI yr)], gO cp 3 [.ref cx, .ref cy, .int (nI n)], gI g cx 48 fx, gI g cy 48 fy, gO sp 3 [.ref dx, .ref dy, .int (nI (mm + 1))], gI g dx 48 (upd hx_ mm (((X (i - 1)) + (X i)) / 2)), gI g dy 48 (upd hy_ mm (((Y (i - 1)) + (Y i)) / 2))] H := hP
              have hD : va_D A [gO ro 5 [.ref lo, .ref cp, .ref sp, .int (nI yr)], gO cp 3 [.ref cx, .ref cy, .int (nI n)], gI g cx 48 fx, gI g cy 48 fy, gO sp 3 [.ref dx, .ref dy, .int (nI (mm + 1))], gI g dx 48 (upd hx_ mm (((X (i - 1)) + (X i)) / 2)), gI g dy 48 (upd hy_ mm (((Y (i - 1)) + (Y i)) / 2))] := hD
              refine lv_iinc (v := (nI (t + 1))) (lv' := [(2, .int (nI (t + 1))), (5, .int (Y i)), (4, .int (X i)), (0, .ref ro), (1, .int d), (3, .int (nI i))]) hx hb dX5_fillLong_118 hl (k := 4) rfl (g_inc t 1 (by decide)) (by decide) rfl (fun ls hl => ?_)
              refine lv_aload_n hx hb dX5_fillLong_121 rfl (lv_at hl 3 rfl) ?_
              refine g_get (C := RX5) (T := TX5) (N := 4) F hK hP i_X5_fillLong_X5 0 rfl rfl 2 (by decide) k_X5_fillLong_f25 (v := .ref sp) rfl dX5_fillLong_122 ?_
              refine lv_iload hx hb dX5_fillLong_125 (lv_at hl 2 rfl) ?_
              refine lv_iload hx hb dX5_fillLong_127 (lv_at hl 1 rfl) ?_
              refine g_VV (wr := [gO ro 5 [.ref lo, .ref cp, .ref sp, .int (nI yr)], gO cp 3 [.ref cx, .ref cy, .int (nI n)], gI g cx 48 fx, gI g cy 48 fy]) (As := [.int (X i), .int (Y i)]) (rest := []) (n := 2) F (c_X3_add l g sp dx dy (mm + 1) (upd hx_ mm (((X (i - 1)) + (X i)) / 2)) (upd hy_ mm (((Y (i - 1)) + (Y i)) / 2)) (X i) (Y i) (by omega)) gX5_fillLong_X3_add rfl (by decide) ⟨by decide, by decide⟩ 4 3 rfl rfl rfl rfl hl.1 rfl (Nat.le_of_ble_eq_true rfl) dX5_fillLong_129 ⟨Nat.le_of_ble_eq_true rfl, Nat.le_of_ble_eq_true rfl⟩ hK hP hD hS hA [4, 5, 6] [0, 1, 2, 3] (by decide) rfl rfl (by decide) (by decide) (fun u_129 H locs hw_129 hP hD hS => ?_)
              have hP : gP g [gO ro 5 [.ref lo, .ref cp, .ref sp, .int (nI yr)], gO cp 3 [.ref cx, .ref cy, .int (nI n)], gI g cx 48 fx, gI g cy 48 fy, gO sp 3 [.ref dx, .ref dy, .int (nI ((mm + 1) + 1))], gI g dx 48 (upd (upd hx_ mm (((X (i - 1)) + (X i)) / 2)) (mm + 1) (X i)), gI g dy 48 (upd (upd hy_ mm (((Y (i - 1)) + (Y i)) / 2)) (mm + 1) (Y i))] H := hP
              have hD : va_D A [gO ro 5 [.ref lo, .ref cp, .ref sp, .int (nI yr)], gO cp 3 [.ref cx, .ref cy, .int (nI n)], gI g cx 48 fx, gI g cy 48 fy, gO sp 3 [.ref dx, .ref dy, .int (nI ((mm + 1) + 1))], gI g dx 48 (upd (upd hx_ mm (((X (i - 1)) + (X i)) / 2)) (mm + 1) (X i)), gI g dy 48 (upd (upd hy_ mm (((Y (i - 1)) + (Y i)) / 2)) (mm + 1) (Y i))] := hD
              refine lv_iinc (v := (nI (i + 1))) (lv' := [(3, .int (nI (i + 1))), (2, .int (nI (t + 1))), (5, .int (Y i)), (4, .int (X i)), (0, .ref ro), (1, .int d)]) hx hb dX5_fillLong_132 hl (k := 5) rfl (g_inc i 1 (by decide)) (by decide) rfl (fun ls hl => ?_)
              refine lv_goto (tgt := 18) hx hb dX5_fillLong_135 (by decide) ?_
              have he := lng_more (X := X) (Y := Y) (n := n) (d := d) (i := i) ⟨by omega, by omega, b_73⟩
              exact ih_18 (i + 1) ((mm + 1) + 1) (t + 1) (upd (upd hx_ mm (((X (i - 1)) + (X i)) / 2)) (mm + 1) (X i)) (upd (upd hy_ mm (((Y (i - 1)) + (Y i)) / 2)) (mm + 1) (Y i)) ls _ _ (by omega) (by omega) (by rw [he, hm]) (by rw [he, ht]) (by rw [he]; subst hm; exact upd_v (upd_v h1)) (by rw [he]; subst hm; exact upd_v (upd_v h2)) (lv_sub hl [4, 5, 1, 0] rfl) hP hD hS
  exact L18 ((n - 0) + 1) 0 0 n gx gy ls _ _ (Nat.lt_succ_self _) (by omega) (rfl) (rfl) (fun k hk => absurd hk (Nat.not_lt_zero k)) (fun k hk => absurd hk (Nat.not_lt_zero k)) (lv_sub hl [2, 3, 1, 0] rfl) hP hD hS

