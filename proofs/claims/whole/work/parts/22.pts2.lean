abbrev rm_X3_isAbove : Room := { frames := 0, cells := 0, slots := 0, locals := 0 }
theorem i_X3_isAbove_X3 : ∀ w ∈ wsX30, w ∈ wsX3_isAbove := by decide +kernel
theorem k_X3_isAbove_f9 : Cond.fieldLink RX3 9 (TX3 0).1 (TX3 0).2.1 (TX3 0).2.2.1 ∈ wsX3_isAbove := by decide +kernel
theorem k_X3_isAbove_f15 : Cond.fieldLink RX3 15 (TX3 1).1 (TX3 1).2.1 (TX3 1).2.2.1 ∈ wsX3_isAbove := by decide +kernel
set_option maxHeartbeats 4000000 in
set_option maxRecDepth 100000 in
theorem c_X3_isAbove (l : Launch) (g : gT) (po : Nat) (ax : Nat) (ay : Nat) (n : Nat) (fx : Nat → Int32) (fy : Nat → Int32) (X : Nat → Int32) (Y : Nat → Int32) (a : Nat) (b : Nat) (x : Int32) (y : Int32) (hn : n ≤ 48) (hX : ∀ k, k < n → fx k = X k) (hY : ∀ k, k < n → fy k = Y k) (ha : a < n) (hb_ : b < n) : CtI l g yX3_isAbove wsX3_isAbove rm_X3_isAbove [.ref po, .int (nI a), .int (nI b), .int x, .int y] [gO po 3 [.ref ax, .ref ay, .int (nI n)], gI g ax 48 fx, gI g ay 48 fy] (fun (r : Int32) (_ : Unit) => (r = 1 ∧ abvB X Y a b x y = true) ∨ (r = 0 ∧ ¬ abvB X Y a b x y = true)) (fun (_ : Unit) => [gO po 3 [.ref ax, .ref ay, .int (nI n)], gI g ax 48 fx, gI g ay 48 fy]) := by
  refine CtI.of (cc := cX3_isAbove) (maxL := 6) (ret := .boolean) (by decide) rfl (Nat.le_of_ble_eq_true rfl) ?_
  intro p e s m args below meth c A Q hnm F hK hA hP hD hS hret ls hl
  have hx := F.1
  have hb := F.2.1
  have hl : lv_has ls 6 [(0, .ref po), (1, .int (nI a)), (2, .int (nI b)), (3, .int x), (4, .int y)] := hl
  refine lv_iload_n hx hb dX3_isAbove_0 rfl (lv_at hl 3 rfl) ?_
  refine lv_aload_n hx hb dX3_isAbove_1 rfl (lv_at hl 0 rfl) ?_
  refine g_get (C := RX3) (T := TX3) (N := 3) F hK hP i_X3_isAbove_X3 0 rfl rfl 0 (by decide) k_X3_isAbove_f9 (v := .ref ax) rfl dX3_isAbove_2 ?_
  refine lv_iload_n hx hb dX3_isAbove_5 rfl (lv_at hl 1 rfl) ?_
  refine g_iald (i := a) (v := (X a)) hx hb hK hP 1 rfl (by decide) (by omega) (hX a (by omega)) dX3_isAbove_6 ?_
  refine lv_icmp_lt (tgt := 20) hx hb dX3_isAbove_7 (by decide) (fun c_7 => ?_) (fun c_7 => ?_)
  · refine lv_iconst (v := 0) hx hb dX3_isAbove_20 (by decide) ?_
    exact hret _ _ _ _ 0 () dX3_isAbove_21 rfl (by simp [abvB, c_7]) hP hD hS
  · refine lv_iload_n hx hb dX3_isAbove_10 rfl (lv_at hl 3 rfl) ?_
    refine lv_aload_n hx hb dX3_isAbove_11 rfl (lv_at hl 0 rfl) ?_
    refine g_get (C := RX3) (T := TX3) (N := 3) F hK hP i_X3_isAbove_X3 0 rfl rfl 0 (by decide) k_X3_isAbove_f9 (v := .ref ax) rfl dX3_isAbove_12 ?_
    refine lv_iload_n hx hb dX3_isAbove_15 rfl (lv_at hl 2 rfl) ?_
    refine g_iald (i := b) (v := (X b)) hx hb hK hP 1 rfl (by decide) (by omega) (hX b (by omega)) dX3_isAbove_16 ?_
    refine lv_icmp_lt (tgt := 22) hx hb dX3_isAbove_17 (by decide) (fun c_17 => ?_) (fun c_17 => ?_)
    · refine lv_aload_n hx hb dX3_isAbove_22 rfl (lv_at hl 0 rfl) ?_
      refine g_get (C := RX3) (T := TX3) (N := 3) F hK hP i_X3_isAbove_X3 0 rfl rfl 0 (by decide) k_X3_isAbove_f9 (v := .ref ax) rfl dX3_isAbove_23 ?_
      refine lv_iload_n hx hb dX3_isAbove_26 rfl (lv_at hl 2 rfl) ?_
      refine g_iald (i := b) (v := (X b)) hx hb hK hP 1 rfl (by decide) (by omega) (hX b (by omega)) dX3_isAbove_27 ?_
      refine lv_aload_n hx hb dX3_isAbove_28 rfl (lv_at hl 0 rfl) ?_
      refine g_get (C := RX3) (T := TX3) (N := 3) F hK hP i_X3_isAbove_X3 0 rfl rfl 0 (by decide) k_X3_isAbove_f9 (v := .ref ax) rfl dX3_isAbove_29 ?_
      refine lv_iload_n hx hb dX3_isAbove_32 rfl (lv_at hl 1 rfl) ?_
      refine g_iald (i := a) (v := (X a)) hx hb hK hP 1 rfl (by decide) (by omega) (hX a (by omega)) dX3_isAbove_33 ?_
      refine lv_isub hx hb dX3_isAbove_34 ?_
      refine lv_istore (lv' := [(5, .int ((X b) - (X a))), (0, .ref po), (1, .int (nI a)), (2, .int (nI b)), (3, .int x), (4, .int y)]) hx hb dX3_isAbove_35 hl (by decide) rfl (fun ls hl => ?_)
      refine lv_aload_n hx hb dX3_isAbove_37 rfl (lv_at hl 1 rfl) ?_
      refine g_get (C := RX3) (T := TX3) (N := 3) F hK hP i_X3_isAbove_X3 0 rfl rfl 1 (by decide) k_X3_isAbove_f15 (v := .ref ay) rfl dX3_isAbove_38 ?_
      refine lv_iload_n hx hb dX3_isAbove_41 rfl (lv_at hl 3 rfl) ?_
      refine g_iald (i := b) (v := (Y b)) hx hb hK hP 2 rfl (by decide) (by omega) (hY b (by omega)) dX3_isAbove_42 ?_
      refine lv_aload_n hx hb dX3_isAbove_43 rfl (lv_at hl 1 rfl) ?_
      refine g_get (C := RX3) (T := TX3) (N := 3) F hK hP i_X3_isAbove_X3 0 rfl rfl 1 (by decide) k_X3_isAbove_f15 (v := .ref ay) rfl dX3_isAbove_44 ?_
      refine lv_iload_n hx hb dX3_isAbove_47 rfl (lv_at hl 2 rfl) ?_
      refine g_iald (i := a) (v := (Y a)) hx hb hK hP 2 rfl (by decide) (by omega) (hY a (by omega)) dX3_isAbove_48 ?_
      refine lv_isub hx hb dX3_isAbove_49 ?_
      refine lv_iload_n hx hb dX3_isAbove_50 rfl (lv_at hl 4 rfl) ?_
      refine lv_aload_n hx hb dX3_isAbove_51 rfl (lv_at hl 1 rfl) ?_
      refine g_get (C := RX3) (T := TX3) (N := 3) F hK hP i_X3_isAbove_X3 0 rfl rfl 0 (by decide) k_X3_isAbove_f9 (v := .ref ax) rfl dX3_isAbove_52 ?_
      refine lv_iload_n hx hb dX3_isAbove_55 rfl (lv_at hl 2 rfl) ?_
      refine g_iald (i := a) (v := (X a)) hx hb hK hP 1 rfl (by decide) (by omega) (hX a (by omega)) dX3_isAbove_56 ?_
      refine lv_isub hx hb dX3_isAbove_57 ?_
      refine lv_imul hx hb dX3_isAbove_58 ?_
      refine lv_iload hx hb dX3_isAbove_59 (lv_at hl 5 rfl) ?_
      refine lv_aload_n hx hb dX3_isAbove_61 rfl (lv_at hl 1 rfl) ?_
      refine g_get (C := RX3) (T := TX3) (N := 3) F hK hP i_X3_isAbove_X3 0 rfl rfl 1 (by decide) k_X3_isAbove_f15 (v := .ref ay) rfl dX3_isAbove_62 ?_
      refine lv_iload_n hx hb dX3_isAbove_65 rfl (lv_at hl 2 rfl) ?_
      refine g_iald (i := a) (v := (Y a)) hx hb hK hP 2 rfl (by decide) (by omega) (hY a (by omega)) dX3_isAbove_66 ?_
      refine lv_isub hx hb dX3_isAbove_67 ?_
      refine lv_iload hx hb dX3_isAbove_68 (lv_at hl 0 rfl) ?_
      refine lv_imul hx hb dX3_isAbove_70 ?_
      refine lv_icmp_le (tgt := 78) hx hb dX3_isAbove_71 (by decide) (fun c_71 => ?_) (fun c_71 => ?_)
      · refine lv_iconst (v := 0) hx hb dX3_isAbove_78 (by decide) ?_
        exact hret _ _ _ _ 0 () dX3_isAbove_79 rfl (by simp [abvB, c_7, c_17, c_71]) hP hD hS
      · refine lv_iconst (v := 1) hx hb dX3_isAbove_74 (by decide) ?_
        refine lv_goto (tgt := 79) hx hb dX3_isAbove_75 (by decide) ?_
        exact hret _ _ _ _ 1 () dX3_isAbove_79 rfl (by simp [abvB, c_7, c_17, c_71]) hP hD hS
    · refine lv_iconst (v := 0) hx hb dX3_isAbove_20 (by decide) ?_
      exact hret _ _ _ _ 0 () dX3_isAbove_21 rfl (by simp [abvB, c_7, c_17]) hP hD hS

theorem pab_t {X Y : Nat → Int32} {x y : Int32} {k : Nat} (h : X (k + 1) < X k) : pabB X Y x y k = abvB X Y (k + 1) k x y := by rw [pabB, if_pos h]
theorem pab_f {X Y : Nat → Int32} {x y : Int32} {k : Nat} (h : ¬ X (k + 1) < X k) : pabB X Y x y k = abvB X Y k (k + 1) x y := by rw [pabB, if_neg h]
abbrev rm_X3_sideOf : Room := { frames := 1, cells := 0, slots := 0, locals := 25 }
theorem i_X3_sideOf_X3 : ∀ w ∈ wsX30, w ∈ wsX3_sideOf := by decide +kernel
theorem k_X3_sideOf_f18 : Cond.fieldLink RX3 18 (TX3 2).1 (TX3 2).2.1 (TX3 2).2.2.1 ∈ wsX3_sideOf := by decide +kernel
theorem k_X3_sideOf_f9 : Cond.fieldLink RX3 9 (TX3 0).1 (TX3 0).2.1 (TX3 0).2.2.1 ∈ wsX3_sideOf := by decide +kernel
set_option maxHeartbeats 4000000 in
set_option maxRecDepth 100000 in
theorem c_X3_sideOf (l : Launch) (g : gT) (po : Nat) (ax : Nat) (ay : Nat) (n : Nat) (fx : Nat → Int32) (fy : Nat → Int32) (X : Nat → Int32) (Y : Nat → Int32) (x : Int32) (y : Int32) (hn : n ≤ 48) (hX : ∀ k, k < n → fx k = X k) (hY : ∀ k, k < n → fy k = Y k) (h1n : 1 ≤ n) : CtI l g yX3_sideOf wsX3_sideOf rm_X3_sideOf [.ref po, .int x, .int y] [gO po 3 [.ref ax, .ref ay, .int (nI n)], gI g ax 48 fx, gI g ay 48 fy] (fun (r : Int32) (_ : Unit) => r = nI (sideS X Y n x y)) (fun (_ : Unit) => [gO po 3 [.ref ax, .ref ay, .int (nI n)], gI g ax 48 fx, gI g ay 48 fy]) := by
  refine CtI.of (cc := cX3_sideOf) (maxL := 6) (ret := .int) (by decide) rfl (Nat.le_of_ble_eq_true rfl) ?_
  intro p e s m args below meth c A Q hnm F hK hA hP hD hS hret ls hl
  have hx := F.1
  have hb := F.2.1
  have hl : lv_has ls 6 [(0, .ref po), (1, .int x), (2, .int y)] := hl
  refine lv_iconst (v := 0) hx hb dX3_sideOf_0 (by decide) ?_
  refine lv_istore_n (lv' := [(3, .int 0), (0, .ref po), (1, .int x), (2, .int y)]) hx hb dX3_sideOf_1 rfl hl (by decide) rfl (fun ls hl => ?_)
  refine lv_iconst (v := 1) hx hb dX3_sideOf_2 (by decide) ?_
  refine lv_istore (lv' := [(4, .int 1), (3, .int 0), (0, .ref po), (1, .int x), (2, .int y)]) hx hb dX3_sideOf_3 hl (by decide) rfl (fun ls hl => ?_)
  have L5 : ∀ (fuel : Nat) (cn : Nat) (j : Nat) (ls : Array Slot) (H : Heap) (locs : List Loc), n - j < fuel → (j + 1 ≤ n) → (cn = cntB (pabB X Y x y) j) → lv_has ls 6 [(0, .ref po), (1, .int x), (2, .int y), (3, .int (nI cn)), (4, .int (nI (j + 1)))] → gP g [gO po 3 [.ref ax, .ref ay, .int (nI n)], gI g ax 48 fx, gI g ay 48 fy] H → va_D A [gO po 3 [.ref ax, .ref ay, .int (nI n)], gI g ax 48 fx, gI g ay 48 fy] → va_S A s.heap H locs → W p l e rm_X3_sideOf s m args below meth c H locs 0 0 Q (F0 m 5 ls []) := by
    intro fuel
    induction fuel with
    | zero => intro cn j _ _ _ hk; exact absurd hk (Nat.not_lt_zero _)
    | succ fuel_5 ih_5 =>
      intro cn j ls H locs hk_5 hj hc hl hP hD hS
      have hcl : cn ≤ j := by rw [hc]; exact cntB_le _ _
      refine lv_iload hx hb dX3_sideOf_5 (lv_at hl 4 rfl) ?_
      refine lv_aload_n hx hb dX3_sideOf_7 rfl (lv_at hl 0 rfl) ?_
      refine g_get (C := RX3) (T := TX3) (N := 3) F hK hP i_X3_sideOf_X3 0 rfl rfl 2 (by decide) k_X3_sideOf_f18 (v := .int (nI n)) rfl dX3_sideOf_8 ?_
      refine n_icmp_ge (a := j + 1) (b := n) (tgt := 87) hx hb dX3_sideOf_11 (by decide) (by omega) (by omega) (fun c_11 => ?_) (fun c_11 => ?_)
      · refine lv_iload_n hx hb dX3_sideOf_87 rfl (lv_at hl 3 rfl) ?_
        refine lv_iconst (v := 2) hx hb dX3_sideOf_88 (by decide) ?_
        refine n_irem (a := cn) (b := 2) (d := cn % 2) hx hb dX3_sideOf_89 (by omega) (by decide) (by decide) (rfl) ?_
        exact hret _ _ _ _ (nI (cn % 2)) () dX3_sideOf_90 rfl (by rw [hc, show j = n - 1 by omega]; rfl) hP hD hS
      · refine lv_aload_n hx hb dX3_sideOf_14 rfl (lv_at hl 0 rfl) ?_
        refine g_get (C := RX3) (T := TX3) (N := 3) F hK hP i_X3_sideOf_X3 0 rfl rfl 0 (by decide) k_X3_sideOf_f9 (v := .ref ax) rfl dX3_sideOf_15 ?_
        refine lv_iload hx hb dX3_sideOf_18 (lv_at hl 4 rfl) ?_
        refine lv_iconst (v := 1) hx hb dX3_sideOf_20 (by decide) ?_
        refine n_isub (a := j + 1) (b := 1) (d := j) hx hb dX3_sideOf_21 (by omega) (by omega) ?_
        refine g_iald (i := j) (v := (X j)) hx hb hK hP 1 rfl (by decide) (by omega) (hX j (by omega)) dX3_sideOf_22 ?_
        refine lv_aload_n hx hb dX3_sideOf_23 rfl (lv_at hl 0 rfl) ?_
        refine g_get (C := RX3) (T := TX3) (N := 3) F hK hP i_X3_sideOf_X3 0 rfl rfl 0 (by decide) k_X3_sideOf_f9 (v := .ref ax) rfl dX3_sideOf_24 ?_
        refine lv_iload hx hb dX3_sideOf_27 (lv_at hl 4 rfl) ?_
        refine g_iald (i := j + 1) (v := (X (j + 1))) hx hb hK hP 1 rfl (by decide) (by omega) (hX (j + 1) (by omega)) dX3_sideOf_29 ?_
        refine lv_icmp_gt (tgt := 37) hx hb dX3_sideOf_30 (by decide) (fun c_30 => ?_) (fun c_30 => ?_)
        · refine lv_iconst (v := 0) hx hb dX3_sideOf_37 (by decide) ?_
          refine lv_istore (lv' := [(5, .int 0), (0, .ref po), (1, .int x), (2, .int y), (3, .int (nI cn)), (4, .int (nI (j + 1)))]) hx hb dX3_sideOf_38 hl (by decide) rfl (fun ls hl => ?_)
          refine lv_iload hx hb dX3_sideOf_40 (lv_at hl 0 rfl) ?_
          refine lv_if_eq (tgt := 63) hx hb dX3_sideOf_42 (by decide) (fun _ => ?_) (fun h => absurd (by decide) h)
          refine lv_aload_n hx hb dX3_sideOf_63 rfl (lv_at hl 1 rfl) ?_
          refine lv_iload hx hb dX3_sideOf_64 (lv_at hl 5 rfl) ?_
          refine lv_iload hx hb dX3_sideOf_66 (lv_at hl 5 rfl) ?_
          refine lv_iconst (v := 1) hx hb dX3_sideOf_68 (by decide) ?_
          refine n_isub (a := j + 1) (b := 1) (d := j) hx hb dX3_sideOf_69 (by omega) (by omega) ?_
          refine lv_iload_n hx hb dX3_sideOf_70 rfl (lv_at hl 2 rfl) ?_
          refine lv_iload_n hx hb dX3_sideOf_71 rfl (lv_at hl 3 rfl) ?_
          refine g_VI (wr := []) (As := [.int (nI (j + 1)), .int (nI j), .int x, .int y]) (rest := []) (n := 4) F (c_X3_isAbove l g po ax ay n fx fy X Y (j + 1) j x y (by omega) (hX) (hY) (by omega) (by omega)) gX3_sideOf_X3_isAbove rfl (by decide) ⟨by decide, by decide⟩ 0 3 rfl rfl rfl rfl hl.1 rfl (Nat.le_of_ble_eq_true rfl) dX3_sideOf_72 ⟨Nat.le_of_ble_eq_true rfl, Nat.le_of_ble_eq_true rfl⟩ hK hP hD hS hA [0, 1, 2] [] (by decide) rfl rfl (by decide) (by decide) (fun r_72 u_72 H locs hw_72 hP hD hS => ?_)
          have hP : gP g [gO po 3 [.ref ax, .ref ay, .int (nI n)], gI g ax 48 fx, gI g ay 48 fy] H := hP
          have hD : va_D A [gO po 3 [.ref ax, .ref ay, .int (nI n)], gI g ax 48 fx, gI g ay 48 fy] := hD
          rcases hw_72 with ⟨rfl, b_72⟩ | ⟨rfl, b_72⟩
          · refine lv_if_eq (tgt := 81) hx hb dX3_sideOf_75 (by decide) (fun h => absurd h (by decide)) (fun _ => ?_)
            refine lv_iinc (v := (nI (cn + 1))) (lv' := [(3, .int (nI (cn + 1))), (5, .int 0), (0, .ref po), (1, .int x), (2, .int y), (4, .int (nI (j + 1)))]) hx hb dX3_sideOf_78 hl (k := 4) rfl (g_inc cn 1 (by decide)) (by decide) rfl (fun ls hl => ?_)
            refine lv_iinc (v := (nI (j + 2))) (lv' := [(4, .int (nI (j + 2))), (3, .int (nI (cn + 1))), (5, .int 0), (0, .ref po), (1, .int x), (2, .int y)]) hx hb dX3_sideOf_81 hl (k := 5) rfl (g_inc (j + 1) 1 (by decide)) (by decide) rfl (fun ls hl => ?_)
            refine lv_goto (tgt := 5) hx hb dX3_sideOf_84 (by decide) ?_
            exact ih_5 (cn + 1) (j + 1) ls _ _ (by omega) (by omega) (by rw [hc]; exact (cntB_y (by rw [pab_t c_30]; exact b_72)).symm) (lv_sub hl [3, 4, 5, 1, 0] rfl) hP hD hS
          · refine lv_if_eq (tgt := 81) hx hb dX3_sideOf_75 (by decide) (fun _ => ?_) (fun h => absurd (by decide) h)
            refine lv_iinc (v := (nI (j + 2))) (lv' := [(4, .int (nI (j + 2))), (5, .int 0), (0, .ref po), (1, .int x), (2, .int y), (3, .int (nI cn))]) hx hb dX3_sideOf_81 hl (k := 5) rfl (g_inc (j + 1) 1 (by decide)) (by decide) rfl (fun ls hl => ?_)
            refine lv_goto (tgt := 5) hx hb dX3_sideOf_84 (by decide) ?_
            exact ih_5 cn (j + 1) ls _ _ (by omega) (by omega) (by rw [hc]; exact (cntB_n (by rw [pab_t c_30]; exact b_72)).symm) (lv_sub hl [2, 3, 4, 5, 0] rfl) hP hD hS
        · refine lv_iconst (v := 1) hx hb dX3_sideOf_33 (by decide) ?_
          refine lv_goto (tgt := 38) hx hb dX3_sideOf_34 (by decide) ?_
          refine lv_istore (lv' := [(5, .int 1), (0, .ref po), (1, .int x), (2, .int y), (3, .int (nI cn)), (4, .int (nI (j + 1)))]) hx hb dX3_sideOf_38 hl (by decide) rfl (fun ls hl => ?_)
          refine lv_iload hx hb dX3_sideOf_40 (lv_at hl 0 rfl) ?_
          refine lv_if_eq (tgt := 63) hx hb dX3_sideOf_42 (by decide) (fun h => absurd h (by decide)) (fun _ => ?_)
          refine lv_aload_n hx hb dX3_sideOf_45 rfl (lv_at hl 1 rfl) ?_
          refine lv_iload hx hb dX3_sideOf_46 (lv_at hl 5 rfl) ?_
          refine lv_iconst (v := 1) hx hb dX3_sideOf_48 (by decide) ?_
          refine n_isub (a := j + 1) (b := 1) (d := j) hx hb dX3_sideOf_49 (by omega) (by omega) ?_
          refine lv_iload hx hb dX3_sideOf_50 (lv_at hl 5 rfl) ?_
          refine lv_iload_n hx hb dX3_sideOf_52 rfl (lv_at hl 2 rfl) ?_
          refine lv_iload_n hx hb dX3_sideOf_53 rfl (lv_at hl 3 rfl) ?_
          refine g_VI (wr := []) (As := [.int (nI j), .int (nI (j + 1)), .int x, .int y]) (rest := []) (n := 4) F (c_X3_isAbove l g po ax ay n fx fy X Y j (j + 1) x y (by omega) (hX) (hY) (by omega) (by omega)) gX3_sideOf_X3_isAbove rfl (by decide) ⟨by decide, by decide⟩ 0 3 rfl rfl rfl rfl hl.1 rfl (Nat.le_of_ble_eq_true rfl) dX3_sideOf_54 ⟨Nat.le_of_ble_eq_true rfl, Nat.le_of_ble_eq_true rfl⟩ hK hP hD hS hA [0, 1, 2] [] (by decide) rfl rfl (by decide) (by decide) (fun r_54 u_54 H locs hw_54 hP hD hS => ?_)
          have hP : gP g [gO po 3 [.ref ax, .ref ay, .int (nI n)], gI g ax 48 fx, gI g ay 48 fy] H := hP
          have hD : va_D A [gO po 3 [.ref ax, .ref ay, .int (nI n)], gI g ax 48 fx, gI g ay 48 fy] := hD
          rcases hw_54 with ⟨rfl, b_54⟩ | ⟨rfl, b_54⟩
          · refine lv_if_eq (tgt := 81) hx hb dX3_sideOf_57 (by decide) (fun h => absurd h (by decide)) (fun _ => ?_)
            refine lv_goto (tgt := 78) hx hb dX3_sideOf_60 (by decide) ?_
            refine lv_iinc (v := (nI (cn + 1))) (lv' := [(3, .int (nI (cn + 1))), (5, .int 1), (0, .ref po), (1, .int x), (2, .int y), (4, .int (nI (j + 1)))]) hx hb dX3_sideOf_78 hl (k := 4) rfl (g_inc cn 1 (by decide)) (by decide) rfl (fun ls hl => ?_)
            refine lv_iinc (v := (nI (j + 2))) (lv' := [(4, .int (nI (j + 2))), (3, .int (nI (cn + 1))), (5, .int 1), (0, .ref po), (1, .int x), (2, .int y)]) hx hb dX3_sideOf_81 hl (k := 5) rfl (g_inc (j + 1) 1 (by decide)) (by decide) rfl (fun ls hl => ?_)
            refine lv_goto (tgt := 5) hx hb dX3_sideOf_84 (by decide) ?_
            exact ih_5 (cn + 1) (j + 1) ls _ _ (by omega) (by omega) (by rw [hc]; exact (cntB_y (by rw [pab_f c_30]; exact b_54)).symm) (lv_sub hl [3, 4, 5, 1, 0] rfl) hP hD hS
          · refine lv_if_eq (tgt := 81) hx hb dX3_sideOf_57 (by decide) (fun _ => ?_) (fun h => absurd (by decide) h)
            refine lv_iinc (v := (nI (j + 2))) (lv' := [(4, .int (nI (j + 2))), (5, .int 1), (0, .ref po), (1, .int x), (2, .int y), (3, .int (nI cn))]) hx hb dX3_sideOf_81 hl (k := 5) rfl (g_inc (j + 1) 1 (by decide)) (by decide) rfl (fun ls hl => ?_)
            refine lv_goto (tgt := 5) hx hb dX3_sideOf_84 (by decide) ?_
            exact ih_5 cn (j + 1) ls _ _ (by omega) (by omega) (by rw [hc]; exact (cntB_n (by rw [pab_f c_30]; exact b_54)).symm) (lv_sub hl [2, 3, 4, 5, 0] rfl) hP hD hS
  exact L5 ((n - 0) + 1) 0 0 ls _ _ (Nat.lt_succ_self _) (by omega) (rfl) (lv_sub hl [2, 3, 4, 1, 0] rfl) hP hD hS

abbrev rm_X3_spansMeet : Room := { frames := 1, cells := 0, slots := 0, locals := 21 }
theorem k_X3_spansMeet_m50 : Cond.methodLink RX3 50 Lib.Math.max.name ∈ wsX3_spansMeet := by decide +kernel
theorem k_X3_spansMeet_smax : Cond.static Lib.Math.max.name ∈ wsX3_spansMeet := by decide +kernel
theorem k_X3_spansMeet_im : Cond.initialized "java/lang/Math" ∈ wsX3_spansMeet := by decide +kernel
theorem k_X3_spansMeet_xmax : Cond.code Lib.Math.max.name Lib.Math.max.code 2 (some .int) ∈ wsX3_spansMeet := by decide +kernel
theorem k_X3_spansMeet_m54 : Cond.methodLink RX3 54 Lib.Math.min.name ∈ wsX3_spansMeet := by decide +kernel
theorem k_X3_spansMeet_smin : Cond.static Lib.Math.min.name ∈ wsX3_spansMeet := by decide +kernel
theorem k_X3_spansMeet_xmin : Cond.code Lib.Math.min.name Lib.Math.min.code 2 (some .int) ∈ wsX3_spansMeet := by decide +kernel
set_option maxHeartbeats 4000000 in
set_option maxRecDepth 100000 in
theorem c_X3_spansMeet (l : Launch) (g : gT) (ax : Nat) (n : Nat) (fx : Nat → Int32) (X : Nat → Int32) (a : Nat) (b : Nat) (hn : n ≤ 48) (hX : ∀ k, k < n → fx k = X k) (ha : a + 1 < n) (hb_ : b + 1 < n) : CtI l g yX3_spansMeet wsX3_spansMeet rm_X3_spansMeet [.ref ax, .int (nI a), .int (nI b)] [gI g ax 48 fx] (fun (r : Int32) (_ : Unit) => (r = 1 ∧ spanB X a b = true) ∨ (r = 0 ∧ ¬ spanB X a b = true)) (fun (_ : Unit) => [gI g ax 48 fx]) := by
  refine CtI.of (cc := cX3_spansMeet) (maxL := 3) (ret := .boolean) (by decide) rfl (Nat.le_of_ble_eq_true rfl) ?_
  intro p e s m args below meth c A Q hnm F hK hA hP hD hS hret ls hl
  have hx := F.1
  have hb := F.2.1
  have hl : lv_has ls 3 [(0, .ref ax), (1, .int (nI a)), (2, .int (nI b))] := hl
  refine lv_aload_n hx hb dX3_spansMeet_0 rfl (lv_at hl 0 rfl) ?_
  refine lv_iload_n hx hb dX3_spansMeet_1 rfl (lv_at hl 1 rfl) ?_
  refine g_iald (i := a) (v := (X a)) hx hb hK hP 0 rfl (by decide) (by omega) (hX a (by omega)) dX3_spansMeet_2 ?_
  refine lv_aload_n hx hb dX3_spansMeet_3 rfl (lv_at hl 0 rfl) ?_
  refine lv_iload_n hx hb dX3_spansMeet_4 rfl (lv_at hl 1 rfl) ?_
  refine lv_iconst (v := 1) hx hb dX3_spansMeet_5 (by decide) ?_
  refine n_iadd (a := a) (b := 1) (d := a + 1) hx hb dX3_spansMeet_6 (by omega) ?_
  refine g_iald (i := a + 1) (v := (X (a + 1))) hx hb hK hP 0 rfl (by decide) (by omega) (hX (a + 1) (by omega)) dX3_spansMeet_7 ?_
  refine g_mmax F hl.1 k_X3_spansMeet_m50 k_X3_spansMeet_smax k_X3_spansMeet_im k_X3_spansMeet_xmax (by decide) (Nat.le_of_ble_eq_true rfl) (Nat.le_of_ble_eq_true rfl) (Nat.le_of_ble_eq_true rfl) dX3_spansMeet_8 (v := (g_max (X a) (X (a + 1)))) (rfl) ?_
  refine lv_aload_n hx hb dX3_spansMeet_11 rfl (lv_at hl 0 rfl) ?_
  refine lv_iload_n hx hb dX3_spansMeet_12 rfl (lv_at hl 2 rfl) ?_
  refine g_iald (i := b) (v := (X b)) hx hb hK hP 0 rfl (by decide) (by omega) (hX b (by omega)) dX3_spansMeet_13 ?_
  refine lv_aload_n hx hb dX3_spansMeet_14 rfl (lv_at hl 0 rfl) ?_
  refine lv_iload_n hx hb dX3_spansMeet_15 rfl (lv_at hl 2 rfl) ?_
  refine lv_iconst (v := 1) hx hb dX3_spansMeet_16 (by decide) ?_
  refine n_iadd (a := b) (b := 1) (d := b + 1) hx hb dX3_spansMeet_17 (by omega) ?_
  refine g_iald (i := b + 1) (v := (X (b + 1))) hx hb hK hP 0 rfl (by decide) (by omega) (hX (b + 1) (by omega)) dX3_spansMeet_18 ?_
  refine g_mmin F hl.1 k_X3_spansMeet_m54 k_X3_spansMeet_smin k_X3_spansMeet_im k_X3_spansMeet_xmin (by decide) (Nat.le_of_ble_eq_true rfl) (Nat.le_of_ble_eq_true rfl) (Nat.le_of_ble_eq_true rfl) dX3_spansMeet_19 (v := (g_min (X b) (X (b + 1)))) (rfl) ?_
  refine lv_icmp_lt (tgt := 54) hx hb dX3_spansMeet_22 (by decide) (fun c_22 => ?_) (fun c_22 => ?_)
  · refine lv_iconst (v := 0) hx hb dX3_spansMeet_54 (by decide) ?_
    exact hret _ _ _ _ 0 () dX3_spansMeet_55 rfl (by simp [spanB, c_22]) hP hD hS
  · refine lv_aload_n hx hb dX3_spansMeet_25 rfl (lv_at hl 0 rfl) ?_
    refine lv_iload_n hx hb dX3_spansMeet_26 rfl (lv_at hl 2 rfl) ?_
    refine g_iald (i := b) (v := (X b)) hx hb hK hP 0 rfl (by decide) (by omega) (hX b (by omega)) dX3_spansMeet_27 ?_
    refine lv_aload_n hx hb dX3_spansMeet_28 rfl (lv_at hl 0 rfl) ?_
    refine lv_iload_n hx hb dX3_spansMeet_29 rfl (lv_at hl 2 rfl) ?_
    refine lv_iconst (v := 1) hx hb dX3_spansMeet_30 (by decide) ?_
    refine n_iadd (a := b) (b := 1) (d := b + 1) hx hb dX3_spansMeet_31 (by omega) ?_
    refine g_iald (i := b + 1) (v := (X (b + 1))) hx hb hK hP 0 rfl (by decide) (by omega) (hX (b + 1) (by omega)) dX3_spansMeet_32 ?_
    refine g_mmax F hl.1 k_X3_spansMeet_m50 k_X3_spansMeet_smax k_X3_spansMeet_im k_X3_spansMeet_xmax (by decide) (Nat.le_of_ble_eq_true rfl) (Nat.le_of_ble_eq_true rfl) (Nat.le_of_ble_eq_true rfl) dX3_spansMeet_33 (v := (g_max (X b) (X (b + 1)))) (rfl) ?_
    refine lv_aload_n hx hb dX3_spansMeet_36 rfl (lv_at hl 0 rfl) ?_
    refine lv_iload_n hx hb dX3_spansMeet_37 rfl (lv_at hl 1 rfl) ?_
    refine g_iald (i := a) (v := (X a)) hx hb hK hP 0 rfl (by decide) (by omega) (hX a (by omega)) dX3_spansMeet_38 ?_
    refine lv_aload_n hx hb dX3_spansMeet_39 rfl (lv_at hl 0 rfl) ?_
    refine lv_iload_n hx hb dX3_spansMeet_40 rfl (lv_at hl 1 rfl) ?_
    refine lv_iconst (v := 1) hx hb dX3_spansMeet_41 (by decide) ?_
    refine n_iadd (a := a) (b := 1) (d := a + 1) hx hb dX3_spansMeet_42 (by omega) ?_
    refine g_iald (i := a + 1) (v := (X (a + 1))) hx hb hK hP 0 rfl (by decide) (by omega) (hX (a + 1) (by omega)) dX3_spansMeet_43 ?_
    refine g_mmin F hl.1 k_X3_spansMeet_m54 k_X3_spansMeet_smin k_X3_spansMeet_im k_X3_spansMeet_xmin (by decide) (Nat.le_of_ble_eq_true rfl) (Nat.le_of_ble_eq_true rfl) (Nat.le_of_ble_eq_true rfl) dX3_spansMeet_44 (v := (g_min (X a) (X (a + 1)))) (rfl) ?_
    refine lv_icmp_lt (tgt := 54) hx hb dX3_spansMeet_47 (by decide) (fun c_47 => ?_) (fun c_47 => ?_)
    · refine lv_iconst (v := 0) hx hb dX3_spansMeet_54 (by decide) ?_
      exact hret _ _ _ _ 0 () dX3_spansMeet_55 rfl (by simp [spanB, c_22, c_47]) hP hD hS
    · refine lv_iconst (v := 1) hx hb dX3_spansMeet_50 (by decide) ?_
      refine lv_goto (tgt := 55) hx hb dX3_spansMeet_51 (by decide) ?_
      exact hret _ _ _ _ 1 () dX3_spansMeet_55 rfl (by simp [spanB, c_22, c_47]) hP hD hS

abbrev rm_X3_turn : Room := { frames := 1, cells := 0, slots := 0, locals := 21 }
theorem i_X3_turn_X3 : ∀ w ∈ wsX30, w ∈ wsX3_turn := by decide +kernel
theorem k_X3_turn_f9 : Cond.fieldLink RX3 9 (TX3 0).1 (TX3 0).2.1 (TX3 0).2.2.1 ∈ wsX3_turn := by decide +kernel
theorem k_X3_turn_f15 : Cond.fieldLink RX3 15 (TX3 1).1 (TX3 1).2.1 (TX3 1).2.2.1 ∈ wsX3_turn := by decide +kernel
set_option maxHeartbeats 4000000 in
set_option maxRecDepth 100000 in
theorem c_X3_turn (l : Launch) (g : gT) (po : Nat) (ax : Nat) (ay : Nat) (n : Nat) (fx : Nat → Int32) (fy : Nat → Int32) (X : Nat → Int32) (Y : Nat → Int32) (a : Nat) (k : Nat) (hn : n ≤ 48) (hX : ∀ k, k < n → fx k = X k) (hY : ∀ k, k < n → fy k = Y k) (ha : a + 1 < n) (hk : k < n) : CtI l g yX3_turn wsX3_turn rm_X3_turn [.ref po, .int (nI a), .int (nI k)] [gO po 3 [.ref ax, .ref ay, .int (nI n)], gI g ax 48 fx, gI g ay 48 fy] (fun (r : Int32) (_ : Unit) => r = turnS X Y a k) (fun (_ : Unit) => [gO po 3 [.ref ax, .ref ay, .int (nI n)], gI g ax 48 fx, gI g ay 48 fy]) := by
  refine CtI.of (cc := cX3_turn) (maxL := 5) (ret := .int) (by decide) rfl (Nat.le_of_ble_eq_true rfl) ?_
  intro p e s m args below meth c A Q hnm F hK hA hP hD hS hret ls hl
  have hx := F.1
  have hb := F.2.1
  have hl : lv_has ls 5 [(0, .ref po), (1, .int (nI a)), (2, .int (nI k))] := hl
  refine lv_aload_n hx hb dX3_turn_0 rfl (lv_at hl 0 rfl) ?_
  refine g_get (C := RX3) (T := TX3) (N := 3) F hK hP i_X3_turn_X3 0 rfl rfl 0 (by decide) k_X3_turn_f9 (v := .ref ax) rfl dX3_turn_1 ?_
  refine lv_iload_n hx hb dX3_turn_4 rfl (lv_at hl 1 rfl) ?_
  refine lv_iconst (v := 1) hx hb dX3_turn_5 (by decide) ?_
  refine n_iadd (a := a) (b := 1) (d := a + 1) hx hb dX3_turn_6 (by omega) ?_
  refine g_iald (i := a + 1) (v := (X (a + 1))) hx hb hK hP 1 rfl (by decide) (by omega) (hX (a + 1) (by omega)) dX3_turn_7 ?_
  refine lv_aload_n hx hb dX3_turn_8 rfl (lv_at hl 0 rfl) ?_
  refine g_get (C := RX3) (T := TX3) (N := 3) F hK hP i_X3_turn_X3 0 rfl rfl 0 (by decide) k_X3_turn_f9 (v := .ref ax) rfl dX3_turn_9 ?_
  refine lv_iload_n hx hb dX3_turn_12 rfl (lv_at hl 1 rfl) ?_
  refine g_iald (i := a) (v := (X a)) hx hb hK hP 1 rfl (by decide) (by omega) (hX a (by omega)) dX3_turn_13 ?_
  refine lv_isub hx hb dX3_turn_14 ?_
  refine lv_aload_n hx hb dX3_turn_15 rfl (lv_at hl 0 rfl) ?_
  refine g_get (C := RX3) (T := TX3) (N := 3) F hK hP i_X3_turn_X3 0 rfl rfl 1 (by decide) k_X3_turn_f15 (v := .ref ay) rfl dX3_turn_16 ?_
  refine lv_iload_n hx hb dX3_turn_19 rfl (lv_at hl 2 rfl) ?_
  refine g_iald (i := k) (v := (Y k)) hx hb hK hP 2 rfl (by decide) (by omega) (hY k (by omega)) dX3_turn_20 ?_
  refine lv_aload_n hx hb dX3_turn_21 rfl (lv_at hl 0 rfl) ?_
  refine g_get (C := RX3) (T := TX3) (N := 3) F hK hP i_X3_turn_X3 0 rfl rfl 1 (by decide) k_X3_turn_f15 (v := .ref ay) rfl dX3_turn_22 ?_
  refine lv_iload_n hx hb dX3_turn_25 rfl (lv_at hl 1 rfl) ?_
  refine g_iald (i := a) (v := (Y a)) hx hb hK hP 2 rfl (by decide) (by omega) (hY a (by omega)) dX3_turn_26 ?_
  refine lv_isub hx hb dX3_turn_27 ?_
  refine lv_imul hx hb dX3_turn_28 ?_
  refine lv_istore_n (lv' := [(3, .int (((X (a + 1)) - (X a)) * ((Y k) - (Y a)))), (0, .ref po), (1, .int (nI a)), (2, .int (nI k))]) hx hb dX3_turn_29 rfl hl (by decide) rfl (fun ls hl => ?_)
  refine lv_aload_n hx hb dX3_turn_30 rfl (lv_at hl 1 rfl) ?_
  refine g_get (C := RX3) (T := TX3) (N := 3) F hK hP i_X3_turn_X3 0 rfl rfl 1 (by decide) k_X3_turn_f15 (v := .ref ay) rfl dX3_turn_31 ?_
  refine lv_iload_n hx hb dX3_turn_34 rfl (lv_at hl 2 rfl) ?_
  refine lv_iconst (v := 1) hx hb dX3_turn_35 (by decide) ?_
  refine n_iadd (a := a) (b := 1) (d := a + 1) hx hb dX3_turn_36 (by omega) ?_
  refine g_iald (i := a + 1) (v := (Y (a + 1))) hx hb hK hP 2 rfl (by decide) (by omega) (hY (a + 1) (by omega)) dX3_turn_37 ?_
  refine lv_aload_n hx hb dX3_turn_38 rfl (lv_at hl 1 rfl) ?_
  refine g_get (C := RX3) (T := TX3) (N := 3) F hK hP i_X3_turn_X3 0 rfl rfl 1 (by decide) k_X3_turn_f15 (v := .ref ay) rfl dX3_turn_39 ?_
  refine lv_iload_n hx hb dX3_turn_42 rfl (lv_at hl 2 rfl) ?_
  refine g_iald (i := a) (v := (Y a)) hx hb hK hP 2 rfl (by decide) (by omega) (hY a (by omega)) dX3_turn_43 ?_
  refine lv_isub hx hb dX3_turn_44 ?_
  refine lv_aload_n hx hb dX3_turn_45 rfl (lv_at hl 1 rfl) ?_
  refine g_get (C := RX3) (T := TX3) (N := 3) F hK hP i_X3_turn_X3 0 rfl rfl 0 (by decide) k_X3_turn_f9 (v := .ref ax) rfl dX3_turn_46 ?_
  refine lv_iload_n hx hb dX3_turn_49 rfl (lv_at hl 3 rfl) ?_
  refine g_iald (i := k) (v := (X k)) hx hb hK hP 1 rfl (by decide) (by omega) (hX k (by omega)) dX3_turn_50 ?_
  refine lv_aload_n hx hb dX3_turn_51 rfl (lv_at hl 1 rfl) ?_
  refine g_get (C := RX3) (T := TX3) (N := 3) F hK hP i_X3_turn_X3 0 rfl rfl 0 (by decide) k_X3_turn_f9 (v := .ref ax) rfl dX3_turn_52 ?_
  refine lv_iload_n hx hb dX3_turn_55 rfl (lv_at hl 2 rfl) ?_
  refine g_iald (i := a) (v := (X a)) hx hb hK hP 1 rfl (by decide) (by omega) (hX a (by omega)) dX3_turn_56 ?_
  refine lv_isub hx hb dX3_turn_57 ?_
  refine lv_imul hx hb dX3_turn_58 ?_
  refine lv_istore (lv' := [(4, .int (((Y (a + 1)) - (Y a)) * ((X k) - (X a)))), (3, .int (((X (a + 1)) - (X a)) * ((Y k) - (Y a)))), (0, .ref po), (1, .int (nI a)), (2, .int (nI k))]) hx hb dX3_turn_59 hl (by decide) rfl (fun ls hl => ?_)
  refine lv_iload_n hx hb dX3_turn_61 rfl (lv_at hl 1 rfl) ?_
  refine lv_iload hx hb dX3_turn_62 (lv_at hl 0 rfl) ?_
  refine g_SI (wr := [gO po 3 [.ref ax, .ref ay, .int (nI n)], gI g ax 48 fx, gI g ay 48 fy]) (As := [.int (((X (a + 1)) - (X a)) * ((Y k) - (Y a))), .int (((Y (a + 1)) - (Y a)) * ((X k) - (X a)))]) (rest := []) (n := 2) F (c_J6_compare_7cf53 l g (((X (a + 1)) - (X a)) * ((Y k) - (Y a))) (((Y (a + 1)) - (Y a)) * ((X k) - (X a)))) gX3_turn_J6_compare_7cf53 rfl (by decide) ⟨by decide, by decide⟩ rfl hl.1 rfl (Nat.le_of_ble_eq_true rfl) dX3_turn_64 ⟨Nat.le_of_ble_eq_true rfl, Nat.le_of_ble_eq_true rfl⟩ hK hP hD hS hA [] [0, 1, 2] (by decide) rfl rfl (by decide) (by decide) (fun r_64 u_64 H locs hw_64 hP hD hS => ?_)
  have hP : gP g [gO po 3 [.ref ax, .ref ay, .int (nI n)], gI g ax 48 fx, gI g ay 48 fy] H := hP
  have hD : va_D A [gO po 3 [.ref ax, .ref ay, .int (nI n)], gI g ax 48 fx, gI g ay 48 fy] := hD
  obtain rfl := hw_64
  exact hret _ _ _ _ (cmp3 (((X (a + 1)) - (X a)) * ((Y k) - (Y a))) (((Y (a + 1)) - (Y a)) * ((X k) - (X a)))) () dX3_turn_67 rfl (rfl) hP hD hS

abbrev rm_X3_straddles : Room := { frames := 2, cells := 0, slots := 0, locals := 45 }
set_option maxHeartbeats 4000000 in
set_option maxRecDepth 100000 in
theorem c_X3_straddles (l : Launch) (g : gT) (po : Nat) (ax : Nat) (ay : Nat) (n : Nat) (fx : Nat → Int32) (fy : Nat → Int32) (X : Nat → Int32) (Y : Nat → Int32) (a : Nat) (b : Nat) (hn : n ≤ 48) (hX : ∀ k, k < n → fx k = X k) (hY : ∀ k, k < n → fy k = Y k) (ha : a + 1 < n) (hb_ : b + 1 < n) : CtI l g yX3_straddles wsX3_straddles rm_X3_straddles [.ref po, .int (nI a), .int (nI b)] [gO po 3 [.ref ax, .ref ay, .int (nI n)], gI g ax 48 fx, gI g ay 48 fy] (fun (r : Int32) (_ : Unit) => (r = 1 ∧ strB X Y a b = true) ∨ (r = 0 ∧ ¬ strB X Y a b = true)) (fun (_ : Unit) => [gO po 3 [.ref ax, .ref ay, .int (nI n)], gI g ax 48 fx, gI g ay 48 fy]) := by
  refine CtI.of (cc := cX3_straddles) (maxL := 3) (ret := .boolean) (by decide) rfl (Nat.le_of_ble_eq_true rfl) ?_
  intro p e s m args below meth c A Q hnm F hK hA hP hD hS hret ls hl
  have hx := F.1
  have hb := F.2.1
  have hl : lv_has ls 3 [(0, .ref po), (1, .int (nI a)), (2, .int (nI b))] := hl
  refine lv_aload_n hx hb dX3_straddles_0 rfl (lv_at hl 0 rfl) ?_
  refine lv_iload_n hx hb dX3_straddles_1 rfl (lv_at hl 1 rfl) ?_
  refine lv_iload_n hx hb dX3_straddles_2 rfl (lv_at hl 2 rfl) ?_
  refine g_VI (wr := []) (As := [.int (nI a), .int (nI b)]) (rest := []) (n := 2) F (c_X3_turn l g po ax ay n fx fy X Y a b (by omega) (hX) (hY) (by omega) (by omega)) gX3_straddles_X3_turn rfl (by decide) ⟨by decide, by decide⟩ 0 3 rfl rfl rfl rfl hl.1 rfl (Nat.le_of_ble_eq_true rfl) dX3_straddles_3 ⟨Nat.le_of_ble_eq_true rfl, Nat.le_of_ble_eq_true rfl⟩ hK hP hD hS hA [0, 1, 2] [] (by decide) rfl rfl (by decide) (by decide) (fun r_3 u_3 H locs hw_3 hP hD hS => ?_)
  have hP : gP g [gO po 3 [.ref ax, .ref ay, .int (nI n)], gI g ax 48 fx, gI g ay 48 fy] H := hP
  have hD : va_D A [gO po 3 [.ref ax, .ref ay, .int (nI n)], gI g ax 48 fx, gI g ay 48 fy] := hD
  obtain rfl := hw_3
  refine lv_aload_n hx hb dX3_straddles_6 rfl (lv_at hl 0 rfl) ?_
  refine lv_iload_n hx hb dX3_straddles_7 rfl (lv_at hl 1 rfl) ?_
  refine lv_iload_n hx hb dX3_straddles_8 rfl (lv_at hl 2 rfl) ?_
  refine lv_iconst (v := 1) hx hb dX3_straddles_9 (by decide) ?_
  refine n_iadd (a := b) (b := 1) (d := b + 1) hx hb dX3_straddles_10 (by omega) ?_
  refine g_VI (wr := []) (As := [.int (nI a), .int (nI (b + 1))]) (rest := [.int (turnS X Y a b)]) (n := 2) F (c_X3_turn l g po ax ay n fx fy X Y a (b + 1) (by omega) (hX) (hY) (by omega) (by omega)) gX3_straddles_X3_turn rfl (by decide) ⟨by decide, by decide⟩ 0 3 rfl rfl rfl rfl hl.1 rfl (Nat.le_of_ble_eq_true rfl) dX3_straddles_11 ⟨Nat.le_of_ble_eq_true rfl, Nat.le_of_ble_eq_true rfl⟩ hK hP hD hS hA [0, 1, 2] [] (by decide) rfl rfl (by decide) (by decide) (fun r_11 u_11 H locs hw_11 hP hD hS => ?_)
  have hP : gP g [gO po 3 [.ref ax, .ref ay, .int (nI n)], gI g ax 48 fx, gI g ay 48 fy] H := hP
  have hD : va_D A [gO po 3 [.ref ax, .ref ay, .int (nI n)], gI g ax 48 fx, gI g ay 48 fy] := hD
  obtain rfl := hw_11
  refine lv_imul hx hb dX3_straddles_14 ?_
  refine lv_if_gt (tgt := 22) hx hb dX3_straddles_15 (by decide) (fun c_15 => ?_) (fun c_15 => ?_)
  · refine lv_iconst (v := 0) hx hb dX3_straddles_22 (by decide) ?_
    exact hret _ _ _ _ 0 () dX3_straddles_23 rfl (by simp [strB, c_15]) hP hD hS
  · refine lv_iconst (v := 1) hx hb dX3_straddles_18 (by decide) ?_
    refine lv_goto (tgt := 23) hx hb dX3_straddles_19 (by decide) ?_
    exact hret _ _ _ _ 1 () dX3_straddles_23 rfl (by simp [strB, c_15]) hP hD hS

abbrev rm_X3_piecesMeet : Room := { frames := 3, cells := 0, slots := 0, locals := 67 }
theorem i_X3_piecesMeet_X3 : ∀ w ∈ wsX30, w ∈ wsX3_piecesMeet := by decide +kernel
theorem k_X3_piecesMeet_f9 : Cond.fieldLink RX3 9 (TX3 0).1 (TX3 0).2.1 (TX3 0).2.2.1 ∈ wsX3_piecesMeet := by decide +kernel
theorem k_X3_piecesMeet_f15 : Cond.fieldLink RX3 15 (TX3 1).1 (TX3 1).2.1 (TX3 1).2.2.1 ∈ wsX3_piecesMeet := by decide +kernel
set_option maxHeartbeats 4000000 in
set_option maxRecDepth 100000 in
theorem c_X3_piecesMeet (l : Launch) (g : gT) (po : Nat) (ax : Nat) (ay : Nat) (n : Nat) (fx : Nat → Int32) (fy : Nat → Int32) (X : Nat → Int32) (Y : Nat → Int32) (a : Nat) (b : Nat) (hn : n ≤ 48) (hX : ∀ k, k < n → fx k = X k) (hY : ∀ k, k < n → fy k = Y k) (ha : a + 1 < n) (hb_ : b + 1 < n) : CtI l g yX3_piecesMeet wsX3_piecesMeet rm_X3_piecesMeet [.ref po, .int (nI a), .int (nI b)] [gO po 3 [.ref ax, .ref ay, .int (nI n)], gI g ax 48 fx, gI g ay 48 fy] (fun (r : Int32) (_ : Unit) => (r = 1 ∧ meetB X Y a b = true) ∨ (r = 0 ∧ ¬ meetB X Y a b = true)) (fun (_ : Unit) => [gO po 3 [.ref ax, .ref ay, .int (nI n)], gI g ax 48 fx, gI g ay 48 fy]) := by
  refine CtI.of (cc := cX3_piecesMeet) (maxL := 3) (ret := .boolean) (by decide) rfl (Nat.le_of_ble_eq_true rfl) ?_
  intro p e s m args below meth c A Q hnm F hK hA hP hD hS hret ls hl
  have hx := F.1
  have hb := F.2.1
  have hl : lv_has ls 3 [(0, .ref po), (1, .int (nI a)), (2, .int (nI b))] := hl
  refine lv_aload_n hx hb dX3_piecesMeet_0 rfl (lv_at hl 0 rfl) ?_
  refine g_get (C := RX3) (T := TX3) (N := 3) F hK hP i_X3_piecesMeet_X3 0 rfl rfl 0 (by decide) k_X3_piecesMeet_f9 (v := .ref ax) rfl dX3_piecesMeet_1 ?_
  refine lv_iload_n hx hb dX3_piecesMeet_4 rfl (lv_at hl 1 rfl) ?_
  refine lv_iload_n hx hb dX3_piecesMeet_5 rfl (lv_at hl 2 rfl) ?_
  refine g_SI (wr := [gO po 3 [.ref ax, .ref ay, .int (nI n)], gI g ay 48 fy]) (As := [.ref ax, .int (nI a), .int (nI b)]) (rest := []) (n := 3) F (c_X3_spansMeet l g ax n fx X a b (by omega) (hX) (by omega) (by omega)) gX3_piecesMeet_X3_spansMeet rfl (by decide) ⟨by decide, by decide⟩ rfl hl.1 rfl (Nat.le_of_ble_eq_true rfl) dX3_piecesMeet_6 ⟨Nat.le_of_ble_eq_true rfl, Nat.le_of_ble_eq_true rfl⟩ hK hP hD hS hA [1] [0, 2] (by decide) rfl rfl (by decide) (by decide) (fun r_6 u_6 H locs hw_6 hP hD hS => ?_)
  have hP : gP g [gO po 3 [.ref ax, .ref ay, .int (nI n)], gI g ay 48 fy, gI g ax 48 fx] H := hP
  have hD : va_D A [gO po 3 [.ref ax, .ref ay, .int (nI n)], gI g ay 48 fy, gI g ax 48 fx] := hD
  rcases hw_6 with ⟨rfl, b_6⟩ | ⟨rfl, b_6⟩
  · refine lv_if_eq (tgt := 46) hx hb dX3_piecesMeet_9 (by decide) (fun h => absurd h (by decide)) (fun _ => ?_)
    refine lv_aload_n hx hb dX3_piecesMeet_12 rfl (lv_at hl 0 rfl) ?_
    refine g_get (C := RX3) (T := TX3) (N := 3) F hK hP i_X3_piecesMeet_X3 0 rfl rfl 1 (by decide) k_X3_piecesMeet_f15 (v := .ref ay) rfl dX3_piecesMeet_13 ?_
    refine lv_iload_n hx hb dX3_piecesMeet_16 rfl (lv_at hl 1 rfl) ?_
    refine lv_iload_n hx hb dX3_piecesMeet_17 rfl (lv_at hl 2 rfl) ?_
    refine g_SI (wr := [gO po 3 [.ref ax, .ref ay, .int (nI n)], gI g ax 48 fx]) (As := [.ref ay, .int (nI a), .int (nI b)]) (rest := []) (n := 3) F (c_X3_spansMeet l g ay n fy Y a b (by omega) (hY) (by omega) (by omega)) gX3_piecesMeet_X3_spansMeet rfl (by decide) ⟨by decide, by decide⟩ rfl hl.1 rfl (Nat.le_of_ble_eq_true rfl) dX3_piecesMeet_18 ⟨Nat.le_of_ble_eq_true rfl, Nat.le_of_ble_eq_true rfl⟩ hK hP hD hS hA [1] [0, 2] (by decide) rfl rfl (by decide) (by decide) (fun r_18 u_18 H locs hw_18 hP hD hS => ?_)
    have hP : gP g [gO po 3 [.ref ax, .ref ay, .int (nI n)], gI g ax 48 fx, gI g ay 48 fy] H := hP
    have hD : va_D A [gO po 3 [.ref ax, .ref ay, .int (nI n)], gI g ax 48 fx, gI g ay 48 fy] := hD
    rcases hw_18 with ⟨rfl, b_18⟩ | ⟨rfl, b_18⟩
    · refine lv_if_eq (tgt := 46) hx hb dX3_piecesMeet_21 (by decide) (fun h => absurd h (by decide)) (fun _ => ?_)
      refine lv_aload_n hx hb dX3_piecesMeet_24 rfl (lv_at hl 0 rfl) ?_
      refine lv_iload_n hx hb dX3_piecesMeet_25 rfl (lv_at hl 1 rfl) ?_
      refine lv_iload_n hx hb dX3_piecesMeet_26 rfl (lv_at hl 2 rfl) ?_
      refine g_VI (wr := []) (As := [.int (nI a), .int (nI b)]) (rest := []) (n := 2) F (c_X3_straddles l g po ax ay n fx fy X Y a b (by omega) (hX) (hY) (by omega) (by omega)) gX3_piecesMeet_X3_straddles rfl (by decide) ⟨by decide, by decide⟩ 0 3 rfl rfl rfl rfl hl.1 rfl (Nat.le_of_ble_eq_true rfl) dX3_piecesMeet_27 ⟨Nat.le_of_ble_eq_true rfl, Nat.le_of_ble_eq_true rfl⟩ hK hP hD hS hA [0, 1, 2] [] (by decide) rfl rfl (by decide) (by decide) (fun r_27 u_27 H locs hw_27 hP hD hS => ?_)
      have hP : gP g [gO po 3 [.ref ax, .ref ay, .int (nI n)], gI g ax 48 fx, gI g ay 48 fy] H := hP
      have hD : va_D A [gO po 3 [.ref ax, .ref ay, .int (nI n)], gI g ax 48 fx, gI g ay 48 fy] := hD
      rcases hw_27 with ⟨rfl, b_27⟩ | ⟨rfl, b_27⟩
      · refine lv_if_eq (tgt := 46) hx hb dX3_piecesMeet_30 (by decide) (fun h => absurd h (by decide)) (fun _ => ?_)
        refine lv_aload_n hx hb dX3_piecesMeet_33 rfl (lv_at hl 0 rfl) ?_
        refine lv_iload_n hx hb dX3_piecesMeet_34 rfl (lv_at hl 2 rfl) ?_
        refine lv_iload_n hx hb dX3_piecesMeet_35 rfl (lv_at hl 1 rfl) ?_
        refine g_VI (wr := []) (As := [.int (nI b), .int (nI a)]) (rest := []) (n := 2) F (c_X3_straddles l g po ax ay n fx fy X Y b a (by omega) (hX) (hY) (by omega) (by omega)) gX3_piecesMeet_X3_straddles rfl (by decide) ⟨by decide, by decide⟩ 0 3 rfl rfl rfl rfl hl.1 rfl (Nat.le_of_ble_eq_true rfl) dX3_piecesMeet_36 ⟨Nat.le_of_ble_eq_true rfl, Nat.le_of_ble_eq_true rfl⟩ hK hP hD hS hA [0, 1, 2] [] (by decide) rfl rfl (by decide) (by decide) (fun r_36 u_36 H locs hw_36 hP hD hS => ?_)
        have hP : gP g [gO po 3 [.ref ax, .ref ay, .int (nI n)], gI g ax 48 fx, gI g ay 48 fy] H := hP
        have hD : va_D A [gO po 3 [.ref ax, .ref ay, .int (nI n)], gI g ax 48 fx, gI g ay 48 fy] := hD
        rcases hw_36 with ⟨rfl, b_36⟩ | ⟨rfl, b_36⟩
        · refine lv_if_eq (tgt := 46) hx hb dX3_piecesMeet_39 (by decide) (fun h => absurd h (by decide)) (fun _ => ?_)
          refine lv_iconst (v := 1) hx hb dX3_piecesMeet_42 (by decide) ?_
          refine lv_goto (tgt := 47) hx hb dX3_piecesMeet_43 (by decide) ?_
          exact hret _ _ _ _ 1 () dX3_piecesMeet_47 rfl (by simp [meetB, b_6, b_18, b_27, b_36]) hP hD hS
        · refine lv_if_eq (tgt := 46) hx hb dX3_piecesMeet_39 (by decide) (fun _ => ?_) (fun h => absurd (by decide) h)
          refine lv_iconst (v := 0) hx hb dX3_piecesMeet_46 (by decide) ?_
          exact hret _ _ _ _ 0 () dX3_piecesMeet_47 rfl (by simp [meetB, b_6, b_18, b_27, b_36]) hP hD hS
      · refine lv_if_eq (tgt := 46) hx hb dX3_piecesMeet_30 (by decide) (fun _ => ?_) (fun h => absurd (by decide) h)
        refine lv_iconst (v := 0) hx hb dX3_piecesMeet_46 (by decide) ?_
        exact hret _ _ _ _ 0 () dX3_piecesMeet_47 rfl (by simp [meetB, b_6, b_18, b_27]) hP hD hS
    · refine lv_if_eq (tgt := 46) hx hb dX3_piecesMeet_21 (by decide) (fun _ => ?_) (fun h => absurd (by decide) h)
      refine lv_iconst (v := 0) hx hb dX3_piecesMeet_46 (by decide) ?_
      exact hret _ _ _ _ 0 () dX3_piecesMeet_47 rfl (by simp [meetB, b_6, b_18]) hP hD hS
  · refine lv_if_eq (tgt := 46) hx hb dX3_piecesMeet_9 (by decide) (fun _ => ?_) (fun h => absurd (by decide) h)
    refine lv_iconst (v := 0) hx hb dX3_piecesMeet_46 (by decide) ?_
    have hP9 := hP.sub (ws' := [gO po 3 [.ref ax, .ref ay, .int (nI n)], gI g ax 48 fx, gI g ay 48 fy]) [0, 2, 1] rfl
    have hD9 := hD.sub (ws' := [gO po 3 [.ref ax, .ref ay, .int (nI n)], gI g ax 48 fx, gI g ay 48 fy]) [0, 2, 1] (by decide) rfl
    exact hret _ _ _ _ 0 () dX3_piecesMeet_47 rfl (by simp [meetB, b_6]) hP9 hD9 hS

abbrev rm_X3_countCrossings : Room := { frames := 4, cells := 0, slots := 0, locals := 89 }
theorem i_X3_countCrossings_X3 : ∀ w ∈ wsX30, w ∈ wsX3_countCrossings := by decide +kernel
theorem k_X3_countCrossings_f18 : Cond.fieldLink RX3 18 (TX3 2).1 (TX3 2).2.1 (TX3 2).2.2.1 ∈ wsX3_countCrossings := by decide +kernel
set_option maxHeartbeats 4000000 in
set_option maxRecDepth 100000 in
theorem c_X3_countCrossings (l : Launch) (g : gT) (po : Nat) (ax : Nat) (ay : Nat) (n : Nat) (fx : Nat → Int32) (fy : Nat → Int32) (X : Nat → Int32) (Y : Nat → Int32) (hn : n ≤ 48) (hX : ∀ k, k < n → fx k = X k) (hY : ∀ k, k < n → fy k = Y k) (h1n : 1 ≤ n) : CtI l g yX3_countCrossings wsX3_countCrossings rm_X3_countCrossings [.ref po] [gO po 3 [.ref ax, .ref ay, .int (nI n)], gI g ax 48 fx, gI g ay 48 fy] (fun (r : Int32) (_ : Unit) => r = nI (crossS X Y n (n - 1))) (fun (_ : Unit) => [gO po 3 [.ref ax, .ref ay, .int (nI n)], gI g ax 48 fx, gI g ay 48 fy]) := by
  refine CtI.of (cc := cX3_countCrossings) (maxL := 4) (ret := .int) (by decide) rfl (Nat.le_of_ble_eq_true rfl) ?_
  intro p e s m args below meth c A Q hnm F hK hA hP hD hS hret ls hl
  have hx := F.1
  have hb := F.2.1
  have hl : lv_has ls 4 [(0, .ref po)] := hl
  refine lv_iconst (v := 0) hx hb dX3_countCrossings_0 (by decide) ?_
  refine lv_istore_n (lv' := [(1, .int 0), (0, .ref po)]) hx hb dX3_countCrossings_1 rfl hl (by decide) rfl (fun ls hl => ?_)
  refine lv_iconst (v := 0) hx hb dX3_countCrossings_2 (by decide) ?_
  refine lv_istore_n (lv' := [(2, .int 0), (1, .int 0), (0, .ref po)]) hx hb dX3_countCrossings_3 rfl hl (by decide) rfl (fun ls hl => ?_)
  have L4 : ∀ (fuel : Nat) (cn : Nat) (a : Nat) (ls : Array Slot) (H : Heap) (locs : List Loc), n - a < fuel → (a + 1 ≤ n) → (cn = crossS X Y n a) → lv_has ls 4 [(0, .ref po), (1, .int (nI cn)), (2, .int (nI a))] → gP g [gO po 3 [.ref ax, .ref ay, .int (nI n)], gI g ax 48 fx, gI g ay 48 fy] H → va_D A [gO po 3 [.ref ax, .ref ay, .int (nI n)], gI g ax 48 fx, gI g ay 48 fy] → va_S A s.heap H locs → W p l e rm_X3_countCrossings s m args below meth c H locs 0 0 Q (F0 m 4 ls []) := by
    intro fuel
    induction fuel with
    | zero => intro cn a _ _ _ hk; exact absurd hk (Nat.not_lt_zero _)
    | succ fuel_4 ih_4 =>
      intro cn a ls H locs hk_4 ha hc hl hP hD hS
      refine lv_iload_n hx hb dX3_countCrossings_4 rfl (lv_at hl 2 rfl) ?_
      refine lv_iconst (v := 1) hx hb dX3_countCrossings_5 (by decide) ?_
      refine n_iadd (a := a) (b := 1) (d := a + 1) hx hb dX3_countCrossings_6 (by omega) ?_
      refine lv_aload_n hx hb dX3_countCrossings_7 rfl (lv_at hl 0 rfl) ?_
      refine g_get (C := RX3) (T := TX3) (N := 3) F hK hP i_X3_countCrossings_X3 0 rfl rfl 2 (by decide) k_X3_countCrossings_f18 (v := .int (nI n)) rfl dX3_countCrossings_8 ?_
      refine n_icmp_ge (a := a + 1) (b := n) (tgt := 52) hx hb dX3_countCrossings_11 (by decide) (by omega) (by omega) (fun c_11 => ?_) (fun c_11 => ?_)
      · refine lv_iload_n hx hb dX3_countCrossings_52 rfl (lv_at hl 1 rfl) ?_
        exact hret _ _ _ _ (nI cn) () dX3_countCrossings_53 rfl (by rw [hc, show a = n - 1 by omega]) hP hD hS
      · refine lv_iload_n hx hb dX3_countCrossings_14 rfl (lv_at hl 2 rfl) ?_
        refine lv_iconst (v := 2) hx hb dX3_countCrossings_15 (by decide) ?_
        refine n_iadd (a := a) (b := 2) (d := a + 2) hx hb dX3_countCrossings_16 (by omega) ?_
        refine lv_istore_n (lv' := [(3, .int (nI (a + 2))), (0, .ref po), (1, .int (nI cn)), (2, .int (nI a))]) hx hb dX3_countCrossings_17 rfl hl (by decide) rfl (fun ls hl => ?_)
        have L18 : ∀ (fuel : Nat) (c2 : Nat) (d : Nat) (ls : Array Slot) (H : Heap) (locs : List Loc), n - d < fuel → (d ≤ n - 1 - (a + 2)) → (c2 = crossS X Y n a + crossR X Y a d) → lv_has ls 4 [(0, .ref po), (1, .int (nI c2)), (2, .int (nI a)), (3, .int (nI (a + 2 + d)))] → gP g [gO po 3 [.ref ax, .ref ay, .int (nI n)], gI g ax 48 fx, gI g ay 48 fy] H → va_D A [gO po 3 [.ref ax, .ref ay, .int (nI n)], gI g ax 48 fx, gI g ay 48 fy] → va_S A s.heap H locs → W p l e rm_X3_countCrossings s m args below meth c H locs 0 0 Q (F0 m 18 ls []) := by
          intro fuel
          induction fuel with
          | zero => intro c2 d _ _ _ hk; exact absurd hk (Nat.not_lt_zero _)
          | succ fuel_18 ih_18 =>
            intro c2 d ls H locs hk_18 hd hc2 hl hP hD hS
            refine lv_iload_n hx hb dX3_countCrossings_18 rfl (lv_at hl 3 rfl) ?_
            refine lv_iconst (v := 1) hx hb dX3_countCrossings_19 (by decide) ?_
            refine n_iadd (a := a + 2 + d) (b := 1) (d := a + 2 + d + 1) hx hb dX3_countCrossings_20 (by omega) ?_
            refine lv_aload_n hx hb dX3_countCrossings_21 rfl (lv_at hl 0 rfl) ?_
            refine g_get (C := RX3) (T := TX3) (N := 3) F hK hP i_X3_countCrossings_X3 0 rfl rfl 2 (by decide) k_X3_countCrossings_f18 (v := .int (nI n)) rfl dX3_countCrossings_22 ?_
            refine n_icmp_ge (a := a + 2 + d + 1) (b := n) (tgt := 46) hx hb dX3_countCrossings_25 (by decide) (by omega) (by omega) (fun c_25 => ?_) (fun c_25 => ?_)
            · refine lv_iinc (v := (nI (a + 1))) (lv' := [(2, .int (nI (a + 1))), (0, .ref po), (1, .int (nI c2)), (3, .int (nI (a + 2 + d)))]) hx hb dX3_countCrossings_46 hl (k := 2) rfl (g_inc a 1 (by decide)) (by decide) rfl (fun ls hl => ?_)
              refine lv_goto (tgt := 4) hx hb dX3_countCrossings_49 (by decide) ?_
              exact ih_4 c2 (a + 1) ls _ _ (by omega) (by omega) (by rw [hc2, show d = n - 1 - (a + 2) by omega]; rfl) (lv_sub hl [1, 2, 0] rfl) hP hD hS
            · refine lv_aload_n hx hb dX3_countCrossings_28 rfl (lv_at hl 0 rfl) ?_
              refine lv_iload_n hx hb dX3_countCrossings_29 rfl (lv_at hl 2 rfl) ?_
              refine lv_iload_n hx hb dX3_countCrossings_30 rfl (lv_at hl 3 rfl) ?_
              refine g_VI (wr := []) (As := [.int (nI a), .int (nI (a + 2 + d))]) (rest := []) (n := 2) F (c_X3_piecesMeet l g po ax ay n fx fy X Y a (a + 2 + d) (by omega) (hX) (hY) (by omega) (by omega)) gX3_countCrossings_X3_piecesMeet rfl (by decide) ⟨by decide, by decide⟩ 0 3 rfl rfl rfl rfl hl.1 rfl (Nat.le_of_ble_eq_true rfl) dX3_countCrossings_31 ⟨Nat.le_of_ble_eq_true rfl, Nat.le_of_ble_eq_true rfl⟩ hK hP hD hS hA [0, 1, 2] [] (by decide) rfl rfl (by decide) (by decide) (fun r_31 u_31 H locs hw_31 hP hD hS => ?_)
              have hP : gP g [gO po 3 [.ref ax, .ref ay, .int (nI n)], gI g ax 48 fx, gI g ay 48 fy] H := hP
              have hD : va_D A [gO po 3 [.ref ax, .ref ay, .int (nI n)], gI g ax 48 fx, gI g ay 48 fy] := hD
              rcases hw_31 with ⟨rfl, b_31⟩ | ⟨rfl, b_31⟩
              · refine lv_if_eq (tgt := 40) hx hb dX3_countCrossings_34 (by decide) (fun h => absurd h (by decide)) (fun _ => ?_)
                refine lv_iinc (v := (nI (c2 + 1))) (lv' := [(1, .int (nI (c2 + 1))), (0, .ref po), (2, .int (nI a)), (3, .int (nI (a + 2 + d)))]) hx hb dX3_countCrossings_37 hl (k := 1) rfl (g_inc c2 1 (by decide)) (by decide) rfl (fun ls hl => ?_)
                refine lv_iinc (v := (nI (a + 2 + d + 1))) (lv' := [(3, .int (nI (a + 2 + d + 1))), (1, .int (nI (c2 + 1))), (0, .ref po), (2, .int (nI a))]) hx hb dX3_countCrossings_40 hl (k := 3) rfl (g_inc (a + 2 + d) 1 (by decide)) (by decide) rfl (fun ls hl => ?_)
                refine lv_goto (tgt := 18) hx hb dX3_countCrossings_43 (by decide) ?_
                exact ih_18 (c2 + 1) (d + 1) ls _ _ (by omega) (by omega) (by rw [hc2]; exact (congrArg (fun z => crossS X Y n a + z) (cntB_y (q := fun k => meetB X Y a (a + 2 + k)) b_31)).symm) (lv_sub hl [2, 1, 3, 0] rfl) hP hD hS
              · refine lv_if_eq (tgt := 40) hx hb dX3_countCrossings_34 (by decide) (fun _ => ?_) (fun h => absurd (by decide) h)
                refine lv_iinc (v := (nI (a + 2 + d + 1))) (lv' := [(3, .int (nI (a + 2 + d + 1))), (0, .ref po), (1, .int (nI c2)), (2, .int (nI a))]) hx hb dX3_countCrossings_40 hl (k := 3) rfl (g_inc (a + 2 + d) 1 (by decide)) (by decide) rfl (fun ls hl => ?_)
                refine lv_goto (tgt := 18) hx hb dX3_countCrossings_43 (by decide) ?_
                exact ih_18 c2 (d + 1) ls _ _ (by omega) (by omega) (by rw [hc2]; exact (congrArg (fun z => crossS X Y n a + z) (cntB_n (q := fun k => meetB X Y a (a + 2 + k)) b_31)).symm) (lv_sub hl [1, 2, 3, 0] rfl) hP hD hS
        exact L18 ((n - 0) + 1) cn 0 ls _ _ (Nat.lt_succ_self _) (by omega) (hc) (lv_sub hl [1, 2, 3, 0] rfl) hP hD hS
  exact L4 ((n - 0) + 1) 0 0 ls _ _ (Nat.lt_succ_self _) (by omega) (rfl) (lv_sub hl [2, 1, 0] rfl) hP hD hS

abbrev rm_X3_init : Room := { frames := 1, cells := 2, slots := 96, locals := 20 }
theorem k_X3_init_m3 : Cond.methodLink RX3 3 objectInit ∈ wsX3_init := by decide +kernel
theorem k_X3_init_oi : Cond.instanceMethod objectInit ∈ wsX3_init := by decide +kernel
theorem k_X3_init_oc : Cond.code objectInit ⟨#[0xb1]⟩ 1 none ∈ wsX3_init := by decide +kernel
theorem k_X3_init_aint : Cond.arrayClass .int ∈ wsX3_init := by decide +kernel
theorem i_X3_init_X3 : ∀ w ∈ wsX30, w ∈ wsX3_init := by decide +kernel
theorem k_X3_init_f9 : Cond.fieldLink RX3 9 (TX3 0).1 (TX3 0).2.1 (TX3 0).2.2.1 ∈ wsX3_init := by decide +kernel
theorem k_X3_init_f15 : Cond.fieldLink RX3 15 (TX3 1).1 (TX3 1).2.1 (TX3 1).2.2.1 ∈ wsX3_init := by decide +kernel
set_option maxHeartbeats 4000000 in
set_option maxRecDepth 100000 in
theorem c_X3_init (l : Launch) (g : gT) (po : Nat)  : CtV l g yX3_init wsX3_init rm_X3_init [.ref po] [gO po 3 [.null, .null, .int 0]] (fun (u : Nat × Nat) => True) (fun (u : Nat × Nat) => [gO po 3 [.ref u.1, .ref u.2, .int 0], gI g u.1 48 (fun _ => 0), gI g u.2 48 (fun _ => 0)]) := by
  refine CtV.of (cc := cX3_init) (maxL := 1) (by decide) rfl (Nat.le_of_ble_eq_true rfl) ?_
  intro p e s m args below meth c A Q hnm F hK hA hP hD hS hret ls hl
  have hx := F.1
  have hb := F.2.1
  have hl : lv_has ls 1 [(0, .ref po)] := hl
  refine lv_aload_n hx hb dX3_init_0 rfl (lv_at hl 0 rfl) ?_
  refine W.objInit hx hb F.2.2.2.1 (F.2.2.2.2 _ k_X3_init_m3) (F.2.2.2.2 _ k_X3_init_oi) (F.2.2.2.2 _ k_X3_init_oc) rfl (by rw [F.2.2.1]; exact hl.1) rfl dX3_init_1 (Nat.le_of_ble_eq_true rfl) (Nat.le_of_ble_eq_true rfl) ?_
  refine W.eq (g2 := F0 m 4 ls []) rfl ?_
  refine lv_aload_n hx hb dX3_init_4 rfl (lv_at hl 0 rfl) ?_
  refine lv_bipush (v := 48) hx hb dX3_init_5 (by decide) ?_
  refine g_newi (N := 48) (ws2 := fun q_7 => [gO po 3 [.null, .null, .int 0], gI g q_7 48 (fun _ => 0)]) F k_X3_init_aint hK hP hD hS hA (by decide) (by decide) (by decide) (Nat.le_of_ble_eq_true rfl) (Nat.le_of_ble_eq_true rfl) (fun _ => rfl) dX3_init_7 (fun q_7 H hP hD hS => ?_)
  refine W.widen (k := 1) (n := 48) (Nat.le_of_ble_eq_true rfl) (Nat.le_of_ble_eq_true rfl) ?_
  refine g_putF (C := RX3) (T := TX3) (N := 3) (ws2 := [gO po 3 [.ref q_7, .null, .int 0], gI g q_7 48 (fun _ => 0)]) F hK hP hD hS i_X3_init_X3 tyX3 tyX3_ok nmX3 0 rfl rfl 0 (by decide) k_X3_init_f9 rfl hnm rfl (v := .ref q_7) rfl rfl (Nat.le_of_ble_eq_true rfl) rfl dX3_init_9 (fun H locs hP hD hS => ?_)
  refine lv_aload_n hx hb dX3_init_12 rfl (lv_at hl 0 rfl) ?_
  refine lv_bipush (v := 48) hx hb dX3_init_13 (by decide) ?_
  refine g_newi (N := 48) (ws2 := fun q_15 => [gO po 3 [.ref q_7, .null, .int 0], gI g q_7 48 (fun _ => 0), gI g q_15 48 (fun _ => 0)]) F k_X3_init_aint hK hP hD hS hA (by decide) (by decide) (by decide) (Nat.le_of_ble_eq_true rfl) (Nat.le_of_ble_eq_true rfl) (fun _ => rfl) dX3_init_15 (fun q_15 H hP hD hS => ?_)
  refine W.widen (k := 2) (n := 96) (Nat.le_of_ble_eq_true rfl) (Nat.le_of_ble_eq_true rfl) ?_
  refine g_putF (C := RX3) (T := TX3) (N := 3) (ws2 := [gO po 3 [.ref q_7, .ref q_15, .int 0], gI g q_7 48 (fun _ => 0), gI g q_15 48 (fun _ => 0)]) F hK hP hD hS i_X3_init_X3 tyX3 tyX3_ok nmX3 0 rfl rfl 1 (by decide) k_X3_init_f15 rfl hnm rfl (v := .ref q_15) rfl rfl (Nat.le_of_ble_eq_true rfl) rfl dX3_init_17 (fun H locs hP hD hS => ?_)
  exact hret _ _ _ _ (q_7, q_15) dX3_init_20 (trivial) hP hD hS

