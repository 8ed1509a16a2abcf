set_option maxRecDepth 20000 in
theorem x_X8_point_l : Cond.classLink RX8 140 gE ∈ wsX8_point := by decide +kernel
set_option maxRecDepth 20000 in
theorem x_X8_point_i : Cond.initialized gE ∈ wsX8_point := by decide +kernel
theorem x_X8_point_x : ∀ z ∈ gAt.filter goodWord, z ∈ wsX8_point := fun _ h => List.mem_cons_of_mem _ (List.mem_append_right _ h)
set_option maxRecDepth 20000 in
theorem x_X8_loop_l : Cond.classLink RX8 140 gE ∈ wsX8_loop := by decide +kernel
set_option maxRecDepth 20000 in
theorem x_X8_loop_i : Cond.initialized gE ∈ wsX8_loop := by decide +kernel
theorem x_X8_loop_x : ∀ z ∈ gAt.filter goodWord, z ∈ wsX8_loop := fun _ h => List.mem_cons_of_mem _ (List.mem_append_right _ h)
set_option maxRecDepth 20000 in
theorem x_X8_owner_l : Cond.classLink RX8 140 gE ∈ wsX8_owner := by decide +kernel
set_option maxRecDepth 20000 in
theorem x_X8_owner_i : Cond.initialized gE ∈ wsX8_owner := by decide +kernel
theorem x_X8_owner_x : ∀ z ∈ gAt.filter goodWord, z ∈ wsX8_owner := fun _ h => List.mem_cons_of_mem _ (List.mem_append_right _ h)

abbrev rm_X8_point : Room := { frames := 6, cells := 1, slots := 6, locals := 120 }
theorem i_X8_point_X8 : ∀ w ∈ wsX80, w ∈ wsX8_point := by decide +kernel
theorem k_X8_point_f33 : Cond.fieldLink RX8 33 (TX8 3).1 (TX8 3).2.1 (TX8 3).2.2.1 ∈ wsX8_point := by decide +kernel
theorem i_X8_point_X5 : ∀ w ∈ wsX50, w ∈ wsX8_point := by decide +kernel
theorem k_X8_point_f88 : Cond.fieldLink RX8 88 (TX5 1).1 (TX5 1).2.1 (TX5 1).2.2.1 ∈ wsX8_point := by decide +kernel
theorem i_X8_point_X3 : ∀ w ∈ wsX30, w ∈ wsX8_point := by decide +kernel
theorem k_X8_point_f139 : Cond.fieldLink RX8 139 (TX3 2).1 (TX3 2).2.1 (TX3 2).2.2.1 ∈ wsX8_point := by decide +kernel
set_option maxHeartbeats 4000000 in
set_option maxRecDepth 100000 in
theorem c_X8_point_t1 (l : Launch) (g : gT) (mb : Nat) (ta : Nat) (so : Nat) (to : Nat) (ro : Nat) (tr : Nat) (pl : Nat) (mo : Nat) (ra : Nat) (lo : Nat) (cp : Nat) (sp : Nat) (yr : Nat) (cx : Nat) (cy : Nat) (n : Nat) (fx : Nat → Int32) (fy : Nat → Int32) (X : Nat → Int32) (Y : Nat → Int32) (k : Int32) (v : Int32) (hn : n ≤ 48) (hX : ∀ k, k < n → fx k = X k) (hY : ∀ k, k < n → fy k = Y k) (h : ¬ isW 0 (nI n - 1) k) (hst : l.stackTraces = false) : CtT l g yX8_point wsX8_point rm_X8_point [.ref mb, .int k, .int v] [gO mb 8 [.ref ta, .ref so, .ref to, .ref ro, .ref tr, .ref pl, .ref mo, .ref ra], gO ro 5 [.ref lo, .ref cp, .ref sp, .int (nI yr)], gO cp 3 [.ref cx, .ref cy, .int (nI n)], gI g cx 48 fx, gI g cy 48 fy] := by
  refine CtT.of (cc := cX8_point) (maxL := 3) (ret := .int) hst (by decide) rfl rfl (Nat.le_of_ble_eq_true rfl) x_X8_point_l x_X8_point_i x_X8_point_x (by decide) ?_
  intro p e s m args below meth c A Q hnm F hK hA hP hD hS hret ls hl
  have hx := F.1
  have hb := F.2.1
  have hl : lv_has ls 3 [(0, .ref mb), (1, .int k), (2, .int v)] := hl
  refine lv_iload_n hx hb dX8_point_0 rfl (lv_at hl 1 rfl) ?_
  refine lv_iconst (v := 0) hx hb dX8_point_1 (by decide) ?_
  refine lv_aload_n hx hb dX8_point_2 rfl (lv_at hl 0 rfl) ?_
  refine g_get (C := RX8) (T := TX8) (N := 8) F hK hP i_X8_point_X8 0 rfl rfl 3 (by decide) k_X8_point_f33 (v := .ref ro) rfl dX8_point_3 ?_
  refine g_get (C := RX5) (T := TX5) (N := 4) F hK hP i_X8_point_X5 1 rfl rfl 1 (by decide) k_X8_point_f88 (v := .ref cp) rfl dX8_point_6 ?_
  refine g_get (C := RX3) (T := TX3) (N := 3) F hK hP i_X8_point_X3 2 rfl rfl 2 (by decide) k_X8_point_f139 (v := .int (nI n)) rfl dX8_point_9 ?_
  refine lv_iconst (v := 1) hx hb dX8_point_12 (by decide) ?_
  refine lv_isub hx hb dX8_point_13 ?_
  refine g_SI (wr := [gO mb 8 [.ref ta, .ref so, .ref to, .ref ro, .ref tr, .ref pl, .ref mo, .ref ra], gO ro 5 [.ref lo, .ref cp, .ref sp, .int (nI yr)], gO cp 3 [.ref cx, .ref cy, .int (nI n)], gI g cx 48 fx, gI g cy 48 fy]) (As := [.int k, .int 0, .int ((nI n) - 1)]) (rest := []) (n := 3) F (c_X8_isWithin l g k 0 ((nI n) - 1)) gX8_point_X8_isWithin rfl (by decide) ⟨by decide, by decide⟩ rfl hl.1 rfl (Nat.le_of_ble_eq_true rfl) dX8_point_14 ⟨Nat.le_of_ble_eq_true rfl, Nat.le_of_ble_eq_true rfl⟩ hK hP hD hS hA [] [0, 1, 2, 3, 4] (by decide) rfl rfl (by decide) (by decide) (fun r_14 u_14 H locs hw_14 hP hD hS => ?_)
  have hP : gP g [gO mb 8 [.ref ta, .ref so, .ref to, .ref ro, .ref tr, .ref pl, .ref mo, .ref ra], gO ro 5 [.ref lo, .ref cp, .ref sp, .int (nI yr)], gO cp 3 [.ref cx, .ref cy, .int (nI n)], gI g cx 48 fx, gI g cy 48 fy] H := hP
  have hD : va_D A [gO mb 8 [.ref ta, .ref so, .ref to, .ref ro, .ref tr, .ref pl, .ref mo, .ref ra], gO ro 5 [.ref lo, .ref cp, .ref sp, .int (nI yr)], gO cp 3 [.ref cx, .ref cy, .int (nI n)], gI g cx 48 fx, gI g cy 48 fy] := hD
  rcases hw_14 with ⟨rfl, b_14⟩ | ⟨rfl, b_14⟩
  · exact absurd b_14 h
  · refine lv_if_ne (tgt := 30) hx hb dX8_point_17 (by decide) (fun h => absurd (by decide) h) (fun _ => ?_)
    exact hret H locs 20 ls 142 "no such point" hP hD hS (by decide) hl.1 dX8_point_20 dX8_point_23 dX8_point_24 dX8_point_26 dX8_point_29

set_option maxHeartbeats 4000000 in
set_option maxRecDepth 100000 in
theorem c_X8_point_t2 (l : Launch) (g : gT) (mb : Nat) (ta : Nat) (so : Nat) (to : Nat) (ro : Nat) (tr : Nat) (pl : Nat) (mo : Nat) (ra : Nat) (lo : Nat) (cp : Nat) (sp : Nat) (yr : Nat) (cx : Nat) (cy : Nat) (n : Nat) (fx : Nat → Int32) (fy : Nat → Int32) (X : Nat → Int32) (Y : Nat → Int32) (k : Int32) (v : Int32) (hn : n ≤ 48) (hX : ∀ k, k < n → fx k = X k) (hY : ∀ k, k < n → fy k = Y k) (h : v.toInt < 0 ∨ 1 < v.toInt) (h1 : isW 0 (nI n - 1) k) (hst : l.stackTraces = false) : CtT l g yX8_point wsX8_point rm_X8_point [.ref mb, .int k, .int v] [gO mb 8 [.ref ta, .ref so, .ref to, .ref ro, .ref tr, .ref pl, .ref mo, .ref ra], gO ro 5 [.ref lo, .ref cp, .ref sp, .int (nI yr)], gO cp 3 [.ref cx, .ref cy, .int (nI n)], gI g cx 48 fx, gI g cy 48 fy] := by
  refine CtT.of (cc := cX8_point) (maxL := 3) (ret := .int) hst (by decide) rfl rfl (Nat.le_of_ble_eq_true rfl) x_X8_point_l x_X8_point_i x_X8_point_x (by decide) ?_
  intro p e s m args below meth c A Q hnm F hK hA hP hD hS hret ls hl
  have hx := F.1
  have hb := F.2.1
  have hl : lv_has ls 3 [(0, .ref mb), (1, .int k), (2, .int v)] := hl
  refine lv_iload_n hx hb dX8_point_0 rfl (lv_at hl 1 rfl) ?_
  refine lv_iconst (v := 0) hx hb dX8_point_1 (by decide) ?_
  refine lv_aload_n hx hb dX8_point_2 rfl (lv_at hl 0 rfl) ?_
  refine g_get (C := RX8) (T := TX8) (N := 8) F hK hP i_X8_point_X8 0 rfl rfl 3 (by decide) k_X8_point_f33 (v := .ref ro) rfl dX8_point_3 ?_
  refine g_get (C := RX5) (T := TX5) (N := 4) F hK hP i_X8_point_X5 1 rfl rfl 1 (by decide) k_X8_point_f88 (v := .ref cp) rfl dX8_point_6 ?_
  refine g_get (C := RX3) (T := TX3) (N := 3) F hK hP i_X8_point_X3 2 rfl rfl 2 (by decide) k_X8_point_f139 (v := .int (nI n)) rfl dX8_point_9 ?_
  refine lv_iconst (v := 1) hx hb dX8_point_12 (by decide) ?_
  refine lv_isub hx hb dX8_point_13 ?_
  refine g_SI (wr := [gO mb 8 [.ref ta, .ref so, .ref to, .ref ro, .ref tr, .ref pl, .ref mo, .ref ra], gO ro 5 [.ref lo, .ref cp, .ref sp, .int (nI yr)], gO cp 3 [.ref cx, .ref cy, .int (nI n)], gI g cx 48 fx, gI g cy 48 fy]) (As := [.int k, .int 0, .int ((nI n) - 1)]) (rest := []) (n := 3) F (c_X8_isWithin l g k 0 ((nI n) - 1)) gX8_point_X8_isWithin rfl (by decide) ⟨by decide, by decide⟩ rfl hl.1 rfl (Nat.le_of_ble_eq_true rfl) dX8_point_14 ⟨Nat.le_of_ble_eq_true rfl, Nat.le_of_ble_eq_true rfl⟩ hK hP hD hS hA [] [0, 1, 2, 3, 4] (by decide) rfl rfl (by decide) (by decide) (fun r_14 u_14 H locs hw_14 hP hD hS => ?_)
  have hP : gP g [gO mb 8 [.ref ta, .ref so, .ref to, .ref ro, .ref tr, .ref pl, .ref mo, .ref ra], gO ro 5 [.ref lo, .ref cp, .ref sp, .int (nI yr)], gO cp 3 [.ref cx, .ref cy, .int (nI n)], gI g cx 48 fx, gI g cy 48 fy] H := hP
  have hD : va_D A [gO mb 8 [.ref ta, .ref so, .ref to, .ref ro, .ref tr, .ref pl, .ref mo, .ref ra], gO ro 5 [.ref lo, .ref cp, .ref sp, .int (nI yr)], gO cp 3 [.ref cx, .ref cy, .int (nI n)], gI g cx 48 fx, gI g cy 48 fy] := hD
  rcases hw_14 with ⟨rfl, b_14⟩ | ⟨rfl, b_14⟩
  · refine lv_if_ne (tgt := 30) hx hb dX8_point_17 (by decide) (fun _ => ?_) (fun h => absurd h (by decide))
    refine lv_iload_n hx hb dX8_point_30 rfl (lv_at hl 2 rfl) ?_
    refine lv_lookup (off := 51) (tgt := 82) hx hb dX8_point_31 (by decide) (by show Op.lookupswitch.offset [(0, 25), (1, 38)] 51 v.toInt = 51; rw [lv_osw (k := 0) (a := 0) (by intro z; subst z; revert h; decide) (by decide), lv_osw (k := 1) (a := 1) (by intro z; subst z; revert h; decide) (by decide)]; rfl) (by decide) ?_
    exact hret H locs 82 ls 153 "a point has 0 x and 1 y alone" hP hD hS (by decide) hl.1 dX8_point_82 dX8_point_85 dX8_point_86 dX8_point_88 dX8_point_91
  · exact absurd h1 b_14

theorem k_X8_point_f147 : Cond.fieldLink RX8 147 (TX3 0).1 (TX3 0).2.1 (TX3 0).2.2.1 ∈ wsX8_point := by decide +kernel
set_option maxHeartbeats 4000000 in
set_option maxRecDepth 100000 in
theorem c_X8_point_0 (l : Launch) (g : gT) (mb : Nat) (ta : Nat) (so : Nat) (to : Nat) (ro : Nat) (tr : Nat) (pl : Nat) (mo : Nat) (ra : Nat) (lo : Nat) (cp : Nat) (sp : Nat) (yr : Nat) (cx : Nat) (cy : Nat) (n : Nat) (fx : Nat → Int32) (fy : Nat → Int32) (X : Nat → Int32) (Y : Nat → Int32) (j : Nat) (hn : n ≤ 48) (hX : ∀ k, k < n → fx k = X k) (hY : ∀ k, k < n → fy k = Y k) (hj : j < n) : CtI l g yX8_point wsX8_point rm_X8_point [.ref mb, .int (nI j), .int 0] [gO mb 8 [.ref ta, .ref so, .ref to, .ref ro, .ref tr, .ref pl, .ref mo, .ref ra], gO ro 5 [.ref lo, .ref cp, .ref sp, .int (nI yr)], gO cp 3 [.ref cx, .ref cy, .int (nI n)], gI g cx 48 fx, gI g cy 48 fy] (fun (r : Int32) (_ : Unit) => r = X j) (fun (_ : Unit) => [gO mb 8 [.ref ta, .ref so, .ref to, .ref ro, .ref tr, .ref pl, .ref mo, .ref ra], gO ro 5 [.ref lo, .ref cp, .ref sp, .int (nI yr)], gO cp 3 [.ref cx, .ref cy, .int (nI n)], gI g cx 48 fx, gI g cy 48 fy]) := by
  refine CtI.of (cc := cX8_point) (maxL := 3) (ret := .int) (by decide) rfl (Nat.le_of_ble_eq_true rfl) ?_
  intro p e s m args below meth c A Q hnm F hK hA hP hD hS hret ls hl
  have hx := F.1
  have hb := F.2.1
  have hl : lv_has ls 3 [(0, .ref mb), (1, .int (nI j)), (2, .int 0)] := hl
  refine lv_iload_n hx hb dX8_point_0 rfl (lv_at hl 1 rfl) ?_
  refine lv_iconst (v := 0) hx hb dX8_point_1 (by decide) ?_
  refine lv_aload_n hx hb dX8_point_2 rfl (lv_at hl 0 rfl) ?_
  refine g_get (C := RX8) (T := TX8) (N := 8) F hK hP i_X8_point_X8 0 rfl rfl 3 (by decide) k_X8_point_f33 (v := .ref ro) rfl dX8_point_3 ?_
  refine g_get (C := RX5) (T := TX5) (N := 4) F hK hP i_X8_point_X5 1 rfl rfl 1 (by decide) k_X8_point_f88 (v := .ref cp) rfl dX8_point_6 ?_
  refine g_get (C := RX3) (T := TX3) (N := 3) F hK hP i_X8_point_X3 2 rfl rfl 2 (by decide) k_X8_point_f139 (v := .int (nI n)) rfl dX8_point_9 ?_
  refine lv_iconst (v := 1) hx hb dX8_point_12 (by decide) ?_
  refine n_isub (a := n) (b := 1) (d := n - 1) hx hb dX8_point_13 (by omega) (by omega) ?_
  refine g_SI (wr := [gO mb 8 [.ref ta, .ref so, .ref to, .ref ro, .ref tr, .ref pl, .ref mo, .ref ra], gO ro 5 [.ref lo, .ref cp, .ref sp, .int (nI yr)], gO cp 3 [.ref cx, .ref cy, .int (nI n)], gI g cx 48 fx, gI g cy 48 fy]) (As := [.int (nI j), .int 0, .int (nI (n - 1))]) (rest := []) (n := 3) F (c_X8_isWithin l g (nI j) 0 (nI (n - 1))) gX8_point_X8_isWithin rfl (by decide) ⟨by decide, by decide⟩ rfl hl.1 rfl (Nat.le_of_ble_eq_true rfl) dX8_point_14 ⟨Nat.le_of_ble_eq_true rfl, Nat.le_of_ble_eq_true rfl⟩ hK hP hD hS hA [] [0, 1, 2, 3, 4] (by decide) rfl rfl (by decide) (by decide) (fun r_14 u_14 H locs hw_14 hP hD hS => ?_)
  have hP : gP g [gO mb 8 [.ref ta, .ref so, .ref to, .ref ro, .ref tr, .ref pl, .ref mo, .ref ra], gO ro 5 [.ref lo, .ref cp, .ref sp, .int (nI yr)], gO cp 3 [.ref cx, .ref cy, .int (nI n)], gI g cx 48 fx, gI g cy 48 fy] H := hP
  have hD : va_D A [gO mb 8 [.ref ta, .ref so, .ref to, .ref ro, .ref tr, .ref pl, .ref mo, .ref ra], gO ro 5 [.ref lo, .ref cp, .ref sp, .int (nI yr)], gO cp 3 [.ref cx, .ref cy, .int (nI n)], gI g cx 48 fx, gI g cy 48 fy] := hD
  rcases hw_14 with ⟨rfl, b_14⟩ | ⟨rfl, b_14⟩
  · refine lv_if_ne (tgt := 30) hx hb dX8_point_17 (by decide) (fun _ => ?_) (fun h => absurd h (by decide))
    refine lv_iload_n hx hb dX8_point_30 rfl (lv_at hl 2 rfl) ?_
    refine lv_lookup (tgt := 56) hx hb dX8_point_31 (by decide) rfl (by decide) ?_
    refine lv_aload_n hx hb dX8_point_56 rfl (lv_at hl 0 rfl) ?_
    refine g_get (C := RX8) (T := TX8) (N := 8) F hK hP i_X8_point_X8 0 rfl rfl 3 (by decide) k_X8_point_f33 (v := .ref ro) rfl dX8_point_57 ?_
    refine g_get (C := RX5) (T := TX5) (N := 4) F hK hP i_X8_point_X5 1 rfl rfl 1 (by decide) k_X8_point_f88 (v := .ref cp) rfl dX8_point_60 ?_
    refine g_get (C := RX3) (T := TX3) (N := 3) F hK hP i_X8_point_X3 2 rfl rfl 0 (by decide) k_X8_point_f147 (v := .ref cx) rfl dX8_point_63 ?_
    refine lv_iload_n hx hb dX8_point_66 rfl (lv_at hl 1 rfl) ?_
    refine g_iald (i := j) (v := (X j)) hx hb hK hP 3 rfl (by decide) (by omega) (hX j (by omega)) dX8_point_67 ?_
    refine W.widen (k := 1) (n := 6) (Nat.le_of_ble_eq_true rfl) (Nat.le_of_ble_eq_true rfl) ?_
    exact hret _ _ _ _ (X j) () dX8_point_68 rfl (rfl) hP hD hS
  · exact absurd ((isW_n (a := 0) (by decide) (by omega) (by omega)).mpr ⟨Nat.zero_le _, by omega⟩) b_14

theorem k_X8_point_f150 : Cond.fieldLink RX8 150 (TX3 1).1 (TX3 1).2.1 (TX3 1).2.2.1 ∈ wsX8_point := by decide +kernel
set_option maxHeartbeats 4000000 in
set_option maxRecDepth 100000 in
theorem c_X8_point_1 (l : Launch) (g : gT) (mb : Nat) (ta : Nat) (so : Nat) (to : Nat) (ro : Nat) (tr : Nat) (pl : Nat) (mo : Nat) (ra : Nat) (lo : Nat) (cp : Nat) (sp : Nat) (yr : Nat) (cx : Nat) (cy : Nat) (n : Nat) (fx : Nat → Int32) (fy : Nat → Int32) (X : Nat → Int32) (Y : Nat → Int32) (j : Nat) (hn : n ≤ 48) (hX : ∀ k, k < n → fx k = X k) (hY : ∀ k, k < n → fy k = Y k) (hj : j < n) : CtI l g yX8_point wsX8_point rm_X8_point [.ref mb, .int (nI j), .int 1] [gO mb 8 [.ref ta, .ref so, .ref to, .ref ro, .ref tr, .ref pl, .ref mo, .ref ra], gO ro 5 [.ref lo, .ref cp, .ref sp, .int (nI yr)], gO cp 3 [.ref cx, .ref cy, .int (nI n)], gI g cx 48 fx, gI g cy 48 fy] (fun (r : Int32) (_ : Unit) => r = Y j) (fun (_ : Unit) => [gO mb 8 [.ref ta, .ref so, .ref to, .ref ro, .ref tr, .ref pl, .ref mo, .ref ra], gO ro 5 [.ref lo, .ref cp, .ref sp, .int (nI yr)], gO cp 3 [.ref cx, .ref cy, .int (nI n)], gI g cx 48 fx, gI g cy 48 fy]) := by
  refine CtI.of (cc := cX8_point) (maxL := 3) (ret := .int) (by decide) rfl (Nat.le_of_ble_eq_true rfl) ?_
  intro p e s m args below meth c A Q hnm F hK hA hP hD hS hret ls hl
  have hx := F.1
  have hb := F.2.1
  have hl : lv_has ls 3 [(0, .ref mb), (1, .int (nI j)), (2, .int 1)] := hl
  refine lv_iload_n hx hb dX8_point_0 rfl (lv_at hl 1 rfl) ?_
  refine lv_iconst (v := 0) hx hb dX8_point_1 (by decide) ?_
  refine lv_aload_n hx hb dX8_point_2 rfl (lv_at hl 0 rfl) ?_
  refine g_get (C := RX8) (T := TX8) (N := 8) F hK hP i_X8_point_X8 0 rfl rfl 3 (by decide) k_X8_point_f33 (v := .ref ro) rfl dX8_point_3 ?_
  refine g_get (C := RX5) (T := TX5) (N := 4) F hK hP i_X8_point_X5 1 rfl rfl 1 (by decide) k_X8_point_f88 (v := .ref cp) rfl dX8_point_6 ?_
  refine g_get (C := RX3) (T := TX3) (N := 3) F hK hP i_X8_point_X3 2 rfl rfl 2 (by decide) k_X8_point_f139 (v := .int (nI n)) rfl dX8_point_9 ?_
  refine lv_iconst (v := 1) hx hb dX8_point_12 (by decide) ?_
  refine n_isub (a := n) (b := 1) (d := n - 1) hx hb dX8_point_13 (by omega) (by omega) ?_
  refine g_SI (wr := [gO mb 8 [.ref ta, .ref so, .ref to, .ref ro, .ref tr, .ref pl, .ref mo, .ref ra], gO ro 5 [.ref lo, .ref cp, .ref sp, .int (nI yr)], gO cp 3 [.ref cx, .ref cy, .int (nI n)], gI g cx 48 fx, gI g cy 48 fy]) (As := [.int (nI j), .int 0, .int (nI (n - 1))]) (rest := []) (n := 3) F (c_X8_isWithin l g (nI j) 0 (nI (n - 1))) gX8_point_X8_isWithin rfl (by decide) ⟨by decide, by decide⟩ rfl hl.1 rfl (Nat.le_of_ble_eq_true rfl) dX8_point_14 ⟨Nat.le_of_ble_eq_true rfl, Nat.le_of_ble_eq_true rfl⟩ hK hP hD hS hA [] [0, 1, 2, 3, 4] (by decide) rfl rfl (by decide) (by decide) (fun r_14 u_14 H locs hw_14 hP hD hS => ?_)
  have hP : gP g [gO mb 8 [.ref ta, .ref so, .ref to, .ref ro, .ref tr, .ref pl, .ref mo, .ref ra], gO ro 5 [.ref lo, .ref cp, .ref sp, .int (nI yr)], gO cp 3 [.ref cx, .ref cy, .int (nI n)], gI g cx 48 fx, gI g cy 48 fy] H := hP
  have hD : va_D A [gO mb 8 [.ref ta, .ref so, .ref to, .ref ro, .ref tr, .ref pl, .ref mo, .ref ra], gO ro 5 [.ref lo, .ref cp, .ref sp, .int (nI yr)], gO cp 3 [.ref cx, .ref cy, .int (nI n)], gI g cx 48 fx, gI g cy 48 fy] := hD
  rcases hw_14 with ⟨rfl, b_14⟩ | ⟨rfl, b_14⟩
  · refine lv_if_ne (tgt := 30) hx hb dX8_point_17 (by decide) (fun _ => ?_) (fun h => absurd h (by decide))
    refine lv_iload_n hx hb dX8_point_30 rfl (lv_at hl 2 rfl) ?_
    refine lv_lookup (tgt := 69) hx hb dX8_point_31 (by decide) rfl (by decide) ?_
    refine lv_aload_n hx hb dX8_point_69 rfl (lv_at hl 0 rfl) ?_
    refine g_get (C := RX8) (T := TX8) (N := 8) F hK hP i_X8_point_X8 0 rfl rfl 3 (by decide) k_X8_point_f33 (v := .ref ro) rfl dX8_point_70 ?_
    refine g_get (C := RX5) (T := TX5) (N := 4) F hK hP i_X8_point_X5 1 rfl rfl 1 (by decide) k_X8_point_f88 (v := .ref cp) rfl dX8_point_73 ?_
    refine g_get (C := RX3) (T := TX3) (N := 3) F hK hP i_X8_point_X3 2 rfl rfl 1 (by decide) k_X8_point_f150 (v := .ref cy) rfl dX8_point_76 ?_
    refine lv_iload_n hx hb dX8_point_79 rfl (lv_at hl 1 rfl) ?_
    refine g_iald (i := j) (v := (Y j)) hx hb hK hP 4 rfl (by decide) (by omega) (hY j (by omega)) dX8_point_80 ?_
    refine W.widen (k := 1) (n := 6) (Nat.le_of_ble_eq_true rfl) (Nat.le_of_ble_eq_true rfl) ?_
    exact hret _ _ _ _ (Y j) () dX8_point_81 rfl (rfl) hP hD hS
  · exact absurd ((isW_n (a := 0) (by decide) (by omega) (by omega)).mpr ⟨Nat.zero_le _, by omega⟩) b_14


abbrev rm_X8_loop : Room := { frames := 6, cells := 1, slots := 6, locals := 120 }
theorem i_X8_loop_X8 : ∀ w ∈ wsX80, w ∈ wsX8_loop := by decide +kernel
theorem k_X8_loop_f33 : Cond.fieldLink RX8 33 (TX8 3).1 (TX8 3).2.1 (TX8 3).2.2.1 ∈ wsX8_loop := by decide +kernel
theorem i_X8_loop_X5 : ∀ w ∈ wsX50, w ∈ wsX8_loop := by decide +kernel
theorem k_X8_loop_f159 : Cond.fieldLink RX8 159 (TX5 0).1 (TX5 0).2.1 (TX5 0).2.2.1 ∈ wsX8_loop := by decide +kernel
theorem i_X8_loop_X0 : ∀ w ∈ wsX00, w ∈ wsX8_loop := by decide +kernel
theorem k_X8_loop_f163 : Cond.fieldLink RX8 163 (TX0 3).1 (TX0 3).2.1 (TX0 3).2.2.1 ∈ wsX8_loop := by decide +kernel
set_option maxHeartbeats 4000000 in
set_option maxRecDepth 100000 in
theorem c_X8_loop_t1 (l : Launch) (g : gT) (mb : Nat) (ta : Nat) (so : Nat) (to : Nat) (ro : Nat) (tr : Nat) (pl : Nat) (mo : Nat) (ra : Nat) (lo : Nat) (cp : Nat) (sp : Nat) (yr : Nat) (ly : Nat) (lp : Nat) (la : Nat) (ln : Nat) (fy : Nat → Int32) (fp : Nat → Int32) (fa : Nat → Int32) (k : Int32) (v : Int32) (hln : ln ≤ 30) (h : ¬ isW 0 (nI ln - 1) k) (hst : l.stackTraces = false) : CtT l g yX8_loop wsX8_loop rm_X8_loop [.ref mb, .int k, .int v] [gO mb 8 [.ref ta, .ref so, .ref to, .ref ro, .ref tr, .ref pl, .ref mo, .ref ra], gO ro 5 [.ref lo, .ref cp, .ref sp, .int (nI yr)], gO lo 0 [.ref ly, .ref lp, .ref la, .int (nI ln)], gI g ly 30 fy, gI g lp 30 fp, gI g la 30 fa] := by
  refine CtT.of (cc := cX8_loop) (maxL := 3) (ret := .int) hst (by decide) rfl rfl (Nat.le_of_ble_eq_true rfl) x_X8_loop_l x_X8_loop_i x_X8_loop_x (by decide) ?_
  intro p e s m args below meth c A Q hnm F hK hA hP hD hS hret ls hl
  have hx := F.1
  have hb := F.2.1
  have hl : lv_has ls 3 [(0, .ref mb), (1, .int k), (2, .int v)] := hl
  refine lv_iload_n hx hb dX8_loop_0 rfl (lv_at hl 1 rfl) ?_
  refine lv_iconst (v := 0) hx hb dX8_loop_1 (by decide) ?_
  refine lv_aload_n hx hb dX8_loop_2 rfl (lv_at hl 0 rfl) ?_
  refine g_get (C := RX8) (T := TX8) (N := 8) F hK hP i_X8_loop_X8 0 rfl rfl 3 (by decide) k_X8_loop_f33 (v := .ref ro) rfl dX8_loop_3 ?_
  refine g_get (C := RX5) (T := TX5) (N := 4) F hK hP i_X8_loop_X5 1 rfl rfl 0 (by decide) k_X8_loop_f159 (v := .ref lo) rfl dX8_loop_6 ?_
  refine g_get (C := RX0) (T := TX0) (N := 4) F hK hP i_X8_loop_X0 2 rfl rfl 3 (by decide) k_X8_loop_f163 (v := .int (nI ln)) rfl dX8_loop_9 ?_
  refine lv_iconst (v := 1) hx hb dX8_loop_12 (by decide) ?_
  refine lv_isub hx hb dX8_loop_13 ?_
  refine g_SI (wr := [gO mb 8 [.ref ta, .ref so, .ref to, .ref ro, .ref tr, .ref pl, .ref mo, .ref ra], gO ro 5 [.ref lo, .ref cp, .ref sp, .int (nI yr)], gO lo 0 [.ref ly, .ref lp, .ref la, .int (nI ln)], gI g ly 30 fy, gI g lp 30 fp, gI g la 30 fa]) (As := [.int k, .int 0, .int ((nI ln) - 1)]) (rest := []) (n := 3) F (c_X8_isWithin l g k 0 ((nI ln) - 1)) gX8_loop_X8_isWithin rfl (by decide) ⟨by decide, by decide⟩ rfl hl.1 rfl (Nat.le_of_ble_eq_true rfl) dX8_loop_14 ⟨Nat.le_of_ble_eq_true rfl, Nat.le_of_ble_eq_true rfl⟩ hK hP hD hS hA [] [0, 1, 2, 3, 4, 5] (by decide) rfl rfl (by decide) (by decide) (fun r_14 u_14 H locs hw_14 hP hD hS => ?_)
  have hP : gP g [gO mb 8 [.ref ta, .ref so, .ref to, .ref ro, .ref tr, .ref pl, .ref mo, .ref ra], gO ro 5 [.ref lo, .ref cp, .ref sp, .int (nI yr)], gO lo 0 [.ref ly, .ref lp, .ref la, .int (nI ln)], gI g ly 30 fy, gI g lp 30 fp, gI g la 30 fa] H := hP
  have hD : va_D A [gO mb 8 [.ref ta, .ref so, .ref to, .ref ro, .ref tr, .ref pl, .ref mo, .ref ra], gO ro 5 [.ref lo, .ref cp, .ref sp, .int (nI yr)], gO lo 0 [.ref ly, .ref lp, .ref la, .int (nI ln)], gI g ly 30 fy, gI g lp 30 fp, gI g la 30 fa] := hD
  rcases hw_14 with ⟨rfl, b_14⟩ | ⟨rfl, b_14⟩
  · exact absurd b_14 h
  · refine lv_if_ne (tgt := 30) hx hb dX8_loop_17 (by decide) (fun h => absurd (by decide) h) (fun _ => ?_)
    exact hret H locs 20 ls 166 "no such loop" hP hD hS (by decide) hl.1 dX8_loop_20 dX8_loop_23 dX8_loop_24 dX8_loop_26 dX8_loop_29

set_option maxHeartbeats 4000000 in
set_option maxRecDepth 100000 in
theorem c_X8_loop_t2 (l : Launch) (g : gT) (mb : Nat) (ta : Nat) (so : Nat) (to : Nat) (ro : Nat) (tr : Nat) (pl : Nat) (mo : Nat) (ra : Nat) (lo : Nat) (cp : Nat) (sp : Nat) (yr : Nat) (ly : Nat) (lp : Nat) (la : Nat) (ln : Nat) (fy : Nat → Int32) (fp : Nat → Int32) (fa : Nat → Int32) (k : Int32) (v : Int32) (hln : ln ≤ 30) (h : v.toInt < 0 ∨ 2 < v.toInt) (h1 : isW 0 (nI ln - 1) k) (hst : l.stackTraces = false) : CtT l g yX8_loop wsX8_loop rm_X8_loop [.ref mb, .int k, .int v] [gO mb 8 [.ref ta, .ref so, .ref to, .ref ro, .ref tr, .ref pl, .ref mo, .ref ra], gO ro 5 [.ref lo, .ref cp, .ref sp, .int (nI yr)], gO lo 0 [.ref ly, .ref lp, .ref la, .int (nI ln)], gI g ly 30 fy, gI g lp 30 fp, gI g la 30 fa] := by
  refine CtT.of (cc := cX8_loop) (maxL := 3) (ret := .int) hst (by decide) rfl rfl (Nat.le_of_ble_eq_true rfl) x_X8_loop_l x_X8_loop_i x_X8_loop_x (by decide) ?_
  intro p e s m args below meth c A Q hnm F hK hA hP hD hS hret ls hl
  have hx := F.1
  have hb := F.2.1
  have hl : lv_has ls 3 [(0, .ref mb), (1, .int k), (2, .int v)] := hl
  refine lv_iload_n hx hb dX8_loop_0 rfl (lv_at hl 1 rfl) ?_
  refine lv_iconst (v := 0) hx hb dX8_loop_1 (by decide) ?_
  refine lv_aload_n hx hb dX8_loop_2 rfl (lv_at hl 0 rfl) ?_
  refine g_get (C := RX8) (T := TX8) (N := 8) F hK hP i_X8_loop_X8 0 rfl rfl 3 (by decide) k_X8_loop_f33 (v := .ref ro) rfl dX8_loop_3 ?_
  refine g_get (C := RX5) (T := TX5) (N := 4) F hK hP i_X8_loop_X5 1 rfl rfl 0 (by decide) k_X8_loop_f159 (v := .ref lo) rfl dX8_loop_6 ?_
  refine g_get (C := RX0) (T := TX0) (N := 4) F hK hP i_X8_loop_X0 2 rfl rfl 3 (by decide) k_X8_loop_f163 (v := .int (nI ln)) rfl dX8_loop_9 ?_
  refine lv_iconst (v := 1) hx hb dX8_loop_12 (by decide) ?_
  refine lv_isub hx hb dX8_loop_13 ?_
  refine g_SI (wr := [gO mb 8 [.ref ta, .ref so, .ref to, .ref ro, .ref tr, .ref pl, .ref mo, .ref ra], gO ro 5 [.ref lo, .ref cp, .ref sp, .int (nI yr)], gO lo 0 [.ref ly, .ref lp, .ref la, .int (nI ln)], gI g ly 30 fy, gI g lp 30 fp, gI g la 30 fa]) (As := [.int k, .int 0, .int ((nI ln) - 1)]) (rest := []) (n := 3) F (c_X8_isWithin l g k 0 ((nI ln) - 1)) gX8_loop_X8_isWithin rfl (by decide) ⟨by decide, by decide⟩ rfl hl.1 rfl (Nat.le_of_ble_eq_true rfl) dX8_loop_14 ⟨Nat.le_of_ble_eq_true rfl, Nat.le_of_ble_eq_true rfl⟩ hK hP hD hS hA [] [0, 1, 2, 3, 4, 5] (by decide) rfl rfl (by decide) (by decide) (fun r_14 u_14 H locs hw_14 hP hD hS => ?_)
  have hP : gP g [gO mb 8 [.ref ta, .ref so, .ref to, .ref ro, .ref tr, .ref pl, .ref mo, .ref ra], gO ro 5 [.ref lo, .ref cp, .ref sp, .int (nI yr)], gO lo 0 [.ref ly, .ref lp, .ref la, .int (nI ln)], gI g ly 30 fy, gI g lp 30 fp, gI g la 30 fa] H := hP
  have hD : va_D A [gO mb 8 [.ref ta, .ref so, .ref to, .ref ro, .ref tr, .ref pl, .ref mo, .ref ra], gO ro 5 [.ref lo, .ref cp, .ref sp, .int (nI yr)], gO lo 0 [.ref ly, .ref lp, .ref la, .int (nI ln)], gI g ly 30 fy, gI g lp 30 fp, gI g la 30 fa] := hD
  rcases hw_14 with ⟨rfl, b_14⟩ | ⟨rfl, b_14⟩
  · refine lv_if_ne (tgt := 30) hx hb dX8_loop_17 (by decide) (fun _ => ?_) (fun h => absurd h (by decide))
    refine lv_iload_n hx hb dX8_loop_30 rfl (lv_at hl 2 rfl) ?_
    refine lv_tableOut (tgt := 95) hx hb dX8_loop_31 (h) (by decide) ?_
    exact hret H locs 95 ls 177 "a loop has 0 year, 1 points and 2 area alone" hP hD hS (by decide) hl.1 dX8_loop_95 dX8_loop_98 dX8_loop_99 dX8_loop_101 dX8_loop_104
  · exact absurd h1 b_14

theorem k_X8_loop_f168 : Cond.fieldLink RX8 168 (TX0 0).1 (TX0 0).2.1 (TX0 0).2.2.1 ∈ wsX8_loop := by decide +kernel
set_option maxHeartbeats 4000000 in
set_option maxRecDepth 100000 in
theorem c_X8_loop_0 (l : Launch) (g : gT) (mb : Nat) (ta : Nat) (so : Nat) (to : Nat) (ro : Nat) (tr : Nat) (pl : Nat) (mo : Nat) (ra : Nat) (lo : Nat) (cp : Nat) (sp : Nat) (yr : Nat) (ly : Nat) (lp : Nat) (la : Nat) (ln : Nat) (fy : Nat → Int32) (fp : Nat → Int32) (fa : Nat → Int32) (j : Nat) (hln : ln ≤ 30) (hj : j < ln) : CtI l g yX8_loop wsX8_loop rm_X8_loop [.ref mb, .int (nI j), .int 0] [gO mb 8 [.ref ta, .ref so, .ref to, .ref ro, .ref tr, .ref pl, .ref mo, .ref ra], gO ro 5 [.ref lo, .ref cp, .ref sp, .int (nI yr)], gO lo 0 [.ref ly, .ref lp, .ref la, .int (nI ln)], gI g ly 30 fy, gI g lp 30 fp, gI g la 30 fa] (fun (r : Int32) (_ : Unit) => r = fy j) (fun (_ : Unit) => [gO mb 8 [.ref ta, .ref so, .ref to, .ref ro, .ref tr, .ref pl, .ref mo, .ref ra], gO ro 5 [.ref lo, .ref cp, .ref sp, .int (nI yr)], gO lo 0 [.ref ly, .ref lp, .ref la, .int (nI ln)], gI g ly 30 fy, gI g lp 30 fp, gI g la 30 fa]) := by
  refine CtI.of (cc := cX8_loop) (maxL := 3) (ret := .int) (by decide) rfl (Nat.le_of_ble_eq_true rfl) ?_
  intro p e s m args below meth c A Q hnm F hK hA hP hD hS hret ls hl
  have hx := F.1
  have hb := F.2.1
  have hl : lv_has ls 3 [(0, .ref mb), (1, .int (nI j)), (2, .int 0)] := hl
  refine lv_iload_n hx hb dX8_loop_0 rfl (lv_at hl 1 rfl) ?_
  refine lv_iconst (v := 0) hx hb dX8_loop_1 (by decide) ?_
  refine lv_aload_n hx hb dX8_loop_2 rfl (lv_at hl 0 rfl) ?_
  refine g_get (C := RX8) (T := TX8) (N := 8) F hK hP i_X8_loop_X8 0 rfl rfl 3 (by decide) k_X8_loop_f33 (v := .ref ro) rfl dX8_loop_3 ?_
  refine g_get (C := RX5) (T := TX5) (N := 4) F hK hP i_X8_loop_X5 1 rfl rfl 0 (by decide) k_X8_loop_f159 (v := .ref lo) rfl dX8_loop_6 ?_
  refine g_get (C := RX0) (T := TX0) (N := 4) F hK hP i_X8_loop_X0 2 rfl rfl 3 (by decide) k_X8_loop_f163 (v := .int (nI ln)) rfl dX8_loop_9 ?_
  refine lv_iconst (v := 1) hx hb dX8_loop_12 (by decide) ?_
  refine n_isub (a := ln) (b := 1) (d := ln - 1) hx hb dX8_loop_13 (by omega) (by omega) ?_
  refine g_SI (wr := [gO mb 8 [.ref ta, .ref so, .ref to, .ref ro, .ref tr, .ref pl, .ref mo, .ref ra], gO ro 5 [.ref lo, .ref cp, .ref sp, .int (nI yr)], gO lo 0 [.ref ly, .ref lp, .ref la, .int (nI ln)], gI g ly 30 fy, gI g lp 30 fp, gI g la 30 fa]) (As := [.int (nI j), .int 0, .int (nI (ln - 1))]) (rest := []) (n := 3) F (c_X8_isWithin l g (nI j) 0 (nI (ln - 1))) gX8_loop_X8_isWithin rfl (by decide) ⟨by decide, by decide⟩ rfl hl.1 rfl (Nat.le_of_ble_eq_true rfl) dX8_loop_14 ⟨Nat.le_of_ble_eq_true rfl, Nat.le_of_ble_eq_true rfl⟩ hK hP hD hS hA [] [0, 1, 2, 3, 4, 5] (by decide) rfl rfl (by decide) (by decide) (fun r_14 u_14 H locs hw_14 hP hD hS => ?_)
  have hP : gP g [gO mb 8 [.ref ta, .ref so, .ref to, .ref ro, .ref tr, .ref pl, .ref mo, .ref ra], gO ro 5 [.ref lo, .ref cp, .ref sp, .int (nI yr)], gO lo 0 [.ref ly, .ref lp, .ref la, .int (nI ln)], gI g ly 30 fy, gI g lp 30 fp, gI g la 30 fa] H := hP
  have hD : va_D A [gO mb 8 [.ref ta, .ref so, .ref to, .ref ro, .ref tr, .ref pl, .ref mo, .ref ra], gO ro 5 [.ref lo, .ref cp, .ref sp, .int (nI yr)], gO lo 0 [.ref ly, .ref lp, .ref la, .int (nI ln)], gI g ly 30 fy, gI g lp 30 fp, gI g la 30 fa] := hD
  rcases hw_14 with ⟨rfl, b_14⟩ | ⟨rfl, b_14⟩
  · refine lv_if_ne (tgt := 30) hx hb dX8_loop_17 (by decide) (fun _ => ?_) (fun h => absurd h (by decide))
    refine lv_iload_n hx hb dX8_loop_30 rfl (lv_at hl 2 rfl) ?_
    refine lv_tableIn (tgt := 56) hx hb dX8_loop_31 (by decide) (by decide) rfl (by decide) ?_
    refine lv_aload_n hx hb dX8_loop_56 rfl (lv_at hl 0 rfl) ?_
    refine g_get (C := RX8) (T := TX8) (N := 8) F hK hP i_X8_loop_X8 0 rfl rfl 3 (by decide) k_X8_loop_f33 (v := .ref ro) rfl dX8_loop_57 ?_
    refine g_get (C := RX5) (T := TX5) (N := 4) F hK hP i_X8_loop_X5 1 rfl rfl 0 (by decide) k_X8_loop_f159 (v := .ref lo) rfl dX8_loop_60 ?_
    refine g_get (C := RX0) (T := TX0) (N := 4) F hK hP i_X8_loop_X0 2 rfl rfl 0 (by decide) k_X8_loop_f168 (v := .ref ly) rfl dX8_loop_63 ?_
    refine lv_iload_n hx hb dX8_loop_66 rfl (lv_at hl 1 rfl) ?_
    refine g_iald (i := j) (v := (fy j)) hx hb hK hP 3 rfl (by decide) (by omega) (rfl) dX8_loop_67 ?_
    refine W.widen (k := 1) (n := 6) (Nat.le_of_ble_eq_true rfl) (Nat.le_of_ble_eq_true rfl) ?_
    exact hret _ _ _ _ (fy j) () dX8_loop_68 rfl (rfl) hP hD hS
  · exact absurd ((isW_n (a := 0) (by decide) (by omega) (by omega)).mpr ⟨Nat.zero_le _, by omega⟩) b_14

theorem k_X8_loop_f171 : Cond.fieldLink RX8 171 (TX0 1).1 (TX0 1).2.1 (TX0 1).2.2.1 ∈ wsX8_loop := by decide +kernel
set_option maxHeartbeats 4000000 in
set_option maxRecDepth 100000 in
theorem c_X8_loop_1 (l : Launch) (g : gT) (mb : Nat) (ta : Nat) (so : Nat) (to : Nat) (ro : Nat) (tr : Nat) (pl : Nat) (mo : Nat) (ra : Nat) (lo : Nat) (cp : Nat) (sp : Nat) (yr : Nat) (ly : Nat) (lp : Nat) (la : Nat) (ln : Nat) (fy : Nat → Int32) (fp : Nat → Int32) (fa : Nat → Int32) (j : Nat) (hln : ln ≤ 30) (hj : j < ln) : CtI l g yX8_loop wsX8_loop rm_X8_loop [.ref mb, .int (nI j), .int 1] [gO mb 8 [.ref ta, .ref so, .ref to, .ref ro, .ref tr, .ref pl, .ref mo, .ref ra], gO ro 5 [.ref lo, .ref cp, .ref sp, .int (nI yr)], gO lo 0 [.ref ly, .ref lp, .ref la, .int (nI ln)], gI g ly 30 fy, gI g lp 30 fp, gI g la 30 fa] (fun (r : Int32) (_ : Unit) => r = fp j) (fun (_ : Unit) => [gO mb 8 [.ref ta, .ref so, .ref to, .ref ro, .ref tr, .ref pl, .ref mo, .ref ra], gO ro 5 [.ref lo, .ref cp, .ref sp, .int (nI yr)], gO lo 0 [.ref ly, .ref lp, .ref la, .int (nI ln)], gI g ly 30 fy, gI g lp 30 fp, gI g la 30 fa]) := by
  refine CtI.of (cc := cX8_loop) (maxL := 3) (ret := .int) (by decide) rfl (Nat.le_of_ble_eq_true rfl) ?_
  intro p e s m args below meth c A Q hnm F hK hA hP hD hS hret ls hl
  have hx := F.1
  have hb := F.2.1
  have hl : lv_has ls 3 [(0, .ref mb), (1, .int (nI j)), (2, .int 1)] := hl
  refine lv_iload_n hx hb dX8_loop_0 rfl (lv_at hl 1 rfl) ?_
  refine lv_iconst (v := 0) hx hb dX8_loop_1 (by decide) ?_
  refine lv_aload_n hx hb dX8_loop_2 rfl (lv_at hl 0 rfl) ?_
  refine g_get (C := RX8) (T := TX8) (N := 8) F hK hP i_X8_loop_X8 0 rfl rfl 3 (by decide) k_X8_loop_f33 (v := .ref ro) rfl dX8_loop_3 ?_
  refine g_get (C := RX5) (T := TX5) (N := 4) F hK hP i_X8_loop_X5 1 rfl rfl 0 (by decide) k_X8_loop_f159 (v := .ref lo) rfl dX8_loop_6 ?_
  refine g_get (C := RX0) (T := TX0) (N := 4) F hK hP i_X8_loop_X0 2 rfl rfl 3 (by decide) k_X8_loop_f163 (v := .int (nI ln)) rfl dX8_loop_9 ?_
  refine lv_iconst (v := 1) hx hb dX8_loop_12 (by decide) ?_
  refine n_isub (a := ln) (b := 1) (d := ln - 1) hx hb dX8_loop_13 (by omega) (by omega) ?_
  refine g_SI (wr := [gO mb 8 [.ref ta, .ref so, .ref to, .ref ro, .ref tr, .ref pl, .ref mo, .ref ra], gO ro 5 [.ref lo, .ref cp, .ref sp, .int (nI yr)], gO lo 0 [.ref ly, .ref lp, .ref la, .int (nI ln)], gI g ly 30 fy, gI g lp 30 fp, gI g la 30 fa]) (As := [.int (nI j), .int 0, .int (nI (ln - 1))]) (rest := []) (n := 3) F (c_X8_isWithin l g (nI j) 0 (nI (ln - 1))) gX8_loop_X8_isWithin rfl (by decide) ⟨by decide, by decide⟩ rfl hl.1 rfl (Nat.le_of_ble_eq_true rfl) dX8_loop_14 ⟨Nat.le_of_ble_eq_true rfl, Nat.le_of_ble_eq_true rfl⟩ hK hP hD hS hA [] [0, 1, 2, 3, 4, 5] (by decide) rfl rfl (by decide) (by decide) (fun r_14 u_14 H locs hw_14 hP hD hS => ?_)
  have hP : gP g [gO mb 8 [.ref ta, .ref so, .ref to, .ref ro, .ref tr, .ref pl, .ref mo, .ref ra], gO ro 5 [.ref lo, .ref cp, .ref sp, .int (nI yr)], gO lo 0 [.ref ly, .ref lp, .ref la, .int (nI ln)], gI g ly 30 fy, gI g lp 30 fp, gI g la 30 fa] H := hP
  have hD : va_D A [gO mb 8 [.ref ta, .ref so, .ref to, .ref ro, .ref tr, .ref pl, .ref mo, .ref ra], gO ro 5 [.ref lo, .ref cp, .ref sp, .int (nI yr)], gO lo 0 [.ref ly, .ref lp, .ref la, .int (nI ln)], gI g ly 30 fy, gI g lp 30 fp, gI g la 30 fa] := hD
  rcases hw_14 with ⟨rfl, b_14⟩ | ⟨rfl, b_14⟩
  · refine lv_if_ne (tgt := 30) hx hb dX8_loop_17 (by decide) (fun _ => ?_) (fun h => absurd h (by decide))
    refine lv_iload_n hx hb dX8_loop_30 rfl (lv_at hl 2 rfl) ?_
    refine lv_tableIn (tgt := 69) hx hb dX8_loop_31 (by decide) (by decide) rfl (by decide) ?_
    refine lv_aload_n hx hb dX8_loop_69 rfl (lv_at hl 0 rfl) ?_
    refine g_get (C := RX8) (T := TX8) (N := 8) F hK hP i_X8_loop_X8 0 rfl rfl 3 (by decide) k_X8_loop_f33 (v := .ref ro) rfl dX8_loop_70 ?_
    refine g_get (C := RX5) (T := TX5) (N := 4) F hK hP i_X8_loop_X5 1 rfl rfl 0 (by decide) k_X8_loop_f159 (v := .ref lo) rfl dX8_loop_73 ?_
    refine g_get (C := RX0) (T := TX0) (N := 4) F hK hP i_X8_loop_X0 2 rfl rfl 1 (by decide) k_X8_loop_f171 (v := .ref lp) rfl dX8_loop_76 ?_
    refine lv_iload_n hx hb dX8_loop_79 rfl (lv_at hl 1 rfl) ?_
    refine g_iald (i := j) (v := (fp j)) hx hb hK hP 4 rfl (by decide) (by omega) (rfl) dX8_loop_80 ?_
    refine W.widen (k := 1) (n := 6) (Nat.le_of_ble_eq_true rfl) (Nat.le_of_ble_eq_true rfl) ?_
    exact hret _ _ _ _ (fp j) () dX8_loop_81 rfl (rfl) hP hD hS
  · exact absurd ((isW_n (a := 0) (by decide) (by omega) (by omega)).mpr ⟨Nat.zero_le _, by omega⟩) b_14

theorem k_X8_loop_f174 : Cond.fieldLink RX8 174 (TX0 2).1 (TX0 2).2.1 (TX0 2).2.2.1 ∈ wsX8_loop := by decide +kernel
set_option maxHeartbeats 4000000 in
set_option maxRecDepth 100000 in
theorem c_X8_loop_2 (l : Launch) (g : gT) (mb : Nat) (ta : Nat) (so : Nat) (to : Nat) (ro : Nat) (tr : Nat) (pl : Nat) (mo : Nat) (ra : Nat) (lo : Nat) (cp : Nat) (sp : Nat) (yr : Nat) (ly : Nat) (lp : Nat) (la : Nat) (ln : Nat) (fy : Nat → Int32) (fp : Nat → Int32) (fa : Nat → Int32) (j : Nat) (hln : ln ≤ 30) (hj : j < ln) : CtI l g yX8_loop wsX8_loop rm_X8_loop [.ref mb, .int (nI j), .int 2] [gO mb 8 [.ref ta, .ref so, .ref to, .ref ro, .ref tr, .ref pl, .ref mo, .ref ra], gO ro 5 [.ref lo, .ref cp, .ref sp, .int (nI yr)], gO lo 0 [.ref ly, .ref lp, .ref la, .int (nI ln)], gI g ly 30 fy, gI g lp 30 fp, gI g la 30 fa] (fun (r : Int32) (_ : Unit) => r = fa j) (fun (_ : Unit) => [gO mb 8 [.ref ta, .ref so, .ref to, .ref ro, .ref tr, .ref pl, .ref mo, .ref ra], gO ro 5 [.ref lo, .ref cp, .ref sp, .int (nI yr)], gO lo 0 [.ref ly, .ref lp, .ref la, .int (nI ln)], gI g ly 30 fy, gI g lp 30 fp, gI g la 30 fa]) := by
  refine CtI.of (cc := cX8_loop) (maxL := 3) (ret := .int) (by decide) rfl (Nat.le_of_ble_eq_true rfl) ?_
  intro p e s m args below meth c A Q hnm F hK hA hP hD hS hret ls hl
  have hx := F.1
  have hb := F.2.1
  have hl : lv_has ls 3 [(0, .ref mb), (1, .int (nI j)), (2, .int 2)] := hl
  refine lv_iload_n hx hb dX8_loop_0 rfl (lv_at hl 1 rfl) ?_
  refine lv_iconst (v := 0) hx hb dX8_loop_1 (by decide) ?_
  refine lv_aload_n hx hb dX8_loop_2 rfl (lv_at hl 0 rfl) ?_
  refine g_get (C := RX8) (T := TX8) (N := 8) F hK hP i_X8_loop_X8 0 rfl rfl 3 (by decide) k_X8_loop_f33 (v := .ref ro) rfl dX8_loop_3 ?_
  refine g_get (C := RX5) (T := TX5) (N := 4) F hK hP i_X8_loop_X5 1 rfl rfl 0 (by decide) k_X8_loop_f159 (v := .ref lo) rfl dX8_loop_6 ?_
  refine g_get (C := RX0) (T := TX0) (N := 4) F hK hP i_X8_loop_X0 2 rfl rfl 3 (by decide) k_X8_loop_f163 (v := .int (nI ln)) rfl dX8_loop_9 ?_
  refine lv_iconst (v := 1) hx hb dX8_loop_12 (by decide) ?_
  refine n_isub (a := ln) (b := 1) (d := ln - 1) hx hb dX8_loop_13 (by omega) (by omega) ?_
  refine g_SI (wr := [gO mb 8 [.ref ta, .ref so, .ref to, .ref ro, .ref tr, .ref pl, .ref mo, .ref ra], gO ro 5 [.ref lo, .ref cp, .ref sp, .int (nI yr)], gO lo 0 [.ref ly, .ref lp, .ref la, .int (nI ln)], gI g ly 30 fy, gI g lp 30 fp, gI g la 30 fa]) (As := [.int (nI j), .int 0, .int (nI (ln - 1))]) (rest := []) (n := 3) F (c_X8_isWithin l g (nI j) 0 (nI (ln - 1))) gX8_loop_X8_isWithin rfl (by decide) ⟨by decide, by decide⟩ rfl hl.1 rfl (Nat.le_of_ble_eq_true rfl) dX8_loop_14 ⟨Nat.le_of_ble_eq_true rfl, Nat.le_of_ble_eq_true rfl⟩ hK hP hD hS hA [] [0, 1, 2, 3, 4, 5] (by decide) rfl rfl (by decide) (by decide) (fun r_14 u_14 H locs hw_14 hP hD hS => ?_)
  have hP : gP g [gO mb 8 [.ref ta, .ref so, .ref to, .ref ro, .ref tr, .ref pl, .ref mo, .ref ra], gO ro 5 [.ref lo, .ref cp, .ref sp, .int (nI yr)], gO lo 0 [.ref ly, .ref lp, .ref la, .int (nI ln)], gI g ly 30 fy, gI g lp 30 fp, gI g la 30 fa] H := hP
  have hD : va_D A [gO mb 8 [.ref ta, .ref so, .ref to, .ref ro, .ref tr, .ref pl, .ref mo, .ref ra], gO ro 5 [.ref lo, .ref cp, .ref sp, .int (nI yr)], gO lo 0 [.ref ly, .ref lp, .ref la, .int (nI ln)], gI g ly 30 fy, gI g lp 30 fp, gI g la 30 fa] := hD
  rcases hw_14 with ⟨rfl, b_14⟩ | ⟨rfl, b_14⟩
  · refine lv_if_ne (tgt := 30) hx hb dX8_loop_17 (by decide) (fun _ => ?_) (fun h => absurd h (by decide))
    refine lv_iload_n hx hb dX8_loop_30 rfl (lv_at hl 2 rfl) ?_
    refine lv_tableIn (tgt := 82) hx hb dX8_loop_31 (by decide) (by decide) rfl (by decide) ?_
    refine lv_aload_n hx hb dX8_loop_82 rfl (lv_at hl 0 rfl) ?_
    refine g_get (C := RX8) (T := TX8) (N := 8) F hK hP i_X8_loop_X8 0 rfl rfl 3 (by decide) k_X8_loop_f33 (v := .ref ro) rfl dX8_loop_83 ?_
    refine g_get (C := RX5) (T := TX5) (N := 4) F hK hP i_X8_loop_X5 1 rfl rfl 0 (by decide) k_X8_loop_f159 (v := .ref lo) rfl dX8_loop_86 ?_
    refine g_get (C := RX0) (T := TX0) (N := 4) F hK hP i_X8_loop_X0 2 rfl rfl 2 (by decide) k_X8_loop_f174 (v := .ref la) rfl dX8_loop_89 ?_
    refine lv_iload_n hx hb dX8_loop_92 rfl (lv_at hl 1 rfl) ?_
    refine g_iald (i := j) (v := (fa j)) hx hb hK hP 5 rfl (by decide) (by omega) (rfl) dX8_loop_93 ?_
    refine W.widen (k := 1) (n := 6) (Nat.le_of_ble_eq_true rfl) (Nat.le_of_ble_eq_true rfl) ?_
    exact hret _ _ _ _ (fa j) () dX8_loop_94 rfl (rfl) hP hD hS
  · exact absurd ((isW_n (a := 0) (by decide) (by omega) (by omega)).mpr ⟨Nat.zero_le _, by omega⟩) b_14


abbrev rm_X8_owner : Room := { frames := 6, cells := 1, slots := 6, locals := 120 }
theorem i_X8_owner_X8 : ∀ w ∈ wsX80, w ∈ wsX8_owner := by decide +kernel
theorem k_X8_owner_f43 : Cond.fieldLink RX8 43 (TX8 5).1 (TX8 5).2.1 (TX8 5).2.2.1 ∈ wsX8_owner := by decide +kernel
theorem i_X8_owner_X2 : ∀ w ∈ wsX20, w ∈ wsX8_owner := by decide +kernel
theorem k_X8_owner_f190 : Cond.fieldLink RX8 190 (TX2 5).1 (TX2 5).2.1 (TX2 5).2.2.1 ∈ wsX8_owner := by decide +kernel
set_option maxHeartbeats 4000000 in
set_option maxRecDepth 100000 in
theorem c_X8_owner_t1 (l : Launch) (g : gT) (mb : Nat) (ta : Nat) (so : Nat) (to : Nat) (ro : Nat) (tr : Nat) (pl : Nat) (mo : Nat) (ra : Nat) (px : Nat) (py : Nat) (pw : Nat) (pc_ : Nat) (pb : Nat) (pn : Nat) (ex : Nat → Int32) (ey : Nat → Int32) (ew : Nat → Int32) (ec : Nat → Int32) (eb : Nat → Int32) (lo : Nat) (cp : Nat) (sp : Nat) (yr : Nat) (cx : Nat) (cy : Nat) (n : Nat) (fx : Nat → Int32) (fy : Nat → Int32) (X : Nat → Int32) (Y : Nat → Int32) (k : Int32) (v : Int32) (hpn : pn ≤ 20) (hn : n ≤ 48) (hX : ∀ k, k < n → fx k = X k) (hY : ∀ k, k < n → fy k = Y k) (h : ¬ isW 0 (nI pn - 1) k) (hst : l.stackTraces = false) : CtT l g yX8_owner wsX8_owner rm_X8_owner [.ref mb, .int k, .int v] [gO mb 8 [.ref ta, .ref so, .ref to, .ref ro, .ref tr, .ref pl, .ref mo, .ref ra], gO pl 2 [.ref px, .ref py, .ref pw, .ref pc_, .ref pb, .int (nI pn)], gI g px 20 ex, gI g py 20 ey, gI g pw 20 ew, gI g pc_ 20 ec, gI g pb 20 eb, gO ro 5 [.ref lo, .ref cp, .ref sp, .int (nI yr)], gO cp 3 [.ref cx, .ref cy, .int (nI n)], gI g cx 48 fx, gI g cy 48 fy] := by
  refine CtT.of (cc := cX8_owner) (maxL := 3) (ret := .int) hst (by decide) rfl rfl (Nat.le_of_ble_eq_true rfl) x_X8_owner_l x_X8_owner_i x_X8_owner_x (by decide) ?_
  intro p e s m args below meth c A Q hnm F hK hA hP hD hS hret ls hl
  have hx := F.1
  have hb := F.2.1
  have hl : lv_has ls 3 [(0, .ref mb), (1, .int k), (2, .int v)] := hl
  refine lv_iload_n hx hb dX8_owner_0 rfl (lv_at hl 1 rfl) ?_
  refine lv_iconst (v := 0) hx hb dX8_owner_1 (by decide) ?_
  refine lv_aload_n hx hb dX8_owner_2 rfl (lv_at hl 0 rfl) ?_
  refine g_get (C := RX8) (T := TX8) (N := 8) F hK hP i_X8_owner_X8 0 rfl rfl 5 (by decide) k_X8_owner_f43 (v := .ref pl) rfl dX8_owner_3 ?_
  refine g_get (C := RX2) (T := TX2) (N := 6) F hK hP i_X8_owner_X2 1 rfl rfl 5 (by decide) k_X8_owner_f190 (v := .int (nI pn)) rfl dX8_owner_6 ?_
  refine lv_iconst (v := 1) hx hb dX8_owner_9 (by decide) ?_
  refine lv_isub hx hb dX8_owner_10 ?_
  refine g_SI (wr := [gO mb 8 [.ref ta, .ref so, .ref to, .ref ro, .ref tr, .ref pl, .ref mo, .ref ra], gO pl 2 [.ref px, .ref py, .ref pw, .ref pc_, .ref pb, .int (nI pn)], gI g px 20 ex, gI g py 20 ey, gI g pw 20 ew, gI g pc_ 20 ec, gI g pb 20 eb, gO ro 5 [.ref lo, .ref cp, .ref sp, .int (nI yr)], gO cp 3 [.ref cx, .ref cy, .int (nI n)], gI g cx 48 fx, gI g cy 48 fy]) (As := [.int k, .int 0, .int ((nI pn) - 1)]) (rest := []) (n := 3) F (c_X8_isWithin l g k 0 ((nI pn) - 1)) gX8_owner_X8_isWithin rfl (by decide) ⟨by decide, by decide⟩ rfl hl.1 rfl (Nat.le_of_ble_eq_true rfl) dX8_owner_11 ⟨Nat.le_of_ble_eq_true rfl, Nat.le_of_ble_eq_true rfl⟩ hK hP hD hS hA [] [0, 1, 2, 3, 4, 5, 6, 7, 8, 9, 10] (by decide) rfl rfl (by decide) (by decide) (fun r_11 u_11 H locs hw_11 hP hD hS => ?_)
  have hP : gP g [gO mb 8 [.ref ta, .ref so, .ref to, .ref ro, .ref tr, .ref pl, .ref mo, .ref ra], gO pl 2 [.ref px, .ref py, .ref pw, .ref pc_, .ref pb, .int (nI pn)], gI g px 20 ex, gI g py 20 ey, gI g pw 20 ew, gI g pc_ 20 ec, gI g pb 20 eb, gO ro 5 [.ref lo, .ref cp, .ref sp, .int (nI yr)], gO cp 3 [.ref cx, .ref cy, .int (nI n)], gI g cx 48 fx, gI g cy 48 fy] H := hP
  have hD : va_D A [gO mb 8 [.ref ta, .ref so, .ref to, .ref ro, .ref tr, .ref pl, .ref mo, .ref ra], gO pl 2 [.ref px, .ref py, .ref pw, .ref pc_, .ref pb, .int (nI pn)], gI g px 20 ex, gI g py 20 ey, gI g pw 20 ew, gI g pc_ 20 ec, gI g pb 20 eb, gO ro 5 [.ref lo, .ref cp, .ref sp, .int (nI yr)], gO cp 3 [.ref cx, .ref cy, .int (nI n)], gI g cx 48 fx, gI g cy 48 fy] := hD
  rcases hw_11 with ⟨rfl, b_11⟩ | ⟨rfl, b_11⟩
  · exact absurd b_11 h
  · refine lv_if_ne (tgt := 27) hx hb dX8_owner_14 (by decide) (fun h => absurd (by decide) h) (fun _ => ?_)
    exact hret H locs 17 ls 191 "no such plot" hP hD hS (by decide) hl.1 dX8_owner_17 dX8_owner_20 dX8_owner_21 dX8_owner_23 dX8_owner_26

set_option maxHeartbeats 4000000 in
set_option maxRecDepth 100000 in
theorem c_X8_owner_t2 (l : Launch) (g : gT) (mb : Nat) (ta : Nat) (so : Nat) (to : Nat) (ro : Nat) (tr : Nat) (pl : Nat) (mo : Nat) (ra : Nat) (px : Nat) (py : Nat) (pw : Nat) (pc_ : Nat) (pb : Nat) (pn : Nat) (ex : Nat → Int32) (ey : Nat → Int32) (ew : Nat → Int32) (ec : Nat → Int32) (eb : Nat → Int32) (lo : Nat) (cp : Nat) (sp : Nat) (yr : Nat) (cx : Nat) (cy : Nat) (n : Nat) (fx : Nat → Int32) (fy : Nat → Int32) (X : Nat → Int32) (Y : Nat → Int32) (k : Int32) (v : Int32) (hpn : pn ≤ 20) (hn : n ≤ 48) (hX : ∀ k, k < n → fx k = X k) (hY : ∀ k, k < n → fy k = Y k) (h : v.toInt < 0 ∨ 2 < v.toInt) (h1 : isW 0 (nI pn - 1) k) (hst : l.stackTraces = false) : CtT l g yX8_owner wsX8_owner rm_X8_owner [.ref mb, .int k, .int v] [gO mb 8 [.ref ta, .ref so, .ref to, .ref ro, .ref tr, .ref pl, .ref mo, .ref ra], gO pl 2 [.ref px, .ref py, .ref pw, .ref pc_, .ref pb, .int (nI pn)], gI g px 20 ex, gI g py 20 ey, gI g pw 20 ew, gI g pc_ 20 ec, gI g pb 20 eb, gO ro 5 [.ref lo, .ref cp, .ref sp, .int (nI yr)], gO cp 3 [.ref cx, .ref cy, .int (nI n)], gI g cx 48 fx, gI g cy 48 fy] := by
  refine CtT.of (cc := cX8_owner) (maxL := 3) (ret := .int) hst (by decide) rfl rfl (Nat.le_of_ble_eq_true rfl) x_X8_owner_l x_X8_owner_i x_X8_owner_x (by decide) ?_
  intro p e s m args below meth c A Q hnm F hK hA hP hD hS hret ls hl
  have hx := F.1
  have hb := F.2.1
  have hl : lv_has ls 3 [(0, .ref mb), (1, .int k), (2, .int v)] := hl
  refine lv_iload_n hx hb dX8_owner_0 rfl (lv_at hl 1 rfl) ?_
  refine lv_iconst (v := 0) hx hb dX8_owner_1 (by decide) ?_
  refine lv_aload_n hx hb dX8_owner_2 rfl (lv_at hl 0 rfl) ?_
  refine g_get (C := RX8) (T := TX8) (N := 8) F hK hP i_X8_owner_X8 0 rfl rfl 5 (by decide) k_X8_owner_f43 (v := .ref pl) rfl dX8_owner_3 ?_
  refine g_get (C := RX2) (T := TX2) (N := 6) F hK hP i_X8_owner_X2 1 rfl rfl 5 (by decide) k_X8_owner_f190 (v := .int (nI pn)) rfl dX8_owner_6 ?_
  refine lv_iconst (v := 1) hx hb dX8_owner_9 (by decide) ?_
  refine lv_isub hx hb dX8_owner_10 ?_
  refine g_SI (wr := [gO mb 8 [.ref ta, .ref so, .ref to, .ref ro, .ref tr, .ref pl, .ref mo, .ref ra], gO pl 2 [.ref px, .ref py, .ref pw, .ref pc_, .ref pb, .int (nI pn)], gI g px 20 ex, gI g py 20 ey, gI g pw 20 ew, gI g pc_ 20 ec, gI g pb 20 eb, gO ro 5 [.ref lo, .ref cp, .ref sp, .int (nI yr)], gO cp 3 [.ref cx, .ref cy, .int (nI n)], gI g cx 48 fx, gI g cy 48 fy]) (As := [.int k, .int 0, .int ((nI pn) - 1)]) (rest := []) (n := 3) F (c_X8_isWithin l g k 0 ((nI pn) - 1)) gX8_owner_X8_isWithin rfl (by decide) ⟨by decide, by decide⟩ rfl hl.1 rfl (Nat.le_of_ble_eq_true rfl) dX8_owner_11 ⟨Nat.le_of_ble_eq_true rfl, Nat.le_of_ble_eq_true rfl⟩ hK hP hD hS hA [] [0, 1, 2, 3, 4, 5, 6, 7, 8, 9, 10] (by decide) rfl rfl (by decide) (by decide) (fun r_11 u_11 H locs hw_11 hP hD hS => ?_)
  have hP : gP g [gO mb 8 [.ref ta, .ref so, .ref to, .ref ro, .ref tr, .ref pl, .ref mo, .ref ra], gO pl 2 [.ref px, .ref py, .ref pw, .ref pc_, .ref pb, .int (nI pn)], gI g px 20 ex, gI g py 20 ey, gI g pw 20 ew, gI g pc_ 20 ec, gI g pb 20 eb, gO ro 5 [.ref lo, .ref cp, .ref sp, .int (nI yr)], gO cp 3 [.ref cx, .ref cy, .int (nI n)], gI g cx 48 fx, gI g cy 48 fy] H := hP
  have hD : va_D A [gO mb 8 [.ref ta, .ref so, .ref to, .ref ro, .ref tr, .ref pl, .ref mo, .ref ra], gO pl 2 [.ref px, .ref py, .ref pw, .ref pc_, .ref pb, .int (nI pn)], gI g px 20 ex, gI g py 20 ey, gI g pw 20 ew, gI g pc_ 20 ec, gI g pb 20 eb, gO ro 5 [.ref lo, .ref cp, .ref sp, .int (nI yr)], gO cp 3 [.ref cx, .ref cy, .int (nI n)], gI g cx 48 fx, gI g cy 48 fy] := hD
  rcases hw_11 with ⟨rfl, b_11⟩ | ⟨rfl, b_11⟩
  · refine lv_if_ne (tgt := 27) hx hb dX8_owner_14 (by decide) (fun _ => ?_) (fun h => absurd h (by decide))
    refine lv_iload_n hx hb dX8_owner_27 rfl (lv_at hl 2 rfl) ?_
    refine lv_tableOut (tgt := 105) hx hb dX8_owner_28 (h) (by decide) ?_
    exact hret H locs 105 ls 201 "a plot has 0 owner, 1 side and 2 changes alone" hP hD hS (by decide) hl.1 dX8_owner_105 dX8_owner_108 dX8_owner_109 dX8_owner_111 dX8_owner_114
  · exact absurd h1 b_11

theorem k_X8_owner_f193 : Cond.fieldLink RX8 193 (TX2 2).1 (TX2 2).2.1 (TX2 2).2.2.1 ∈ wsX8_owner := by decide +kernel
set_option maxHeartbeats 4000000 in
set_option maxRecDepth 100000 in
theorem c_X8_owner_0 (l : Launch) (g : gT) (mb : Nat) (ta : Nat) (so : Nat) (to : Nat) (ro : Nat) (tr : Nat) (pl : Nat) (mo : Nat) (ra : Nat) (px : Nat) (py : Nat) (pw : Nat) (pc_ : Nat) (pb : Nat) (pn : Nat) (ex : Nat → Int32) (ey : Nat → Int32) (ew : Nat → Int32) (ec : Nat → Int32) (eb : Nat → Int32) (lo : Nat) (cp : Nat) (sp : Nat) (yr : Nat) (cx : Nat) (cy : Nat) (n : Nat) (fx : Nat → Int32) (fy : Nat → Int32) (X : Nat → Int32) (Y : Nat → Int32) (j : Nat) (hpn : pn ≤ 20) (hn : n ≤ 48) (hX : ∀ k, k < n → fx k = X k) (hY : ∀ k, k < n → fy k = Y k) (hj : j < pn) : CtI l g yX8_owner wsX8_owner rm_X8_owner [.ref mb, .int (nI j), .int 0] [gO mb 8 [.ref ta, .ref so, .ref to, .ref ro, .ref tr, .ref pl, .ref mo, .ref ra], gO pl 2 [.ref px, .ref py, .ref pw, .ref pc_, .ref pb, .int (nI pn)], gI g px 20 ex, gI g py 20 ey, gI g pw 20 ew, gI g pc_ 20 ec, gI g pb 20 eb, gO ro 5 [.ref lo, .ref cp, .ref sp, .int (nI yr)], gO cp 3 [.ref cx, .ref cy, .int (nI n)], gI g cx 48 fx, gI g cy 48 fy] (fun (r : Int32) (_ : Unit) => r = ew j) (fun (_ : Unit) => [gO mb 8 [.ref ta, .ref so, .ref to, .ref ro, .ref tr, .ref pl, .ref mo, .ref ra], gO pl 2 [.ref px, .ref py, .ref pw, .ref pc_, .ref pb, .int (nI pn)], gI g px 20 ex, gI g py 20 ey, gI g pw 20 ew, gI g pc_ 20 ec, gI g pb 20 eb, gO ro 5 [.ref lo, .ref cp, .ref sp, .int (nI yr)], gO cp 3 [.ref cx, .ref cy, .int (nI n)], gI g cx 48 fx, gI g cy 48 fy]) := by
  refine CtI.of (cc := cX8_owner) (maxL := 3) (ret := .int) (by decide) rfl (Nat.le_of_ble_eq_true rfl) ?_
  intro p e s m args below meth c A Q hnm F hK hA hP hD hS hret ls hl
  have hx := F.1
  have hb := F.2.1
  have hl : lv_has ls 3 [(0, .ref mb), (1, .int (nI j)), (2, .int 0)] := hl
  refine lv_iload_n hx hb dX8_owner_0 rfl (lv_at hl 1 rfl) ?_
  refine lv_iconst (v := 0) hx hb dX8_owner_1 (by decide) ?_
  refine lv_aload_n hx hb dX8_owner_2 rfl (lv_at hl 0 rfl) ?_
  refine g_get (C := RX8) (T := TX8) (N := 8) F hK hP i_X8_owner_X8 0 rfl rfl 5 (by decide) k_X8_owner_f43 (v := .ref pl) rfl dX8_owner_3 ?_
  refine g_get (C := RX2) (T := TX2) (N := 6) F hK hP i_X8_owner_X2 1 rfl rfl 5 (by decide) k_X8_owner_f190 (v := .int (nI pn)) rfl dX8_owner_6 ?_
  refine lv_iconst (v := 1) hx hb dX8_owner_9 (by decide) ?_
  refine n_isub (a := pn) (b := 1) (d := pn - 1) hx hb dX8_owner_10 (by omega) (by omega) ?_
  refine g_SI (wr := [gO mb 8 [.ref ta, .ref so, .ref to, .ref ro, .ref tr, .ref pl, .ref mo, .ref ra], gO pl 2 [.ref px, .ref py, .ref pw, .ref pc_, .ref pb, .int (nI pn)], gI g px 20 ex, gI g py 20 ey, gI g pw 20 ew, gI g pc_ 20 ec, gI g pb 20 eb, gO ro 5 [.ref lo, .ref cp, .ref sp, .int (nI yr)], gO cp 3 [.ref cx, .ref cy, .int (nI n)], gI g cx 48 fx, gI g cy 48 fy]) (As := [.int (nI j), .int 0, .int (nI (pn - 1))]) (rest := []) (n := 3) F (c_X8_isWithin l g (nI j) 0 (nI (pn - 1))) gX8_owner_X8_isWithin rfl (by decide) ⟨by decide, by decide⟩ rfl hl.1 rfl (Nat.le_of_ble_eq_true rfl) dX8_owner_11 ⟨Nat.le_of_ble_eq_true rfl, Nat.le_of_ble_eq_true rfl⟩ hK hP hD hS hA [] [0, 1, 2, 3, 4, 5, 6, 7, 8, 9, 10] (by decide) rfl rfl (by decide) (by decide) (fun r_11 u_11 H locs hw_11 hP hD hS => ?_)
  have hP : gP g [gO mb 8 [.ref ta, .ref so, .ref to, .ref ro, .ref tr, .ref pl, .ref mo, .ref ra], gO pl 2 [.ref px, .ref py, .ref pw, .ref pc_, .ref pb, .int (nI pn)], gI g px 20 ex, gI g py 20 ey, gI g pw 20 ew, gI g pc_ 20 ec, gI g pb 20 eb, gO ro 5 [.ref lo, .ref cp, .ref sp, .int (nI yr)], gO cp 3 [.ref cx, .ref cy, .int (nI n)], gI g cx 48 fx, gI g cy 48 fy] H := hP
  have hD : va_D A [gO mb 8 [.ref ta, .ref so, .ref to, .ref ro, .ref tr, .ref pl, .ref mo, .ref ra], gO pl 2 [.ref px, .ref py, .ref pw, .ref pc_, .ref pb, .int (nI pn)], gI g px 20 ex, gI g py 20 ey, gI g pw 20 ew, gI g pc_ 20 ec, gI g pb 20 eb, gO ro 5 [.ref lo, .ref cp, .ref sp, .int (nI yr)], gO cp 3 [.ref cx, .ref cy, .int (nI n)], gI g cx 48 fx, gI g cy 48 fy] := hD
  rcases hw_11 with ⟨rfl, b_11⟩ | ⟨rfl, b_11⟩
  · refine lv_if_ne (tgt := 27) hx hb dX8_owner_14 (by decide) (fun _ => ?_) (fun h => absurd h (by decide))
    refine lv_iload_n hx hb dX8_owner_27 rfl (lv_at hl 2 rfl) ?_
    refine lv_tableIn (tgt := 56) hx hb dX8_owner_28 (by decide) (by decide) rfl (by decide) ?_
    refine lv_aload_n hx hb dX8_owner_56 rfl (lv_at hl 0 rfl) ?_
    refine g_get (C := RX8) (T := TX8) (N := 8) F hK hP i_X8_owner_X8 0 rfl rfl 5 (by decide) k_X8_owner_f43 (v := .ref pl) rfl dX8_owner_57 ?_
    refine g_get (C := RX2) (T := TX2) (N := 6) F hK hP i_X8_owner_X2 1 rfl rfl 2 (by decide) k_X8_owner_f193 (v := .ref pw) rfl dX8_owner_60 ?_
    refine lv_iload_n hx hb dX8_owner_63 rfl (lv_at hl 1 rfl) ?_
    refine g_iald (i := j) (v := (ew j)) hx hb hK hP 4 rfl (by decide) (by omega) (rfl) dX8_owner_64 ?_
    refine W.widen (k := 1) (n := 6) (Nat.le_of_ble_eq_true rfl) (Nat.le_of_ble_eq_true rfl) ?_
    exact hret _ _ _ _ (ew j) () dX8_owner_65 rfl (rfl) hP hD hS
  · exact absurd ((isW_n (a := 0) (by decide) (by omega) (by omega)).mpr ⟨Nat.zero_le _, by omega⟩) b_11

theorem k_X8_owner_f33 : Cond.fieldLink RX8 33 (TX8 3).1 (TX8 3).2.1 (TX8 3).2.2.1 ∈ wsX8_owner := by decide +kernel
theorem i_X8_owner_X5 : ∀ w ∈ wsX50, w ∈ wsX8_owner := by decide +kernel
theorem k_X8_owner_f88 : Cond.fieldLink RX8 88 (TX5 1).1 (TX5 1).2.1 (TX5 1).2.2.1 ∈ wsX8_owner := by decide +kernel
theorem k_X8_owner_f196 : Cond.fieldLink RX8 196 (TX2 0).1 (TX2 0).2.1 (TX2 0).2.2.1 ∈ wsX8_owner := by decide +kernel
theorem k_X8_owner_f197 : Cond.fieldLink RX8 197 (TX2 1).1 (TX2 1).2.1 (TX2 1).2.2.1 ∈ wsX8_owner := by decide +kernel
set_option maxHeartbeats 4000000 in
set_option maxRecDepth 100000 in
theorem c_X8_owner_1 (l : Launch) (g : gT) (mb : Nat) (ta : Nat) (so : Nat) (to : Nat) (ro : Nat) (tr : Nat) (pl : Nat) (mo : Nat) (ra : Nat) (px : Nat) (py : Nat) (pw : Nat) (pc_ : Nat) (pb : Nat) (pn : Nat) (ex : Nat → Int32) (ey : Nat → Int32) (ew : Nat → Int32) (ec : Nat → Int32) (eb : Nat → Int32) (lo : Nat) (cp : Nat) (sp : Nat) (yr : Nat) (cx : Nat) (cy : Nat) (n : Nat) (fx : Nat → Int32) (fy : Nat → Int32) (X : Nat → Int32) (Y : Nat → Int32) (j : Nat) (hpn : pn ≤ 20) (hn : n ≤ 48) (hX : ∀ k, k < n → fx k = X k) (hY : ∀ k, k < n → fy k = Y k) (hj : j < pn) (h1n : 1 ≤ n) : CtI l g yX8_owner wsX8_owner rm_X8_owner [.ref mb, .int (nI j), .int 1] [gO mb 8 [.ref ta, .ref so, .ref to, .ref ro, .ref tr, .ref pl, .ref mo, .ref ra], gO pl 2 [.ref px, .ref py, .ref pw, .ref pc_, .ref pb, .int (nI pn)], gI g px 20 ex, gI g py 20 ey, gI g pw 20 ew, gI g pc_ 20 ec, gI g pb 20 eb, gO ro 5 [.ref lo, .ref cp, .ref sp, .int (nI yr)], gO cp 3 [.ref cx, .ref cy, .int (nI n)], gI g cx 48 fx, gI g cy 48 fy] (fun (r : Int32) (_ : Unit) => r = nI (sideS X Y n (ex j) (ey j))) (fun (_ : Unit) => [gO mb 8 [.ref ta, .ref so, .ref to, .ref ro, .ref tr, .ref pl, .ref mo, .ref ra], gO pl 2 [.ref px, .ref py, .ref pw, .ref pc_, .ref pb, .int (nI pn)], gI g px 20 ex, gI g py 20 ey, gI g pw 20 ew, gI g pc_ 20 ec, gI g pb 20 eb, gO ro 5 [.ref lo, .ref cp, .ref sp, .int (nI yr)], gO cp 3 [.ref cx, .ref cy, .int (nI n)], gI g cx 48 fx, gI g cy 48 fy]) := by
  refine CtI.of (cc := cX8_owner) (maxL := 3) (ret := .int) (by decide) rfl (Nat.le_of_ble_eq_true rfl) ?_
  intro p e s m args below meth c A Q hnm F hK hA hP hD hS hret ls hl
  have hx := F.1
  have hb := F.2.1
  have hl : lv_has ls 3 [(0, .ref mb), (1, .int (nI j)), (2, .int 1)] := hl
  refine lv_iload_n hx hb dX8_owner_0 rfl (lv_at hl 1 rfl) ?_
  refine lv_iconst (v := 0) hx hb dX8_owner_1 (by decide) ?_
  refine lv_aload_n hx hb dX8_owner_2 rfl (lv_at hl 0 rfl) ?_
  refine g_get (C := RX8) (T := TX8) (N := 8) F hK hP i_X8_owner_X8 0 rfl rfl 5 (by decide) k_X8_owner_f43 (v := .ref pl) rfl dX8_owner_3 ?_
  refine g_get (C := RX2) (T := TX2) (N := 6) F hK hP i_X8_owner_X2 1 rfl rfl 5 (by decide) k_X8_owner_f190 (v := .int (nI pn)) rfl dX8_owner_6 ?_
  refine lv_iconst (v := 1) hx hb dX8_owner_9 (by decide) ?_
  refine n_isub (a := pn) (b := 1) (d := pn - 1) hx hb dX8_owner_10 (by omega) (by omega) ?_
  refine g_SI (wr := [gO mb 8 [.ref ta, .ref so, .ref to, .ref ro, .ref tr, .ref pl, .ref mo, .ref ra], gO pl 2 [.ref px, .ref py, .ref pw, .ref pc_, .ref pb, .int (nI pn)], gI g px 20 ex, gI g py 20 ey, gI g pw 20 ew, gI g pc_ 20 ec, gI g pb 20 eb, gO ro 5 [.ref lo, .ref cp, .ref sp, .int (nI yr)], gO cp 3 [.ref cx, .ref cy, .int (nI n)], gI g cx 48 fx, gI g cy 48 fy]) (As := [.int (nI j), .int 0, .int (nI (pn - 1))]) (rest := []) (n := 3) F (c_X8_isWithin l g (nI j) 0 (nI (pn - 1))) gX8_owner_X8_isWithin rfl (by decide) ⟨by decide, by decide⟩ rfl hl.1 rfl (Nat.le_of_ble_eq_true rfl) dX8_owner_11 ⟨Nat.le_of_ble_eq_true rfl, Nat.le_of_ble_eq_true rfl⟩ hK hP hD hS hA [] [0, 1, 2, 3, 4, 5, 6, 7, 8, 9, 10] (by decide) rfl rfl (by decide) (by decide) (fun r_11 u_11 H locs hw_11 hP hD hS => ?_)
  have hP : gP g [gO mb 8 [.ref ta, .ref so, .ref to, .ref ro, .ref tr, .ref pl, .ref mo, .ref ra], gO pl 2 [.ref px, .ref py, .ref pw, .ref pc_, .ref pb, .int (nI pn)], gI g px 20 ex, gI g py 20 ey, gI g pw 20 ew, gI g pc_ 20 ec, gI g pb 20 eb, gO ro 5 [.ref lo, .ref cp, .ref sp, .int (nI yr)], gO cp 3 [.ref cx, .ref cy, .int (nI n)], gI g cx 48 fx, gI g cy 48 fy] H := hP
  have hD : va_D A [gO mb 8 [.ref ta, .ref so, .ref to, .ref ro, .ref tr, .ref pl, .ref mo, .ref ra], gO pl 2 [.ref px, .ref py, .ref pw, .ref pc_, .ref pb, .int (nI pn)], gI g px 20 ex, gI g py 20 ey, gI g pw 20 ew, gI g pc_ 20 ec, gI g pb 20 eb, gO ro 5 [.ref lo, .ref cp, .ref sp, .int (nI yr)], gO cp 3 [.ref cx, .ref cy, .int (nI n)], gI g cx 48 fx, gI g cy 48 fy] := hD
  rcases hw_11 with ⟨rfl, b_11⟩ | ⟨rfl, b_11⟩
  · refine lv_if_ne (tgt := 27) hx hb dX8_owner_14 (by decide) (fun _ => ?_) (fun h => absurd h (by decide))
    refine lv_iload_n hx hb dX8_owner_27 rfl (lv_at hl 2 rfl) ?_
    refine lv_tableIn (tgt := 66) hx hb dX8_owner_28 (by decide) (by decide) rfl (by decide) ?_
    refine lv_aload_n hx hb dX8_owner_66 rfl (lv_at hl 0 rfl) ?_
    refine g_get (C := RX8) (T := TX8) (N := 8) F hK hP i_X8_owner_X8 0 rfl rfl 3 (by decide) k_X8_owner_f33 (v := .ref ro) rfl dX8_owner_67 ?_
    refine g_get (C := RX5) (T := TX5) (N := 4) F hK hP i_X8_owner_X5 7 rfl rfl 1 (by decide) k_X8_owner_f88 (v := .ref cp) rfl dX8_owner_70 ?_
    refine lv_aload_n hx hb dX8_owner_73 rfl (lv_at hl 0 rfl) ?_
    refine g_get (C := RX8) (T := TX8) (N := 8) F hK hP i_X8_owner_X8 0 rfl rfl 5 (by decide) k_X8_owner_f43 (v := .ref pl) rfl dX8_owner_74 ?_
    refine g_get (C := RX2) (T := TX2) (N := 6) F hK hP i_X8_owner_X2 1 rfl rfl 0 (by decide) k_X8_owner_f196 (v := .ref px) rfl dX8_owner_77 ?_
    refine lv_iload_n hx hb dX8_owner_80 rfl (lv_at hl 1 rfl) ?_
    refine g_iald (i := j) (v := (ex j)) hx hb hK hP 2 rfl (by decide) (by omega) (rfl) dX8_owner_81 ?_
    refine lv_aload_n hx hb dX8_owner_82 rfl (lv_at hl 0 rfl) ?_
    refine g_get (C := RX8) (T := TX8) (N := 8) F hK hP i_X8_owner_X8 0 rfl rfl 5 (by decide) k_X8_owner_f43 (v := .ref pl) rfl dX8_owner_83 ?_
    refine g_get (C := RX2) (T := TX2) (N := 6) F hK hP i_X8_owner_X2 1 rfl rfl 1 (by decide) k_X8_owner_f197 (v := .ref py) rfl dX8_owner_86 ?_
    refine lv_iload_n hx hb dX8_owner_89 rfl (lv_at hl 1 rfl) ?_
    refine g_iald (i := j) (v := (ey j)) hx hb hK hP 3 rfl (by decide) (by omega) (rfl) dX8_owner_90 ?_
    refine g_VI (wr := [gO mb 8 [.ref ta, .ref so, .ref to, .ref ro, .ref tr, .ref pl, .ref mo, .ref ra], gO pl 2 [.ref px, .ref py, .ref pw, .ref pc_, .ref pb, .int (nI pn)], gI g px 20 ex, gI g py 20 ey, gI g pw 20 ew, gI g pc_ 20 ec, gI g pb 20 eb, gO ro 5 [.ref lo, .ref cp, .ref sp, .int (nI yr)]]) (As := [.int (ex j), .int (ey j)]) (rest := []) (n := 2) F (c_X3_sideOf l g cp cx cy n fx fy X Y (ex j) (ey j) (by omega) (hX) (hY) (by omega)) gX8_owner_X3_sideOf rfl (by decide) ⟨by decide, by decide⟩ 8 3 rfl rfl rfl rfl hl.1 rfl (Nat.le_of_ble_eq_true rfl) dX8_owner_91 ⟨Nat.le_of_ble_eq_true rfl, Nat.le_of_ble_eq_true rfl⟩ hK hP hD hS hA [8, 9, 10] [0, 1, 2, 3, 4, 5, 6, 7] (by decide) rfl rfl (by decide) (by decide) (fun r_91 u_91 H locs hw_91 hP hD hS => ?_)
    have hP : gP g [gO mb 8 [.ref ta, .ref so, .ref to, .ref ro, .ref tr, .ref pl, .ref mo, .ref ra], gO pl 2 [.ref px, .ref py, .ref pw, .ref pc_, .ref pb, .int (nI pn)], gI g px 20 ex, gI g py 20 ey, gI g pw 20 ew, gI g pc_ 20 ec, gI g pb 20 eb, gO ro 5 [.ref lo, .ref cp, .ref sp, .int (nI yr)], gO cp 3 [.ref cx, .ref cy, .int (nI n)], gI g cx 48 fx, gI g cy 48 fy] H := hP
    have hD : va_D A [gO mb 8 [.ref ta, .ref so, .ref to, .ref ro, .ref tr, .ref pl, .ref mo, .ref ra], gO pl 2 [.ref px, .ref py, .ref pw, .ref pc_, .ref pb, .int (nI pn)], gI g px 20 ex, gI g py 20 ey, gI g pw 20 ew, gI g pc_ 20 ec, gI g pb 20 eb, gO ro 5 [.ref lo, .ref cp, .ref sp, .int (nI yr)], gO cp 3 [.ref cx, .ref cy, .int (nI n)], gI g cx 48 fx, gI g cy 48 fy] := hD
    obtain rfl := hw_91
    refine W.widen (k := 1) (n := 6) (Nat.le_of_ble_eq_true rfl) (Nat.le_of_ble_eq_true rfl) ?_
    exact hret _ _ _ _ (nI (sideS X Y n (ex j) (ey j))) () dX8_owner_94 rfl (rfl) hP hD hS
  · exact absurd ((isW_n (a := 0) (by decide) (by omega) (by omega)).mpr ⟨Nat.zero_le _, by omega⟩) b_11

theorem k_X8_owner_f198 : Cond.fieldLink RX8 198 (TX2 3).1 (TX2 3).2.1 (TX2 3).2.2.1 ∈ wsX8_owner := by decide +kernel
set_option maxHeartbeats 4000000 in
set_option maxRecDepth 100000 in
theorem c_X8_owner_2 (l : Launch) (g : gT) (mb : Nat) (ta : Nat) (so : Nat) (to : Nat) (ro : Nat) (tr : Nat) (pl : Nat) (mo : Nat) (ra : Nat) (px : Nat) (py : Nat) (pw : Nat) (pc_ : Nat) (pb : Nat) (pn : Nat) (ex : Nat → Int32) (ey : Nat → Int32) (ew : Nat → Int32) (ec : Nat → Int32) (eb : Nat → Int32) (lo : Nat) (cp : Nat) (sp : Nat) (yr : Nat) (cx : Nat) (cy : Nat) (n : Nat) (fx : Nat → Int32) (fy : Nat → Int32) (X : Nat → Int32) (Y : Nat → Int32) (j : Nat) (hpn : pn ≤ 20) (hn : n ≤ 48) (hX : ∀ k, k < n → fx k = X k) (hY : ∀ k, k < n → fy k = Y k) (hj : j < pn) : CtI l g yX8_owner wsX8_owner rm_X8_owner [.ref mb, .int (nI j), .int 2] [gO mb 8 [.ref ta, .ref so, .ref to, .ref ro, .ref tr, .ref pl, .ref mo, .ref ra], gO pl 2 [.ref px, .ref py, .ref pw, .ref pc_, .ref pb, .int (nI pn)], gI g px 20 ex, gI g py 20 ey, gI g pw 20 ew, gI g pc_ 20 ec, gI g pb 20 eb, gO ro 5 [.ref lo, .ref cp, .ref sp, .int (nI yr)], gO cp 3 [.ref cx, .ref cy, .int (nI n)], gI g cx 48 fx, gI g cy 48 fy] (fun (r : Int32) (_ : Unit) => r = ec j) (fun (_ : Unit) => [gO mb 8 [.ref ta, .ref so, .ref to, .ref ro, .ref tr, .ref pl, .ref mo, .ref ra], gO pl 2 [.ref px, .ref py, .ref pw, .ref pc_, .ref pb, .int (nI pn)], gI g px 20 ex, gI g py 20 ey, gI g pw 20 ew, gI g pc_ 20 ec, gI g pb 20 eb, gO ro 5 [.ref lo, .ref cp, .ref sp, .int (nI yr)], gO cp 3 [.ref cx, .ref cy, .int (nI n)], gI g cx 48 fx, gI g cy 48 fy]) := by
  refine CtI.of (cc := cX8_owner) (maxL := 3) (ret := .int) (by decide) rfl (Nat.le_of_ble_eq_true rfl) ?_
  intro p e s m args below meth c A Q hnm F hK hA hP hD hS hret ls hl
  have hx := F.1
  have hb := F.2.1
  have hl : lv_has ls 3 [(0, .ref mb), (1, .int (nI j)), (2, .int 2)] := hl
  refine lv_iload_n hx hb dX8_owner_0 rfl (lv_at hl 1 rfl) ?_
  refine lv_iconst (v := 0) hx hb dX8_owner_1 (by decide) ?_
  refine lv_aload_n hx hb dX8_owner_2 rfl (lv_at hl 0 rfl) ?_
  refine g_get (C := RX8) (T := TX8) (N := 8) F hK hP i_X8_owner_X8 0 rfl rfl 5 (by decide) k_X8_owner_f43 (v := .ref pl) rfl dX8_owner_3 ?_
  refine g_get (C := RX2) (T := TX2) (N := 6) F hK hP i_X8_owner_X2 1 rfl rfl 5 (by decide) k_X8_owner_f190 (v := .int (nI pn)) rfl dX8_owner_6 ?_
  refine lv_iconst (v := 1) hx hb dX8_owner_9 (by decide) ?_
  refine n_isub (a := pn) (b := 1) (d := pn - 1) hx hb dX8_owner_10 (by omega) (by omega) ?_
  refine g_SI (wr := [gO mb 8 [.ref ta, .ref so, .ref to, .ref ro, .ref tr, .ref pl, .ref mo, .ref ra], gO pl 2 [.ref px, .ref py, .ref pw, .ref pc_, .ref pb, .int (nI pn)], gI g px 20 ex, gI g py 20 ey, gI g pw 20 ew, gI g pc_ 20 ec, gI g pb 20 eb, gO ro 5 [.ref lo, .ref cp, .ref sp, .int (nI yr)], gO cp 3 [.ref cx, .ref cy, .int (nI n)], gI g cx 48 fx, gI g cy 48 fy]) (As := [.int (nI j), .int 0, .int (nI (pn - 1))]) (rest := []) (n := 3) F (c_X8_isWithin l g (nI j) 0 (nI (pn - 1))) gX8_owner_X8_isWithin rfl (by decide) ⟨by decide, by decide⟩ rfl hl.1 rfl (Nat.le_of_ble_eq_true rfl) dX8_owner_11 ⟨Nat.le_of_ble_eq_true rfl, Nat.le_of_ble_eq_true rfl⟩ hK hP hD hS hA [] [0, 1, 2, 3, 4, 5, 6, 7, 8, 9, 10] (by decide) rfl rfl (by decide) (by decide) (fun r_11 u_11 H locs hw_11 hP hD hS => ?_)
  have hP : gP g [gO mb 8 [.ref ta, .ref so, .ref to, .ref ro, .ref tr, .ref pl, .ref mo, .ref ra], gO pl 2 [.ref px, .ref py, .ref pw, .ref pc_, .ref pb, .int (nI pn)], gI g px 20 ex, gI g py 20 ey, gI g pw 20 ew, gI g pc_ 20 ec, gI g pb 20 eb, gO ro 5 [.ref lo, .ref cp, .ref sp, .int (nI yr)], gO cp 3 [.ref cx, .ref cy, .int (nI n)], gI g cx 48 fx, gI g cy 48 fy] H := hP
  have hD : va_D A [gO mb 8 [.ref ta, .ref so, .ref to, .ref ro, .ref tr, .ref pl, .ref mo, .ref ra], gO pl 2 [.ref px, .ref py, .ref pw, .ref pc_, .ref pb, .int (nI pn)], gI g px 20 ex, gI g py 20 ey, gI g pw 20 ew, gI g pc_ 20 ec, gI g pb 20 eb, gO ro 5 [.ref lo, .ref cp, .ref sp, .int (nI yr)], gO cp 3 [.ref cx, .ref cy, .int (nI n)], gI g cx 48 fx, gI g cy 48 fy] := hD
  rcases hw_11 with ⟨rfl, b_11⟩ | ⟨rfl, b_11⟩
  · refine lv_if_ne (tgt := 27) hx hb dX8_owner_14 (by decide) (fun _ => ?_) (fun h => absurd h (by decide))
    refine lv_iload_n hx hb dX8_owner_27 rfl (lv_at hl 2 rfl) ?_
    refine lv_tableIn (tgt := 95) hx hb dX8_owner_28 (by decide) (by decide) rfl (by decide) ?_
    refine lv_aload_n hx hb dX8_owner_95 rfl (lv_at hl 0 rfl) ?_
    refine g_get (C := RX8) (T := TX8) (N := 8) F hK hP i_X8_owner_X8 0 rfl rfl 5 (by decide) k_X8_owner_f43 (v := .ref pl) rfl dX8_owner_96 ?_
    refine g_get (C := RX2) (T := TX2) (N := 6) F hK hP i_X8_owner_X2 1 rfl rfl 3 (by decide) k_X8_owner_f198 (v := .ref pc_) rfl dX8_owner_99 ?_
    refine lv_iload_n hx hb dX8_owner_102 rfl (lv_at hl 1 rfl) ?_
    refine g_iald (i := j) (v := (ec j)) hx hb hK hP 5 rfl (by decide) (by omega) (rfl) dX8_owner_103 ?_
    refine W.widen (k := 1) (n := 6) (Nat.le_of_ble_eq_true rfl) (Nat.le_of_ble_eq_true rfl) ?_
    exact hret _ _ _ _ (ec j) () dX8_owner_104 rfl (rfl) hP hD hS
  · exact absurd ((isW_n (a := 0) (by decide) (by omega) (by omega)).mpr ⟨Nat.zero_le _, by omega⟩) b_11

