theorem fa_eqI {a b : Int32} : a = b ↔ a.toInt = b.toInt := ⟨fun h => by rw [h], fun h => Int32.toInt_inj.mp h⟩
def noteN (ln : Nat) : Nat := if ln < 30 then ln + 1 else ln
def noteR (f : Nat → Int32) (ln : Nat) (v : Int32) : Nat → Int32 := if ln < 30 then upd f ln v else f
abbrev rm_X0_note : Room := { frames := 0, cells := 0, slots := 0, locals := 0 }
theorem i_X0_note_X0 : ∀ w ∈ wsX00, w ∈ wsX0_note := by decide +kernel
theorem k_X0_note_f21 : Cond.fieldLink RX0 21 (TX0 3).1 (TX0 3).2.1 (TX0 3).2.2.1 ∈ wsX0_note := by decide +kernel
theorem k_X0_note_f9 : Cond.fieldLink RX0 9 (TX0 0).1 (TX0 0).2.1 (TX0 0).2.2.1 ∈ wsX0_note := by decide +kernel
theorem k_X0_note_f15 : Cond.fieldLink RX0 15 (TX0 1).1 (TX0 1).2.1 (TX0 1).2.2.1 ∈ wsX0_note := by decide +kernel
theorem k_X0_note_f18 : Cond.fieldLink RX0 18 (TX0 2).1 (TX0 2).2.1 (TX0 2).2.2.1 ∈ wsX0_note := by decide +kernel
set_option maxHeartbeats 4000000 in
set_option maxRecDepth 100000 in
theorem c_X0_note (l : Launch) (g : gT) (lo : Nat) (ly : Nat) (lp : Nat) (la : Nat) (ln : Nat) (fy0 : Nat → Int32) (fp0 : Nat → Int32) (fa0 : Nat → Int32) (y1 : Int32) (p1 : Int32) (a1 : Int32) (hln : ln ≤ 30) : CtV l g yX0_note wsX0_note rm_X0_note [.ref lo, .int y1, .int p1, .int a1] [gO lo 0 [.ref ly, .ref lp, .ref la, .int (nI ln)], gI g ly 30 fy0, gI g lp 30 fp0, gI g la 30 fa0] (fun (_ : Unit) => True) (fun (_ : Unit) => [gO lo 0 [.ref ly, .ref lp, .ref la, .int (nI (noteN ln))], gI g ly 30 (noteR fy0 ln y1), gI g lp 30 (noteR fp0 ln p1), gI g la 30 (noteR fa0 ln a1)]) := by
  refine CtV.of (cc := cX0_note) (maxL := 4) (by decide) rfl (Nat.le_of_ble_eq_true rfl) ?_
  intro p e s m args below meth c A Q hnm F hK hA hP hD hS hret ls hl
  have hx := F.1
  have hb := F.2.1
  have hl : lv_has ls 4 [(0, .ref lo), (1, .int y1), (2, .int p1), (3, .int a1)] := hl
  refine lv_aload_n hx hb dX0_note_0 rfl (lv_at hl 0 rfl) ?_
  refine g_get (C := RX0) (T := TX0) (N := 4) F hK hP i_X0_note_X0 0 rfl rfl 3 (by decide) k_X0_note_f21 (v := .int (nI ln)) rfl dX0_note_1 ?_
  refine lv_bipush (v := 30) hx hb dX0_note_4 (by decide) ?_
  refine n_icmp_ge (a := ln) (b := 30) (tgt := 49) hx hb dX0_note_6 (by decide) (by omega) (by omega) (fun c_6 => ?_) (fun c_6 => ?_)
  · have e0 : noteN ln = ln := if_neg (show ¬ ln < 30 by omega)
    have e1 : noteR fy0 ln y1 = fy0 := if_neg (show ¬ ln < 30 by omega)
    have e2 : noteR fp0 ln p1 = fp0 := if_neg (show ¬ ln < 30 by omega)
    have e3 : noteR fa0 ln a1 = fa0 := if_neg (show ¬ ln < 30 by omega)
    exact hret _ _ _ _ () dX0_note_49 (trivial) (by rw [e0, e1, e2, e3]; exact hP) (by rw [e0, e1, e2, e3]; exact hD) hS
  · refine lv_aload_n hx hb dX0_note_9 rfl (lv_at hl 0 rfl) ?_
    refine g_get (C := RX0) (T := TX0) (N := 4) F hK hP i_X0_note_X0 0 rfl rfl 0 (by decide) k_X0_note_f9 (v := .ref ly) rfl dX0_note_10 ?_
    refine lv_aload_n hx hb dX0_note_13 rfl (lv_at hl 0 rfl) ?_
    refine g_get (C := RX0) (T := TX0) (N := 4) F hK hP i_X0_note_X0 0 rfl rfl 3 (by decide) k_X0_note_f21 (v := .int (nI ln)) rfl dX0_note_14 ?_
    refine lv_iload_n hx hb dX0_note_17 rfl (lv_at hl 1 rfl) ?_
    refine g_iast (i := ln) (ws2 := [gO lo 0 [.ref ly, .ref lp, .ref la, .int (nI ln)], gI g ly 30 (upd fy0 ln y1), gI g lp 30 fp0, gI g la 30 fa0]) hx hb hK hP hD hS 1 rfl (by decide) (by omega) rfl dX0_note_18 (fun H locs hP hD hS => ?_)
    refine lv_aload_n hx hb dX0_note_19 rfl (lv_at hl 0 rfl) ?_
    refine g_get (C := RX0) (T := TX0) (N := 4) F hK hP i_X0_note_X0 0 rfl rfl 1 (by decide) k_X0_note_f15 (v := .ref lp) rfl dX0_note_20 ?_
    refine lv_aload_n hx hb dX0_note_23 rfl (lv_at hl 0 rfl) ?_
    refine g_get (C := RX0) (T := TX0) (N := 4) F hK hP i_X0_note_X0 0 rfl rfl 3 (by decide) k_X0_note_f21 (v := .int (nI ln)) rfl dX0_note_24 ?_
    refine lv_iload_n hx hb dX0_note_27 rfl (lv_at hl 2 rfl) ?_
    refine g_iast (i := ln) (ws2 := [gO lo 0 [.ref ly, .ref lp, .ref la, .int (nI ln)], gI g ly 30 (upd fy0 ln y1), gI g lp 30 (upd fp0 ln p1), gI g la 30 fa0]) hx hb hK hP hD hS 2 rfl (by decide) (by omega) rfl dX0_note_28 (fun H locs hP hD hS => ?_)
    refine lv_aload_n hx hb dX0_note_29 rfl (lv_at hl 0 rfl) ?_
    refine g_get (C := RX0) (T := TX0) (N := 4) F hK hP i_X0_note_X0 0 rfl rfl 2 (by decide) k_X0_note_f18 (v := .ref la) rfl dX0_note_30 ?_
    refine lv_aload_n hx hb dX0_note_33 rfl (lv_at hl 0 rfl) ?_
    refine g_get (C := RX0) (T := TX0) (N := 4) F hK hP i_X0_note_X0 0 rfl rfl 3 (by decide) k_X0_note_f21 (v := .int (nI ln)) rfl dX0_note_34 ?_
    refine lv_iload_n hx hb dX0_note_37 rfl (lv_at hl 3 rfl) ?_
    refine g_iast (i := ln) (ws2 := [gO lo 0 [.ref ly, .ref lp, .ref la, .int (nI ln)], gI g ly 30 (upd fy0 ln y1), gI g lp 30 (upd fp0 ln p1), gI g la 30 (upd fa0 ln a1)]) hx hb hK hP hD hS 3 rfl (by decide) (by omega) rfl dX0_note_38 (fun H locs hP hD hS => ?_)
    refine lv_aload_n hx hb dX0_note_39 rfl (lv_at hl 0 rfl) ?_
    refine lv_dup hx hb dX0_note_40 rfl ?_
    refine g_get (C := RX0) (T := TX0) (N := 4) F hK hP i_X0_note_X0 0 rfl rfl 3 (by decide) k_X0_note_f21 (v := .int (nI ln)) rfl dX0_note_41 ?_
    refine lv_iconst (v := 1) hx hb dX0_note_44 (by decide) ?_
    refine n_iadd (a := ln) (b := 1) (d := ln + 1) hx hb dX0_note_45 (by omega) ?_
    refine g_put (C := RX0) (T := TX0) (N := 4) (ws2 := [gO lo 0 [.ref ly, .ref lp, .ref la, .int (nI (ln + 1))], gI g ly 30 (upd fy0 ln y1), gI g lp 30 (upd fp0 ln p1), gI g la 30 (upd fa0 ln a1)]) F hK hP hD hS i_X0_note_X0 tyX0 tyX0_ok nmX0 0 rfl rfl 3 (by decide) k_X0_note_f21 rfl (v := .int (nI (ln + 1))) rfl rfl (Nat.le_of_ble_eq_true rfl) rfl dX0_note_46 (fun H locs hP hD hS => ?_)
    have e0 : noteN ln = ln + 1 := if_pos (show ln < 30 by omega)
    have e1 : noteR fy0 ln y1 = upd fy0 ln y1 := if_pos (show ln < 30 by omega)
    have e2 : noteR fp0 ln p1 = upd fp0 ln p1 := if_pos (show ln < 30 by omega)
    have e3 : noteR fa0 ln a1 = upd fa0 ln a1 := if_pos (show ln < 30 by omega)
    exact hret _ _ _ _ () dX0_note_49 (trivial) (by rw [e0, e1, e2, e3]; exact hP) (by rw [e0, e1, e2, e3]; exact hD) hS

abbrev rm_X0_init : Room := { frames := 1, cells := 3, slots := 90, locals := 20 }
theorem k_X0_init_m3 : Cond.methodLink RX0 3 objectInit ∈ wsX0_init := by decide +kernel
theorem k_X0_init_oi : Cond.instanceMethod objectInit ∈ wsX0_init := by decide +kernel
theorem k_X0_init_oc : Cond.code objectInit ⟨#[0xb1]⟩ 1 none ∈ wsX0_init := by decide +kernel
theorem k_X0_init_aint : Cond.arrayClass .int ∈ wsX0_init := by decide +kernel
theorem i_X0_init_X0 : ∀ w ∈ wsX00, w ∈ wsX0_init := by decide +kernel
theorem k_X0_init_f9 : Cond.fieldLink RX0 9 (TX0 0).1 (TX0 0).2.1 (TX0 0).2.2.1 ∈ wsX0_init := by decide +kernel
theorem k_X0_init_f15 : Cond.fieldLink RX0 15 (TX0 1).1 (TX0 1).2.1 (TX0 1).2.2.1 ∈ wsX0_init := by decide +kernel
theorem k_X0_init_f18 : Cond.fieldLink RX0 18 (TX0 2).1 (TX0 2).2.1 (TX0 2).2.2.1 ∈ wsX0_init := by decide +kernel
set_option maxHeartbeats 4000000 in
set_option maxRecDepth 100000 in
theorem c_X0_init (l : Launch) (g : gT) (lo : Nat)  : CtV l g yX0_init wsX0_init rm_X0_init [.ref lo] [gO lo 0 [.null, .null, .null, .int 0]] (fun (u : Nat × Nat × Nat) => True) (fun (u : Nat × Nat × Nat) => [gO lo 0 [.ref u.1, .ref u.2.1, .ref u.2.2, .int 0], gI g u.1 30 (fun _ => 0), gI g u.2.1 30 (fun _ => 0), gI g u.2.2 30 (fun _ => 0)]) := by
  refine CtV.of (cc := cX0_init) (maxL := 1) (by decide) rfl (Nat.le_of_ble_eq_true rfl) ?_
  intro p e s m args below meth c A Q hnm F hK hA hP hD hS hret ls hl
  have hx := F.1
  have hb := F.2.1
  have hl : lv_has ls 1 [(0, .ref lo)] := hl
  refine lv_aload_n hx hb dX0_init_0 rfl (lv_at hl 0 rfl) ?_
  refine W.objInit hx hb F.2.2.2.1 (F.2.2.2.2 _ k_X0_init_m3) (F.2.2.2.2 _ k_X0_init_oi) (F.2.2.2.2 _ k_X0_init_oc) rfl (by rw [F.2.2.1]; exact hl.1) rfl dX0_init_1 (Nat.le_of_ble_eq_true rfl) (Nat.le_of_ble_eq_true rfl) ?_
  refine W.eq (g2 := F0 m 4 ls []) rfl ?_
  refine lv_aload_n hx hb dX0_init_4 rfl (lv_at hl 0 rfl) ?_
  refine lv_bipush (v := 30) hx hb dX0_init_5 (by decide) ?_
  refine g_newi (N := 30) (ws2 := fun q_7 => [gO lo 0 [.null, .null, .null, .int 0], gI g q_7 30 (fun _ => 0)]) F k_X0_init_aint hK hP hD hS hA (by decide) (by decide) (by decide) (Nat.le_of_ble_eq_true rfl) (Nat.le_of_ble_eq_true rfl) (fun _ => rfl) dX0_init_7 (fun q_7 H hP hD hS => ?_)
  refine W.widen (k := 1) (n := 30) (Nat.le_of_ble_eq_true rfl) (Nat.le_of_ble_eq_true rfl) ?_
  refine g_putF (C := RX0) (T := TX0) (N := 4) (ws2 := [gO lo 0 [.ref q_7, .null, .null, .int 0], gI g q_7 30 (fun _ => 0)]) F hK hP hD hS i_X0_init_X0 tyX0 tyX0_ok nmX0 0 rfl rfl 0 (by decide) k_X0_init_f9 rfl hnm rfl (v := .ref q_7) rfl rfl (Nat.le_of_ble_eq_true rfl) rfl dX0_init_9 (fun H locs hP hD hS => ?_)
  refine lv_aload_n hx hb dX0_init_12 rfl (lv_at hl 0 rfl) ?_
  refine lv_bipush (v := 30) hx hb dX0_init_13 (by decide) ?_
  refine g_newi (N := 30) (ws2 := fun q_15 => [gO lo 0 [.ref q_7, .null, .null, .int 0], gI g q_7 30 (fun _ => 0), gI g q_15 30 (fun _ => 0)]) F k_X0_init_aint hK hP hD hS hA (by decide) (by decide) (by decide) (Nat.le_of_ble_eq_true rfl) (Nat.le_of_ble_eq_true rfl) (fun _ => rfl) dX0_init_15 (fun q_15 H hP hD hS => ?_)
  refine W.widen (k := 2) (n := 60) (Nat.le_of_ble_eq_true rfl) (Nat.le_of_ble_eq_true rfl) ?_
  refine g_putF (C := RX0) (T := TX0) (N := 4) (ws2 := [gO lo 0 [.ref q_7, .ref q_15, .null, .int 0], gI g q_7 30 (fun _ => 0), gI g q_15 30 (fun _ => 0)]) F hK hP hD hS i_X0_init_X0 tyX0 tyX0_ok nmX0 0 rfl rfl 1 (by decide) k_X0_init_f15 rfl hnm rfl (v := .ref q_15) rfl rfl (Nat.le_of_ble_eq_true rfl) rfl dX0_init_17 (fun H locs hP hD hS => ?_)
  refine lv_aload_n hx hb dX0_init_20 rfl (lv_at hl 0 rfl) ?_
  refine lv_bipush (v := 30) hx hb dX0_init_21 (by decide) ?_
  refine g_newi (N := 30) (ws2 := fun q_23 => [gO lo 0 [.ref q_7, .ref q_15, .null, .int 0], gI g q_7 30 (fun _ => 0), gI g q_15 30 (fun _ => 0), gI g q_23 30 (fun _ => 0)]) F k_X0_init_aint hK hP hD hS hA (by decide) (by decide) (by decide) (Nat.le_of_ble_eq_true rfl) (Nat.le_of_ble_eq_true rfl) (fun _ => rfl) dX0_init_23 (fun q_23 H hP hD hS => ?_)
  refine W.widen (k := 3) (n := 90) (Nat.le_of_ble_eq_true rfl) (Nat.le_of_ble_eq_true rfl) ?_
  refine g_putF (C := RX0) (T := TX0) (N := 4) (ws2 := [gO lo 0 [.ref q_7, .ref q_15, .ref q_23, .int 0], gI g q_7 30 (fun _ => 0), gI g q_15 30 (fun _ => 0), gI g q_23 30 (fun _ => 0)]) F hK hP hD hS i_X0_init_X0 tyX0 tyX0_ok nmX0 0 rfl rfl 2 (by decide) k_X0_init_f18 rfl hnm rfl (v := .ref q_23) rfl rfl (Nat.le_of_ble_eq_true rfl) rfl dX0_init_25 (fun H locs hP hD hS => ?_)
  exact hret _ _ _ _ (q_7, q_15, q_23) dX0_init_28 (trivial) hP hD hS

abbrev rm_X4_init : Room := { frames := 1, cells := 1, slots := 20, locals := 20 }
theorem k_X4_init_m3 : Cond.methodLink RX4 3 objectInit ∈ wsX4_init := by decide +kernel
theorem k_X4_init_oi : Cond.instanceMethod objectInit ∈ wsX4_init := by decide +kernel
theorem k_X4_init_oc : Cond.code objectInit ⟨#[0xb1]⟩ 1 none ∈ wsX4_init := by decide +kernel
theorem k_X4_init_aint : Cond.arrayClass .int ∈ wsX4_init := by decide +kernel
theorem i_X4_init_X4 : ∀ w ∈ wsX40, w ∈ wsX4_init := by decide +kernel
theorem k_X4_init_f9 : Cond.fieldLink RX4 9 (TX4 0).1 (TX4 0).2.1 (TX4 0).2.2.1 ∈ wsX4_init := by decide +kernel
set_option maxHeartbeats 4000000 in
set_option maxRecDepth 100000 in
theorem c_X4_init (l : Launch) (g : gT) (ra : Nat)  : CtV l g yX4_init wsX4_init rm_X4_init [.ref ra] [gO ra 4 [.null, .int 0]] (fun (rv : Nat) => True) (fun (rv : Nat) => [gO ra 4 [.ref rv, .int 0], gI g rv 20 (fun _ => 0)]) := by
  refine CtV.of (cc := cX4_init) (maxL := 1) (by decide) rfl (Nat.le_of_ble_eq_true rfl) ?_
  intro p e s m args below meth c A Q hnm F hK hA hP hD hS hret ls hl
  have hx := F.1
  have hb := F.2.1
  have hl : lv_has ls 1 [(0, .ref ra)] := hl
  refine lv_aload_n hx hb dX4_init_0 rfl (lv_at hl 0 rfl) ?_
  refine W.objInit hx hb F.2.2.2.1 (F.2.2.2.2 _ k_X4_init_m3) (F.2.2.2.2 _ k_X4_init_oi) (F.2.2.2.2 _ k_X4_init_oc) rfl (by rw [F.2.2.1]; exact hl.1) rfl dX4_init_1 (Nat.le_of_ble_eq_true rfl) (Nat.le_of_ble_eq_true rfl) ?_
  refine W.eq (g2 := F0 m 4 ls []) rfl ?_
  refine lv_aload_n hx hb dX4_init_4 rfl (lv_at hl 0 rfl) ?_
  refine lv_bipush (v := 20) hx hb dX4_init_5 (by decide) ?_
  refine g_newi (N := 20) (ws2 := fun q_7 => [gO ra 4 [.null, .int 0], gI g q_7 20 (fun _ => 0)]) F k_X4_init_aint hK hP hD hS hA (by decide) (by decide) (by decide) (Nat.le_of_ble_eq_true rfl) (Nat.le_of_ble_eq_true rfl) (fun _ => rfl) dX4_init_7 (fun q_7 H hP hD hS => ?_)
  refine W.widen (k := 1) (n := 20) (Nat.le_of_ble_eq_true rfl) (Nat.le_of_ble_eq_true rfl) ?_
  refine g_putF (C := RX4) (T := TX4) (N := 2) (ws2 := [gO ra 4 [.ref q_7, .int 0], gI g q_7 20 (fun _ => 0)]) F hK hP hD hS i_X4_init_X4 tyX4 tyX4_ok nmX4 0 rfl rfl 0 (by decide) k_X4_init_f9 rfl hnm rfl (v := .ref q_7) rfl rfl (Nat.le_of_ble_eq_true rfl) rfl dX4_init_9 (fun H locs hP hD hS => ?_)
  exact hret _ _ _ _ q_7 dX4_init_12 (trivial) hP hD hS

abbrev rm_X4_add : Room := { frames := 0, cells := 0, slots := 0, locals := 0 }
theorem i_X4_add_X4 : ∀ w ∈ wsX40, w ∈ wsX4_add := by decide +kernel
theorem k_X4_add_f15 : Cond.fieldLink RX4 15 (TX4 1).1 (TX4 1).2.1 (TX4 1).2.2.1 ∈ wsX4_add := by decide +kernel
theorem k_X4_add_f9 : Cond.fieldLink RX4 9 (TX4 0).1 (TX4 0).2.1 (TX4 0).2.2.1 ∈ wsX4_add := by decide +kernel
set_option maxHeartbeats 4000000 in
set_option maxRecDepth 100000 in
theorem c_X4_add (l : Launch) (g : gT) (ra : Nat) (rv : Nat) (rn : Nat) (fr : Nat → Int32) (x : Int32) (hr : rn < 20) : CtV l g yX4_add wsX4_add rm_X4_add [.ref ra, .int x] [gO ra 4 [.ref rv, .int (nI rn)], gI g rv 20 fr] (fun (_ : Unit) => True) (fun (_ : Unit) => [gO ra 4 [.ref rv, .int (nI (rn + 1))], gI g rv 20 (upd fr rn x)]) := by
  refine CtV.of (cc := cX4_add) (maxL := 2) (by decide) rfl (Nat.le_of_ble_eq_true rfl) ?_
  intro p e s m args below meth c A Q hnm F hK hA hP hD hS hret ls hl
  have hx := F.1
  have hb := F.2.1
  have hl : lv_has ls 2 [(0, .ref ra), (1, .int x)] := hl
  refine lv_aload_n hx hb dX4_add_0 rfl (lv_at hl 0 rfl) ?_
  refine g_get (C := RX4) (T := TX4) (N := 2) F hK hP i_X4_add_X4 0 rfl rfl 1 (by decide) k_X4_add_f15 (v := .int (nI rn)) rfl dX4_add_1 ?_
  refine lv_bipush (v := 20) hx hb dX4_add_4 (by decide) ?_
  refine n_icmp_ge (a := rn) (b := 20) (tgt := 29) hx hb dX4_add_6 (by decide) (by omega) (by omega) (fun h => absurd h (by omega)) (fun c_6 => ?_)
  refine lv_aload_n hx hb dX4_add_9 rfl (lv_at hl 0 rfl) ?_
  refine g_get (C := RX4) (T := TX4) (N := 2) F hK hP i_X4_add_X4 0 rfl rfl 0 (by decide) k_X4_add_f9 (v := .ref rv) rfl dX4_add_10 ?_
  refine lv_aload_n hx hb dX4_add_13 rfl (lv_at hl 0 rfl) ?_
  refine g_get (C := RX4) (T := TX4) (N := 2) F hK hP i_X4_add_X4 0 rfl rfl 1 (by decide) k_X4_add_f15 (v := .int (nI rn)) rfl dX4_add_14 ?_
  refine lv_iload_n hx hb dX4_add_17 rfl (lv_at hl 1 rfl) ?_
  refine g_iast (i := rn) (ws2 := [gO ra 4 [.ref rv, .int (nI rn)], gI g rv 20 (upd fr rn x)]) hx hb hK hP hD hS 1 rfl (by decide) (by omega) rfl dX4_add_18 (fun H locs hP hD hS => ?_)
  refine lv_aload_n hx hb dX4_add_19 rfl (lv_at hl 0 rfl) ?_
  refine lv_dup hx hb dX4_add_20 rfl ?_
  refine g_get (C := RX4) (T := TX4) (N := 2) F hK hP i_X4_add_X4 0 rfl rfl 1 (by decide) k_X4_add_f15 (v := .int (nI rn)) rfl dX4_add_21 ?_
  refine lv_iconst (v := 1) hx hb dX4_add_24 (by decide) ?_
  refine n_iadd (a := rn) (b := 1) (d := rn + 1) hx hb dX4_add_25 (by omega) ?_
  refine g_put (C := RX4) (T := TX4) (N := 2) (ws2 := [gO ra 4 [.ref rv, .int (nI (rn + 1))], gI g rv 20 (upd fr rn x)]) F hK hP hD hS i_X4_add_X4 tyX4 tyX4_ok nmX4 0 rfl rfl 1 (by decide) k_X4_add_f15 rfl (v := .int (nI (rn + 1))) rfl rfl (Nat.le_of_ble_eq_true rfl) rfl dX4_add_26 (fun H locs hP hD hS => ?_)
  exact hret _ _ _ _ () dX4_add_29 (trivial) hP hD hS

theorem bidx_in {x y : Int32} (hx : inP x) (hy : inP y) : vp_in (x / 64 + 8 * (y / 64)) 64 ∧ bidx x y < 64 := by
  obtain ⟨a, ha, rfl⟩ : ∃ a : Nat, a ≤ 511 ∧ x = nI a := by
    refine ⟨x.toInt.toNat, by have := hx.1; have := hx.2; omega, ?_⟩
    rw [fa_eqI, nI_toInt (by have := hx.1; have := hx.2; omega)]
    have := hx.1; omega
  obtain ⟨b, hb, rfl⟩ : ∃ a : Nat, a ≤ 511 ∧ y = nI a := by
    refine ⟨y.toInt.toNat, by have := hy.1; have := hy.2; omega, ?_⟩
    rw [fa_eqI, nI_toInt (by have := hy.1; have := hy.2; omega)]
    have := hy.1; omega
  have e : nI a / 64 + 8 * (nI b / 64) = nI (a / 64 + 8 * (b / 64)) := by
    rw [show (64 : Int32) = nI 64 from rfl, show (8 : Int32) = nI 8 from rfl, pk_div (by omega) (by decide) (by decide), pk_div (by omega) (by decide) (by decide), pk_mul, nI_add]
  have hl : a / 64 + 8 * (b / 64) < 64 := by omega
  refine ⟨by rw [e]; exact vp_in_nI hl (by decide), ?_⟩
  rw [bidx, e, nI_clamp (by omega)]; exact hl
abbrev rm_X6_bankAt : Room := { frames := 0, cells := 0, slots := 0, locals := 0 }
theorem i_X6_bankAt_X6 : ∀ w ∈ wsX60, w ∈ wsX6_bankAt := by decide +kernel
theorem k_X6_bankAt_f9 : Cond.fieldLink RX6 9 (TX6 0).1 (TX6 0).2.1 (TX6 0).2.2.1 ∈ wsX6_bankAt := by decide +kernel
set_option maxHeartbeats 4000000 in
set_option maxRecDepth 100000 in
theorem c_X6_bankAt (l : Launch) (g : gT) (so : Nat) (bk : Nat) (rt : Int32) (w0 : Int32) (w1 : Int32) (w2 : Int32) (lg : Int32) (nr : Int32) (fb : Nat → Int32) (B : Nat → Int32) (x : Int32) (y : Int32) (hB : ∀ k, k < 64 → fb k = B k) (hpx : inP x) (hpy : inP y) : CtI l g yX6_bankAt wsX6_bankAt rm_X6_bankAt [.ref so, .int x, .int y] [gO so 6 [.ref bk, .int rt, .int w0, .int w1, .int w2, .int lg, .int nr], gI g bk 64 fb] (fun (r : Int32) (_ : Unit) => r = B (bidx x y)) (fun (_ : Unit) => [gO so 6 [.ref bk, .int rt, .int w0, .int w1, .int w2, .int lg, .int nr], gI g bk 64 fb]) := by
  refine CtI.of (cc := cX6_bankAt) (maxL := 3) (ret := .int) (by decide) rfl (Nat.le_of_ble_eq_true rfl) ?_
  intro p e s m args below meth c A Q hnm F hK hA hP hD hS hret ls hl
  have hx := F.1
  have hb := F.2.1
  have hl : lv_has ls 3 [(0, .ref so), (1, .int x), (2, .int y)] := hl
  refine lv_aload_n hx hb dX6_bankAt_0 rfl (lv_at hl 0 rfl) ?_
  refine g_get (C := RX6) (T := TX6) (N := 7) F hK hP i_X6_bankAt_X6 0 rfl rfl 0 (by decide) k_X6_bankAt_f9 (v := .ref bk) rfl dX6_bankAt_1 ?_
  refine lv_iload_n hx hb dX6_bankAt_4 rfl (lv_at hl 1 rfl) ?_
  refine lv_bipush (v := 64) hx hb dX6_bankAt_5 (by decide) ?_
  refine lv_idiv hx hb dX6_bankAt_7 (by decide) ?_
  refine lv_bipush (v := 8) hx hb dX6_bankAt_8 (by decide) ?_
  refine lv_iload_n hx hb dX6_bankAt_10 rfl (lv_at hl 2 rfl) ?_
  refine lv_bipush (v := 64) hx hb dX6_bankAt_11 (by decide) ?_
  refine lv_idiv hx hb dX6_bankAt_13 (by decide) ?_
  refine lv_imul hx hb dX6_bankAt_14 ?_
  refine lv_iadd hx hb dX6_bankAt_15 ?_
  refine g_ialdI hx hb hK hP 1 rfl ((bidx_in hpx hpy).1) rfl dX6_bankAt_16 ?_
  refine g_eqi (y := (B (bidx x y))) (hB _ (bidx_in hpx hpy).2) ?_
  exact hret _ _ _ _ (B (bidx x y)) () dX6_bankAt_17 rfl (rfl) hP hD hS

abbrev rm_X6_init : Room := { frames := 1, cells := 1, slots := 64, locals := 20 }
theorem k_X6_init_m3 : Cond.methodLink RX6 3 objectInit ∈ wsX6_init := by decide +kernel
theorem k_X6_init_oi : Cond.instanceMethod objectInit ∈ wsX6_init := by decide +kernel
theorem k_X6_init_oc : Cond.code objectInit ⟨#[0xb1]⟩ 1 none ∈ wsX6_init := by decide +kernel
theorem k_X6_init_aint : Cond.arrayClass .int ∈ wsX6_init := by decide +kernel
theorem i_X6_init_X6 : ∀ w ∈ wsX60, w ∈ wsX6_init := by decide +kernel
theorem k_X6_init_f9 : Cond.fieldLink RX6 9 (TX6 0).1 (TX6 0).2.1 (TX6 0).2.2.1 ∈ wsX6_init := by decide +kernel
theorem k_X6_init_f15 : Cond.fieldLink RX6 15 (TX6 1).1 (TX6 1).2.1 (TX6 1).2.2.1 ∈ wsX6_init := by decide +kernel
theorem k_X6_init_f19 : Cond.fieldLink RX6 19 (TX6 2).1 (TX6 2).2.1 (TX6 2).2.2.1 ∈ wsX6_init := by decide +kernel
theorem k_X6_init_f22 : Cond.fieldLink RX6 22 (TX6 3).1 (TX6 3).2.1 (TX6 3).2.2.1 ∈ wsX6_init := by decide +kernel
theorem k_X6_init_f25 : Cond.fieldLink RX6 25 (TX6 4).1 (TX6 4).2.1 (TX6 4).2.2.1 ∈ wsX6_init := by decide +kernel
theorem k_X6_init_f28 : Cond.fieldLink RX6 28 (TX6 5).1 (TX6 5).2.1 (TX6 5).2.2.1 ∈ wsX6_init := by decide +kernel
theorem k_X6_init_f31 : Cond.fieldLink RX6 31 (TX6 6).1 (TX6 6).2.1 (TX6 6).2.2.1 ∈ wsX6_init := by decide +kernel
set_option maxHeartbeats 4000000 in
set_option maxRecDepth 100000 in
theorem c_X6_init (l : Launch) (g : gT) (so : Nat)  : CtV l g yX6_init wsX6_init rm_X6_init [.ref so] [gO so 6 [.null, .int 0, .int 0, .int 0, .int 0, .int 0, .int 0]] (fun (u : Nat × (Nat → Int32)) => ∀ k, k < 64 → u.2 k = 5) (fun (u : Nat × (Nat → Int32)) => [gO so 6 [.ref u.1, .int 50, .int 4, .int 2, .int 1, .int 32, .int 8], gI g u.1 64 u.2]) := by
  refine CtV.of (cc := cX6_init) (maxL := 2) (by decide) rfl (Nat.le_of_ble_eq_true rfl) ?_
  intro p e s m args below meth c A Q hnm F hK hA hP hD hS hret ls hl
  have hx := F.1
  have hb := F.2.1
  have hl : lv_has ls 2 [(0, .ref so)] := hl
  refine lv_aload_n hx hb dX6_init_0 rfl (lv_at hl 0 rfl) ?_
  refine W.objInit hx hb F.2.2.2.1 (F.2.2.2.2 _ k_X6_init_m3) (F.2.2.2.2 _ k_X6_init_oi) (F.2.2.2.2 _ k_X6_init_oc) rfl (by rw [F.2.2.1]; exact hl.1) rfl dX6_init_1 (Nat.le_of_ble_eq_true rfl) (Nat.le_of_ble_eq_true rfl) ?_
  refine W.eq (g2 := F0 m 4 ls []) rfl ?_
  refine lv_aload_n hx hb dX6_init_4 rfl (lv_at hl 0 rfl) ?_
  refine lv_bipush (v := 64) hx hb dX6_init_5 (by decide) ?_
  refine g_newi (N := 64) (ws2 := fun q_7 => [gO so 6 [.null, .int 0, .int 0, .int 0, .int 0, .int 0, .int 0], gI g q_7 64 (fun _ => 0)]) F k_X6_init_aint hK hP hD hS hA (by decide) (by decide) (by decide) (Nat.le_of_ble_eq_true rfl) (Nat.le_of_ble_eq_true rfl) (fun _ => rfl) dX6_init_7 (fun q_7 H hP hD hS => ?_)
  refine W.widen (k := 1) (n := 64) (Nat.le_of_ble_eq_true rfl) (Nat.le_of_ble_eq_true rfl) ?_
  refine g_putF (C := RX6) (T := TX6) (N := 7) (ws2 := [gO so 6 [.ref q_7, .int 0, .int 0, .int 0, .int 0, .int 0, .int 0], gI g q_7 64 (fun _ => 0)]) F hK hP hD hS i_X6_init_X6 tyX6 tyX6_ok nmX6 0 rfl rfl 0 (by decide) k_X6_init_f9 rfl hnm rfl (v := .ref q_7) rfl rfl (Nat.le_of_ble_eq_true rfl) rfl dX6_init_9 (fun H locs hP hD hS => ?_)
  refine lv_aload_n hx hb dX6_init_12 rfl (lv_at hl 0 rfl) ?_
  refine lv_bipush (v := 50) hx hb dX6_init_13 (by decide) ?_
  refine g_put (C := RX6) (T := TX6) (N := 7) (ws2 := [gO so 6 [.ref q_7, .int 50, .int 0, .int 0, .int 0, .int 0, .int 0], gI g q_7 64 (fun _ => 0)]) F hK hP hD hS i_X6_init_X6 tyX6 tyX6_ok nmX6 0 rfl rfl 1 (by decide) k_X6_init_f15 rfl (v := .int 50) rfl rfl (Nat.le_of_ble_eq_true rfl) rfl dX6_init_15 (fun H locs hP hD hS => ?_)
  refine lv_aload_n hx hb dX6_init_18 rfl (lv_at hl 0 rfl) ?_
  refine lv_iconst (v := 4) hx hb dX6_init_19 (by decide) ?_
  refine g_put (C := RX6) (T := TX6) (N := 7) (ws2 := [gO so 6 [.ref q_7, .int 50, .int 4, .int 0, .int 0, .int 0, .int 0], gI g q_7 64 (fun _ => 0)]) F hK hP hD hS i_X6_init_X6 tyX6 tyX6_ok nmX6 0 rfl rfl 2 (by decide) k_X6_init_f19 rfl (v := .int 4) rfl rfl (Nat.le_of_ble_eq_true rfl) rfl dX6_init_20 (fun H locs hP hD hS => ?_)
  refine lv_aload_n hx hb dX6_init_23 rfl (lv_at hl 0 rfl) ?_
  refine lv_iconst (v := 2) hx hb dX6_init_24 (by decide) ?_
  refine g_put (C := RX6) (T := TX6) (N := 7) (ws2 := [gO so 6 [.ref q_7, .int 50, .int 4, .int 2, .int 0, .int 0, .int 0], gI g q_7 64 (fun _ => 0)]) F hK hP hD hS i_X6_init_X6 tyX6 tyX6_ok nmX6 0 rfl rfl 3 (by decide) k_X6_init_f22 rfl (v := .int 2) rfl rfl (Nat.le_of_ble_eq_true rfl) rfl dX6_init_25 (fun H locs hP hD hS => ?_)
  refine lv_aload_n hx hb dX6_init_28 rfl (lv_at hl 0 rfl) ?_
  refine lv_iconst (v := 1) hx hb dX6_init_29 (by decide) ?_
  refine g_put (C := RX6) (T := TX6) (N := 7) (ws2 := [gO so 6 [.ref q_7, .int 50, .int 4, .int 2, .int 1, .int 0, .int 0], gI g q_7 64 (fun _ => 0)]) F hK hP hD hS i_X6_init_X6 tyX6 tyX6_ok nmX6 0 rfl rfl 4 (by decide) k_X6_init_f25 rfl (v := .int 1) rfl rfl (Nat.le_of_ble_eq_true rfl) rfl dX6_init_30 (fun H locs hP hD hS => ?_)
  refine lv_aload_n hx hb dX6_init_33 rfl (lv_at hl 0 rfl) ?_
  refine lv_bipush (v := 32) hx hb dX6_init_34 (by decide) ?_
  refine g_put (C := RX6) (T := TX6) (N := 7) (ws2 := [gO so 6 [.ref q_7, .int 50, .int 4, .int 2, .int 1, .int 32, .int 0], gI g q_7 64 (fun _ => 0)]) F hK hP hD hS i_X6_init_X6 tyX6 tyX6_ok nmX6 0 rfl rfl 5 (by decide) k_X6_init_f28 rfl (v := .int 32) rfl rfl (Nat.le_of_ble_eq_true rfl) rfl dX6_init_36 (fun H locs hP hD hS => ?_)
  refine lv_aload_n hx hb dX6_init_39 rfl (lv_at hl 0 rfl) ?_
  refine lv_bipush (v := 8) hx hb dX6_init_40 (by decide) ?_
  refine g_put (C := RX6) (T := TX6) (N := 7) (ws2 := [gO so 6 [.ref q_7, .int 50, .int 4, .int 2, .int 1, .int 32, .int 8], gI g q_7 64 (fun _ => 0)]) F hK hP hD hS i_X6_init_X6 tyX6 tyX6_ok nmX6 0 rfl rfl 6 (by decide) k_X6_init_f31 rfl (v := .int 8) rfl rfl (Nat.le_of_ble_eq_true rfl) rfl dX6_init_42 (fun H locs hP hD hS => ?_)
  refine lv_iconst (v := 0) hx hb dX6_init_45 (by decide) ?_
  refine lv_istore_n (lv' := [(1, .int 0), (0, .ref so)]) hx hb dX6_init_46 rfl hl (by decide) rfl (fun ls hl => ?_)
  have L47 : ∀ (fuel : Nat) (i : Nat) (f1 : Nat → Int32) (ls : Array Slot) (H : Heap) (locs : List Loc), 64 - i < fuel → (i ≤ 64) → (∀ k, k < i → f1 k = 5) → lv_has ls 2 [(0, .ref so), (1, .int (nI i))] → gP g [gO so 6 [.ref q_7, .int 50, .int 4, .int 2, .int 1, .int 32, .int 8], gI g q_7 64 f1] H → va_D A [gO so 6 [.ref q_7, .int 50, .int 4, .int 2, .int 1, .int 32, .int 8], gI g q_7 64 f1] → va_S A s.heap H locs → W p l e rm_X6_init s m args below meth c H locs 1 64 Q (F0 m 47 ls []) := by
    intro fuel
    induction fuel with
    | zero => intro i f1 _ _ _ hk; exact absurd hk (Nat.not_lt_zero _)
    | succ fuel_47 ih_47 =>
      intro i f1 ls H locs hk_47 hi h1 hl hP hD hS
      refine lv_iload_n hx hb dX6_init_47 rfl (lv_at hl 1 rfl) ?_
      refine lv_bipush (v := 64) hx hb dX6_init_48 (by decide) ?_
      refine n_icmp_ge (a := i) (b := 64) (tgt := 66) hx hb dX6_init_50 (by decide) (by omega) (by omega) (fun c_50 => ?_) (fun c_50 => ?_)
      · exact hret _ _ _ _ (q_7, f1) dX6_init_66 (fun k hk => h1 k (by omega)) hP hD hS
      · refine lv_aload_n hx hb dX6_init_53 rfl (lv_at hl 0 rfl) ?_
        refine g_get (C := RX6) (T := TX6) (N := 7) F hK hP i_X6_init_X6 0 rfl rfl 0 (by decide) k_X6_init_f9 (v := .ref q_7) rfl dX6_init_54 ?_
        refine lv_iload_n hx hb dX6_init_57 rfl (lv_at hl 1 rfl) ?_
        refine lv_iconst (v := 5) hx hb dX6_init_58 (by decide) ?_
        refine g_iast (i := i) (ws2 := [gO so 6 [.ref q_7, .int 50, .int 4, .int 2, .int 1, .int 32, .int 8], gI g q_7 64 (upd f1 i 5)]) hx hb hK hP hD hS 1 rfl (by decide) (by omega) rfl dX6_init_59 (fun H locs hP hD hS => ?_)
        refine lv_iinc (v := (nI (i + 1))) (lv' := [(1, .int (nI (i + 1))), (0, .ref so)]) hx hb dX6_init_60 hl (k := 1) rfl (g_inc i 1 (by decide)) (by decide) rfl (fun ls hl => ?_)
        refine lv_goto (tgt := 47) hx hb dX6_init_63 (by decide) ?_
        exact ih_47 (i + 1) (upd f1 i 5) ls _ _ (by omega) (by omega) (upd_c (X := fun _ => 5) h1 rfl) (lv_sub hl [1, 0] rfl) hP hD hS
  exact L47 ((64 - 0) + 1) 0 (fun _ => 0) ls _ _ (Nat.lt_succ_self _) (by omega) (fun k hk => absurd hk (Nat.not_lt_zero k)) (lv_sub hl [1, 0] rfl) hP hD hS

