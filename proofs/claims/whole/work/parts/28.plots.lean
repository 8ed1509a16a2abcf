abbrev rm_X2_init : Room := { frames := 1, cells := 5, slots := 100, locals := 20 }
theorem k_X2_init_m3 : Cond.methodLink RX2 3 objectInit ∈ wsX2_init := by decide +kernel
theorem k_X2_init_oi : Cond.instanceMethod objectInit ∈ wsX2_init := by decide +kernel
theorem k_X2_init_oc : Cond.code objectInit ⟨#[0xb1]⟩ 1 none ∈ wsX2_init := by decide +kernel
theorem k_X2_init_aint : Cond.arrayClass .int ∈ wsX2_init := by decide +kernel
theorem i_X2_init_X2 : ∀ w ∈ wsX20, w ∈ wsX2_init := by decide +kernel
theorem k_X2_init_f9 : Cond.fieldLink RX2 9 (TX2 0).1 (TX2 0).2.1 (TX2 0).2.2.1 ∈ wsX2_init := by decide +kernel
theorem k_X2_init_f15 : Cond.fieldLink RX2 15 (TX2 1).1 (TX2 1).2.1 (TX2 1).2.2.1 ∈ wsX2_init := by decide +kernel
theorem k_X2_init_f18 : Cond.fieldLink RX2 18 (TX2 2).1 (TX2 2).2.1 (TX2 2).2.2.1 ∈ wsX2_init := by decide +kernel
theorem k_X2_init_f21 : Cond.fieldLink RX2 21 (TX2 3).1 (TX2 3).2.1 (TX2 3).2.2.1 ∈ wsX2_init := by decide +kernel
theorem k_X2_init_f24 : Cond.fieldLink RX2 24 (TX2 4).1 (TX2 4).2.1 (TX2 4).2.2.1 ∈ wsX2_init := by decide +kernel
set_option maxHeartbeats 4000000 in
set_option maxRecDepth 100000 in
theorem c_X2_init (l : Launch) (g : gT) (pl : Nat)  : CtV l g yX2_init wsX2_init rm_X2_init [.ref pl] [gO pl 2 [.null, .null, .null, .null, .null, .int 0]] (fun (u : Nat × Nat × Nat × Nat × Nat) => True) (fun (u : Nat × Nat × Nat × Nat × Nat) => [gO pl 2 [.ref u.1, .ref u.2.1, .ref u.2.2.1, .ref u.2.2.2.1, .ref u.2.2.2.2, .int 0], gI g u.1 20 (fun _ => 0), gI g u.2.1 20 (fun _ => 0), gI g u.2.2.1 20 (fun _ => 0), gI g u.2.2.2.1 20 (fun _ => 0), gI g u.2.2.2.2 20 (fun _ => 0)]) := by
  refine CtV.of (cc := cX2_init) (maxL := 1) (by decide) rfl (Nat.le_of_ble_eq_true rfl) ?_
  intro p e s m args below meth c A Q hnm F hK hA hP hD hS hret ls hl
  have hx := F.1
  have hb := F.2.1
  have hl : lv_has ls 1 [(0, .ref pl)] := hl
  refine lv_aload_n hx hb dX2_init_0 rfl (lv_at hl 0 rfl) ?_
  refine W.objInit hx hb F.2.2.2.1 (F.2.2.2.2 _ k_X2_init_m3) (F.2.2.2.2 _ k_X2_init_oi) (F.2.2.2.2 _ k_X2_init_oc) rfl (by rw [F.2.2.1]; exact hl.1) rfl dX2_init_1 (Nat.le_of_ble_eq_true rfl) (Nat.le_of_ble_eq_true rfl) ?_
  refine W.eq (g2 := F0 m 4 ls []) rfl ?_
  refine lv_aload_n hx hb dX2_init_4 rfl (lv_at hl 0 rfl) ?_
  refine lv_bipush (v := 20) hx hb dX2_init_5 (by decide) ?_
  refine g_newi (N := 20) (ws2 := fun q_7 => [gO pl 2 [.null, .null, .null, .null, .null, .int 0], gI g q_7 20 (fun _ => 0)]) F k_X2_init_aint hK hP hD hS hA (by decide) (by decide) (by decide) (Nat.le_of_ble_eq_true rfl) (Nat.le_of_ble_eq_true rfl) (fun _ => rfl) dX2_init_7 (fun q_7 H hP hD hS => ?_)
  refine W.widen (k := 1) (n := 20) (Nat.le_of_ble_eq_true rfl) (Nat.le_of_ble_eq_true rfl) ?_
  refine g_putF (C := RX2) (T := TX2) (N := 6) (ws2 := [gO pl 2 [.ref q_7, .null, .null, .null, .null, .int 0], gI g q_7 20 (fun _ => 0)]) F hK hP hD hS i_X2_init_X2 tyX2 tyX2_ok nmX2 0 rfl rfl 0 (by decide) k_X2_init_f9 rfl hnm rfl (v := .ref q_7) rfl rfl (Nat.le_of_ble_eq_true rfl) rfl dX2_init_9 (fun H locs hP hD hS => ?_)
  refine lv_aload_n hx hb dX2_init_12 rfl (lv_at hl 0 rfl) ?_
  refine lv_bipush (v := 20) hx hb dX2_init_13 (by decide) ?_
  refine g_newi (N := 20) (ws2 := fun q_15 => [gO pl 2 [.ref q_7, .null, .null, .null, .null, .int 0], gI g q_7 20 (fun _ => 0), gI g q_15 20 (fun _ => 0)]) F k_X2_init_aint hK hP hD hS hA (by decide) (by decide) (by decide) (Nat.le_of_ble_eq_true rfl) (Nat.le_of_ble_eq_true rfl) (fun _ => rfl) dX2_init_15 (fun q_15 H hP hD hS => ?_)
  refine W.widen (k := 2) (n := 40) (Nat.le_of_ble_eq_true rfl) (Nat.le_of_ble_eq_true rfl) ?_
  refine g_putF (C := RX2) (T := TX2) (N := 6) (ws2 := [gO pl 2 [.ref q_7, .ref q_15, .null, .null, .null, .int 0], gI g q_7 20 (fun _ => 0), gI g q_15 20 (fun _ => 0)]) F hK hP hD hS i_X2_init_X2 tyX2 tyX2_ok nmX2 0 rfl rfl 1 (by decide) k_X2_init_f15 rfl hnm rfl (v := .ref q_15) rfl rfl (Nat.le_of_ble_eq_true rfl) rfl dX2_init_17 (fun H locs hP hD hS => ?_)
  refine lv_aload_n hx hb dX2_init_20 rfl (lv_at hl 0 rfl) ?_
  refine lv_bipush (v := 20) hx hb dX2_init_21 (by decide) ?_
  refine g_newi (N := 20) (ws2 := fun q_23 => [gO pl 2 [.ref q_7, .ref q_15, .null, .null, .null, .int 0], gI g q_7 20 (fun _ => 0), gI g q_15 20 (fun _ => 0), gI g q_23 20 (fun _ => 0)]) F k_X2_init_aint hK hP hD hS hA (by decide) (by decide) (by decide) (Nat.le_of_ble_eq_true rfl) (Nat.le_of_ble_eq_true rfl) (fun _ => rfl) dX2_init_23 (fun q_23 H hP hD hS => ?_)
  refine W.widen (k := 3) (n := 60) (Nat.le_of_ble_eq_true rfl) (Nat.le_of_ble_eq_true rfl) ?_
  refine g_putF (C := RX2) (T := TX2) (N := 6) (ws2 := [gO pl 2 [.ref q_7, .ref q_15, .ref q_23, .null, .null, .int 0], gI g q_7 20 (fun _ => 0), gI g q_15 20 (fun _ => 0), gI g q_23 20 (fun _ => 0)]) F hK hP hD hS i_X2_init_X2 tyX2 tyX2_ok nmX2 0 rfl rfl 2 (by decide) k_X2_init_f18 rfl hnm rfl (v := .ref q_23) rfl rfl (Nat.le_of_ble_eq_true rfl) rfl dX2_init_25 (fun H locs hP hD hS => ?_)
  refine lv_aload_n hx hb dX2_init_28 rfl (lv_at hl 0 rfl) ?_
  refine lv_bipush (v := 20) hx hb dX2_init_29 (by decide) ?_
  refine g_newi (N := 20) (ws2 := fun q_31 => [gO pl 2 [.ref q_7, .ref q_15, .ref q_23, .null, .null, .int 0], gI g q_7 20 (fun _ => 0), gI g q_15 20 (fun _ => 0), gI g q_23 20 (fun _ => 0), gI g q_31 20 (fun _ => 0)]) F k_X2_init_aint hK hP hD hS hA (by decide) (by decide) (by decide) (Nat.le_of_ble_eq_true rfl) (Nat.le_of_ble_eq_true rfl) (fun _ => rfl) dX2_init_31 (fun q_31 H hP hD hS => ?_)
  refine W.widen (k := 4) (n := 80) (Nat.le_of_ble_eq_true rfl) (Nat.le_of_ble_eq_true rfl) ?_
  refine g_putF (C := RX2) (T := TX2) (N := 6) (ws2 := [gO pl 2 [.ref q_7, .ref q_15, .ref q_23, .ref q_31, .null, .int 0], gI g q_7 20 (fun _ => 0), gI g q_15 20 (fun _ => 0), gI g q_23 20 (fun _ => 0), gI g q_31 20 (fun _ => 0)]) F hK hP hD hS i_X2_init_X2 tyX2 tyX2_ok nmX2 0 rfl rfl 3 (by decide) k_X2_init_f21 rfl hnm rfl (v := .ref q_31) rfl rfl (Nat.le_of_ble_eq_true rfl) rfl dX2_init_33 (fun H locs hP hD hS => ?_)
  refine lv_aload_n hx hb dX2_init_36 rfl (lv_at hl 0 rfl) ?_
  refine lv_bipush (v := 20) hx hb dX2_init_37 (by decide) ?_
  refine g_newi (N := 20) (ws2 := fun q_39 => [gO pl 2 [.ref q_7, .ref q_15, .ref q_23, .ref q_31, .null, .int 0], gI g q_7 20 (fun _ => 0), gI g q_15 20 (fun _ => 0), gI g q_23 20 (fun _ => 0), gI g q_31 20 (fun _ => 0), gI g q_39 20 (fun _ => 0)]) F k_X2_init_aint hK hP hD hS hA (by decide) (by decide) (by decide) (Nat.le_of_ble_eq_true rfl) (Nat.le_of_ble_eq_true rfl) (fun _ => rfl) dX2_init_39 (fun q_39 H hP hD hS => ?_)
  refine W.widen (k := 5) (n := 100) (Nat.le_of_ble_eq_true rfl) (Nat.le_of_ble_eq_true rfl) ?_
  refine g_putF (C := RX2) (T := TX2) (N := 6) (ws2 := [gO pl 2 [.ref q_7, .ref q_15, .ref q_23, .ref q_31, .ref q_39, .int 0], gI g q_7 20 (fun _ => 0), gI g q_15 20 (fun _ => 0), gI g q_23 20 (fun _ => 0), gI g q_31 20 (fun _ => 0), gI g q_39 20 (fun _ => 0)]) F hK hP hD hS i_X2_init_X2 tyX2 tyX2_ok nmX2 0 rfl rfl 4 (by decide) k_X2_init_f24 rfl hnm rfl (v := .ref q_39) rfl rfl (Nat.le_of_ble_eq_true rfl) rfl dX2_init_41 (fun H locs hP hD hS => ?_)
  exact hret _ _ _ _ (q_7, q_15, q_23, q_31, q_39) dX2_init_44 (trivial) hP hD hS

def padN (cap n : Nat) : Nat := if n < cap then n + 1 else n
def padR (cap : Nat) (f : Nat → Int32) (n : Nat) (v : Int32) : Nat → Int32 := if n < cap then upd f n v else f
def padA (cap n : Nat) : Int32 := if n < cap then nI n else -1
abbrev rm_X2_add : Room := { frames := 0, cells := 0, slots := 0, locals := 0 }
theorem i_X2_add_X2 : ∀ w ∈ wsX20, w ∈ wsX2_add := by decide +kernel
theorem k_X2_add_f27 : Cond.fieldLink RX2 27 (TX2 5).1 (TX2 5).2.1 (TX2 5).2.2.1 ∈ wsX2_add := by decide +kernel
theorem k_X2_add_f9 : Cond.fieldLink RX2 9 (TX2 0).1 (TX2 0).2.1 (TX2 0).2.2.1 ∈ wsX2_add := by decide +kernel
theorem k_X2_add_f15 : Cond.fieldLink RX2 15 (TX2 1).1 (TX2 1).2.1 (TX2 1).2.2.1 ∈ wsX2_add := by decide +kernel
theorem k_X2_add_f18 : Cond.fieldLink RX2 18 (TX2 2).1 (TX2 2).2.1 (TX2 2).2.2.1 ∈ wsX2_add := by decide +kernel
theorem k_X2_add_f21 : Cond.fieldLink RX2 21 (TX2 3).1 (TX2 3).2.1 (TX2 3).2.2.1 ∈ wsX2_add := by decide +kernel
set_option maxHeartbeats 4000000 in
set_option maxRecDepth 100000 in
theorem c_X2_add (l : Launch) (g : gT) (pl : Nat) (px : Nat) (py : Nat) (pw : Nat) (pc_ : Nat) (pb : Nat) (pn : Nat) (ex : Nat → Int32) (ey : Nat → Int32) (ew : Nat → Int32) (ec : Nat → Int32) (eb : Nat → Int32) (x : Int32) (y : Int32) (sd : Int32) (hpn : pn ≤ 20) : CtI l g yX2_add wsX2_add rm_X2_add [.ref pl, .int x, .int y, .int sd] [gO pl 2 [.ref px, .ref py, .ref pw, .ref pc_, .ref pb, .int (nI pn)], gI g px 20 ex, gI g py 20 ey, gI g pw 20 ew, gI g pc_ 20 ec, gI g pb 20 eb] (fun (r : Int32) (_ : Unit) => r = padA 20 pn) (fun (_ : Unit) => [gO pl 2 [.ref px, .ref py, .ref pw, .ref pc_, .ref pb, .int (nI (padN 20 pn))], gI g px 20 (padR 20 ex pn x), gI g py 20 (padR 20 ey pn y), gI g pw 20 (padR 20 ew pn sd), gI g pc_ 20 (padR 20 ec pn 0), gI g pb 20 eb]) := by
  refine CtI.of (cc := cX2_add) (maxL := 4) (ret := .int) (by decide) rfl (Nat.le_of_ble_eq_true rfl) ?_
  intro p e s m args below meth c A Q hnm F hK hA hP hD hS hret ls hl
  have hx := F.1
  have hb := F.2.1
  have hl : lv_has ls 4 [(0, .ref pl), (1, .int x), (2, .int y), (3, .int sd)] := hl
  refine lv_aload_n hx hb dX2_add_0 rfl (lv_at hl 0 rfl) ?_
  refine g_get (C := RX2) (T := TX2) (N := 6) F hK hP i_X2_add_X2 0 rfl rfl 5 (by decide) k_X2_add_f27 (v := .int (nI pn)) rfl dX2_add_1 ?_
  refine lv_bipush (v := 20) hx hb dX2_add_4 (by decide) ?_
  refine n_icmp_lt (a := pn) (b := 20) (tgt := 11) hx hb dX2_add_6 (by decide) (by omega) (by omega) (fun c_6 => ?_) (fun c_6 => ?_)
  · refine lv_aload_n hx hb dX2_add_11 rfl (lv_at hl 0 rfl) ?_
    refine g_get (C := RX2) (T := TX2) (N := 6) F hK hP i_X2_add_X2 0 rfl rfl 0 (by decide) k_X2_add_f9 (v := .ref px) rfl dX2_add_12 ?_
    refine lv_aload_n hx hb dX2_add_15 rfl (lv_at hl 0 rfl) ?_
    refine g_get (C := RX2) (T := TX2) (N := 6) F hK hP i_X2_add_X2 0 rfl rfl 5 (by decide) k_X2_add_f27 (v := .int (nI pn)) rfl dX2_add_16 ?_
    refine lv_iload_n hx hb dX2_add_19 rfl (lv_at hl 1 rfl) ?_
    refine g_iast (i := pn) (ws2 := [gO pl 2 [.ref px, .ref py, .ref pw, .ref pc_, .ref pb, .int (nI pn)], gI g px 20 (upd ex pn x), gI g py 20 ey, gI g pw 20 ew, gI g pc_ 20 ec, gI g pb 20 eb]) hx hb hK hP hD hS 1 rfl (by decide) (by omega) rfl dX2_add_20 (fun H locs hP hD hS => ?_)
    refine lv_aload_n hx hb dX2_add_21 rfl (lv_at hl 0 rfl) ?_
    refine g_get (C := RX2) (T := TX2) (N := 6) F hK hP i_X2_add_X2 0 rfl rfl 1 (by decide) k_X2_add_f15 (v := .ref py) rfl dX2_add_22 ?_
    refine lv_aload_n hx hb dX2_add_25 rfl (lv_at hl 0 rfl) ?_
    refine g_get (C := RX2) (T := TX2) (N := 6) F hK hP i_X2_add_X2 0 rfl rfl 5 (by decide) k_X2_add_f27 (v := .int (nI pn)) rfl dX2_add_26 ?_
    refine lv_iload_n hx hb dX2_add_29 rfl (lv_at hl 2 rfl) ?_
    refine g_iast (i := pn) (ws2 := [gO pl 2 [.ref px, .ref py, .ref pw, .ref pc_, .ref pb, .int (nI pn)], gI g px 20 (upd ex pn x), gI g py 20 (upd ey pn y), gI g pw 20 ew, gI g pc_ 20 ec, gI g pb 20 eb]) hx hb hK hP hD hS 2 rfl (by decide) (by omega) rfl dX2_add_30 (fun H locs hP hD hS => ?_)
    refine lv_aload_n hx hb dX2_add_31 rfl (lv_at hl 0 rfl) ?_
    refine g_get (C := RX2) (T := TX2) (N := 6) F hK hP i_X2_add_X2 0 rfl rfl 2 (by decide) k_X2_add_f18 (v := .ref pw) rfl dX2_add_32 ?_
    refine lv_aload_n hx hb dX2_add_35 rfl (lv_at hl 0 rfl) ?_
    refine g_get (C := RX2) (T := TX2) (N := 6) F hK hP i_X2_add_X2 0 rfl rfl 5 (by decide) k_X2_add_f27 (v := .int (nI pn)) rfl dX2_add_36 ?_
    refine lv_iload_n hx hb dX2_add_39 rfl (lv_at hl 3 rfl) ?_
    refine g_iast (i := pn) (ws2 := [gO pl 2 [.ref px, .ref py, .ref pw, .ref pc_, .ref pb, .int (nI pn)], gI g px 20 (upd ex pn x), gI g py 20 (upd ey pn y), gI g pw 20 (upd ew pn sd), gI g pc_ 20 ec, gI g pb 20 eb]) hx hb hK hP hD hS 3 rfl (by decide) (by omega) rfl dX2_add_40 (fun H locs hP hD hS => ?_)
    refine lv_aload_n hx hb dX2_add_41 rfl (lv_at hl 0 rfl) ?_
    refine g_get (C := RX2) (T := TX2) (N := 6) F hK hP i_X2_add_X2 0 rfl rfl 3 (by decide) k_X2_add_f21 (v := .ref pc_) rfl dX2_add_42 ?_
    refine lv_aload_n hx hb dX2_add_45 rfl (lv_at hl 0 rfl) ?_
    refine g_get (C := RX2) (T := TX2) (N := 6) F hK hP i_X2_add_X2 0 rfl rfl 5 (by decide) k_X2_add_f27 (v := .int (nI pn)) rfl dX2_add_46 ?_
    refine lv_iconst (v := 0) hx hb dX2_add_49 (by decide) ?_
    refine g_iast (i := pn) (ws2 := [gO pl 2 [.ref px, .ref py, .ref pw, .ref pc_, .ref pb, .int (nI pn)], gI g px 20 (upd ex pn x), gI g py 20 (upd ey pn y), gI g pw 20 (upd ew pn sd), gI g pc_ 20 (upd ec pn 0), gI g pb 20 eb]) hx hb hK hP hD hS 4 rfl (by decide) (by omega) rfl dX2_add_50 (fun H locs hP hD hS => ?_)
    refine lv_aload_n hx hb dX2_add_51 rfl (lv_at hl 0 rfl) ?_
    refine lv_dup hx hb dX2_add_52 rfl ?_
    refine g_get (C := RX2) (T := TX2) (N := 6) F hK hP i_X2_add_X2 0 rfl rfl 5 (by decide) k_X2_add_f27 (v := .int (nI pn)) rfl dX2_add_53 ?_
    refine lv_iconst (v := 1) hx hb dX2_add_56 (by decide) ?_
    refine n_iadd (a := pn) (b := 1) (d := pn + 1) hx hb dX2_add_57 (by omega) ?_
    refine g_put (C := RX2) (T := TX2) (N := 6) (ws2 := [gO pl 2 [.ref px, .ref py, .ref pw, .ref pc_, .ref pb, .int (nI (pn + 1))], gI g px 20 (upd ex pn x), gI g py 20 (upd ey pn y), gI g pw 20 (upd ew pn sd), gI g pc_ 20 (upd ec pn 0), gI g pb 20 eb]) F hK hP hD hS i_X2_add_X2 tyX2 tyX2_ok nmX2 0 rfl rfl 5 (by decide) k_X2_add_f27 rfl (v := .int (nI (pn + 1))) rfl rfl (Nat.le_of_ble_eq_true rfl) rfl dX2_add_58 (fun H locs hP hD hS => ?_)
    refine lv_aload_n hx hb dX2_add_61 rfl (lv_at hl 0 rfl) ?_
    refine g_get (C := RX2) (T := TX2) (N := 6) F hK hP i_X2_add_X2 0 rfl rfl 5 (by decide) k_X2_add_f27 (v := .int (nI (pn + 1))) rfl dX2_add_62 ?_
    refine lv_iconst (v := 1) hx hb dX2_add_65 (by decide) ?_
    refine n_isub (a := pn + 1) (b := 1) (d := pn) hx hb dX2_add_66 (by omega) (by omega) ?_
    have e0 : padN 20 pn = pn + 1 := if_pos (show pn < 20 by omega)
    have e1 : padR 20 ex pn x = upd ex pn x := if_pos (show pn < 20 by omega)
    have e2 : padR 20 ey pn y = upd ey pn y := if_pos (show pn < 20 by omega)
    have e3 : padR 20 ew pn sd = upd ew pn sd := if_pos (show pn < 20 by omega)
    have e4 : padR 20 ec pn 0 = upd ec pn 0 := if_pos (show pn < 20 by omega)
    exact hret _ _ _ _ (nI pn) () dX2_add_67 rfl ((if_pos (show pn < 20 by omega)).symm) (by rw [e0, e1, e2, e3, e4]; exact hP) (by rw [e0, e1, e2, e3, e4]; exact hD) hS
  · refine lv_iconst (v := (-1)) hx hb dX2_add_9 (by decide) ?_
    have e0 : padN 20 pn = pn := if_neg (show ¬ pn < 20 by omega)
    have e1 : padR 20 ex pn x = ex := if_neg (show ¬ pn < 20 by omega)
    have e2 : padR 20 ey pn y = ey := if_neg (show ¬ pn < 20 by omega)
    have e3 : padR 20 ew pn sd = ew := if_neg (show ¬ pn < 20 by omega)
    have e4 : padR 20 ec pn 0 = ec := if_neg (show ¬ pn < 20 by omega)
    exact hret _ _ _ _ (-1) () dX2_add_10 rfl ((if_neg (show ¬ pn < 20 by omega)).symm) (by rw [e0, e1, e2, e3, e4]; exact hP) (by rw [e0, e1, e2, e3, e4]; exact hD) hS

def setR (f : Nat → Int32) (v : Nat → Int32) (n : Nat) : Nat → Int32 := fun k => if k < n then v k else f k
theorem setR_0 (f v : Nat → Int32) : setR f v 0 = f := by funext k; simp [setR]
theorem setR_s (f v : Nat → Int32) (n : Nat) : upd (setR f v n) n (v n) = setR f v (n + 1) := by
  funext k
  by_cases h : k = n
  · subst h; rw [pk_us, setR, if_pos (by omega)]
  · rw [pk_un h, setR, setR]
    by_cases h2 : k < n
    · rw [if_pos h2, if_pos (by omega)]
    · rw [if_neg h2, if_neg (by omega)]
/-- the SIDES of the PLOTS -/
def sdR (X Y : RW) (n : Nat) (ex ey : RW) : RW := fun k => nI (sideS X Y n (ex k) (ey k))
/-- what the OWNERS are behind part 2 of a YEAR, and in how many YEARS they became others -/
def folW (now bef ow : RW) : RW := fun k => if ¬ now k = bef k ∧ ¬ now k = ow k then now k else ow k
def folC (now bef ow ch : RW) : RW := fun k => if ¬ now k = bef k ∧ ¬ now k = ow k then ch k + 1 else ch k
theorem setR_k {f v : Nat → Int32} {n : Nat} (h : v n = f n) : setR f v n = setR f v (n + 1) := by
  funext k
  rw [setR, setR]
  by_cases e : k = n
  · subst e; rw [if_neg (by omega), if_pos (by omega), h]
  · by_cases h2 : k < n
    · rw [if_pos h2, if_pos (by omega)]
    · rw [if_neg h2, if_neg (by omega)]
theorem setR_at (f v : Nat → Int32) (n : Nat) : setR f v n n = f n := by rw [setR, if_neg (by omega)]
abbrev rm_X2_settle : Room := { frames := 2, cells := 0, slots := 0, locals := 50 }
theorem i_X2_settle_X2 : ∀ w ∈ wsX20, w ∈ wsX2_settle := by decide +kernel
theorem k_X2_settle_f27 : Cond.fieldLink RX2 27 (TX2 5).1 (TX2 5).2.1 (TX2 5).2.2.1 ∈ wsX2_settle := by decide +kernel
theorem k_X2_settle_f18 : Cond.fieldLink RX2 18 (TX2 2).1 (TX2 2).2.1 (TX2 2).2.2.1 ∈ wsX2_settle := by decide +kernel
theorem k_X2_settle_f9 : Cond.fieldLink RX2 9 (TX2 0).1 (TX2 0).2.1 (TX2 0).2.2.1 ∈ wsX2_settle := by decide +kernel
theorem k_X2_settle_f15 : Cond.fieldLink RX2 15 (TX2 1).1 (TX2 1).2.1 (TX2 1).2.2.1 ∈ wsX2_settle := by decide +kernel
theorem k_X2_settle_f21 : Cond.fieldLink RX2 21 (TX2 3).1 (TX2 3).2.1 (TX2 3).2.2.1 ∈ wsX2_settle := by decide +kernel
set_option maxHeartbeats 4000000 in
set_option maxRecDepth 100000 in
theorem c_X2_settle (l : Launch) (g : gT) (pl : Nat) (px : Nat) (py : Nat) (pw : Nat) (pc_ : Nat) (pb : Nat) (pn : Nat) (ex : Nat → Int32) (ey : Nat → Int32) (ew : Nat → Int32) (ec : Nat → Int32) (eb : Nat → Int32) (po : Nat) (ax : Nat) (ay : Nat) (n : Nat) (fx : Nat → Int32) (fy : Nat → Int32) (X : Nat → Int32) (Y : Nat → Int32) (hpn : pn ≤ 20) (hn : n ≤ 48) (hX : ∀ k, k < n → fx k = X k) (hY : ∀ k, k < n → fy k = Y k) (h1n : 1 ≤ n) : CtV l g yX2_settle wsX2_settle rm_X2_settle [.ref pl, .ref po] [gO pl 2 [.ref px, .ref py, .ref pw, .ref pc_, .ref pb, .int (nI pn)], gI g px 20 ex, gI g py 20 ey, gI g pw 20 ew, gI g pc_ 20 ec, gI g pb 20 eb, gO po 3 [.ref ax, .ref ay, .int (nI n)], gI g ax 48 fx, gI g ay 48 fy] (fun (_ : Unit) => True) (fun (_ : Unit) => [gO pl 2 [.ref px, .ref py, .ref pw, .ref pc_, .ref pb, .int (nI pn)], gI g px 20 ex, gI g py 20 ey, gI g pw 20 (setR ew (sdR X Y n ex ey) pn), gI g pc_ 20 (setR ec (fun _ => 0) pn), gI g pb 20 eb, gO po 3 [.ref ax, .ref ay, .int (nI n)], gI g ax 48 fx, gI g ay 48 fy]) := by
  refine CtV.of (cc := cX2_settle) (maxL := 3) (by decide) rfl (Nat.le_of_ble_eq_true rfl) ?_
  intro p e s m args below meth c A Q hnm F hK hA hP hD hS hret ls hl
  have hx := F.1
  have hb := F.2.1
  have hl : lv_has ls 3 [(0, .ref pl), (1, .ref po)] := hl
  refine lv_iconst (v := 0) hx hb dX2_settle_0 (by decide) ?_
  refine lv_istore_n (lv' := [(2, .int 0), (0, .ref pl), (1, .ref po)]) hx hb dX2_settle_1 rfl hl (by decide) rfl (fun ls hl => ?_)
  have L2 : ∀ (fuel : Nat) (i : Nat) (w_ : Nat → Int32) (c_ : Nat → Int32) (ls : Array Slot) (H : Heap) (locs : List Loc), pn - i < fuel → (i ≤ pn) → (w_ = setR ew (sdR X Y n ex ey) i) → (c_ = setR ec (fun _ => 0) i) → lv_has ls 3 [(0, .ref pl), (1, .ref po), (2, .int (nI i))] → gP g [gO pl 2 [.ref px, .ref py, .ref pw, .ref pc_, .ref pb, .int (nI pn)], gI g px 20 ex, gI g py 20 ey, gI g pw 20 w_, gI g pc_ 20 c_, gI g pb 20 eb, gO po 3 [.ref ax, .ref ay, .int (nI n)], gI g ax 48 fx, gI g ay 48 fy] H → va_D A [gO pl 2 [.ref px, .ref py, .ref pw, .ref pc_, .ref pb, .int (nI pn)], gI g px 20 ex, gI g py 20 ey, gI g pw 20 w_, gI g pc_ 20 c_, gI g pb 20 eb, gO po 3 [.ref ax, .ref ay, .int (nI n)], gI g ax 48 fx, gI g ay 48 fy] → va_S A s.heap H locs → W p l e rm_X2_settle s m args below meth c H locs 0 0 Q (F0 m 2 ls []) := by
    intro fuel
    induction fuel with
    | zero => intro i w_ c_ _ _ _ hk; exact absurd hk (Nat.not_lt_zero _)
    | succ fuel_2 ih_2 =>
      intro i w_ c_ ls H locs hk_2 hi h1 h2 hl hP hD hS
      refine lv_iload_n hx hb dX2_settle_2 rfl (lv_at hl 2 rfl) ?_
      refine lv_aload_n hx hb dX2_settle_3 rfl (lv_at hl 0 rfl) ?_
      refine g_get (C := RX2) (T := TX2) (N := 6) F hK hP i_X2_settle_X2 0 rfl rfl 5 (by decide) k_X2_settle_f27 (v := .int (nI pn)) rfl dX2_settle_4 ?_
      refine n_icmp_ge (a := i) (b := pn) (tgt := 45) hx hb dX2_settle_7 (by decide) (by omega) (by omega) (fun c_7 => ?_) (fun c_7 => ?_)
      · obtain rfl : pn = i := by omega
        obtain rfl : setR ew (sdR X Y n ex ey) pn = w_ := h1.symm
        obtain rfl : setR ec (fun _ => 0) pn = c_ := h2.symm
        exact hret _ _ _ _ () dX2_settle_45 (trivial) hP hD hS
      · refine lv_aload_n hx hb dX2_settle_10 rfl (lv_at hl 0 rfl) ?_
        refine g_get (C := RX2) (T := TX2) (N := 6) F hK hP i_X2_settle_X2 0 rfl rfl 2 (by decide) k_X2_settle_f18 (v := .ref pw) rfl dX2_settle_11 ?_
        refine lv_iload_n hx hb dX2_settle_14 rfl (lv_at hl 2 rfl) ?_
        refine lv_aload_n hx hb dX2_settle_15 rfl (lv_at hl 1 rfl) ?_
        refine lv_aload_n hx hb dX2_settle_16 rfl (lv_at hl 0 rfl) ?_
        refine g_get (C := RX2) (T := TX2) (N := 6) F hK hP i_X2_settle_X2 0 rfl rfl 0 (by decide) k_X2_settle_f9 (v := .ref px) rfl dX2_settle_17 ?_
        refine lv_iload_n hx hb dX2_settle_20 rfl (lv_at hl 2 rfl) ?_
        refine g_iald (i := i) (v := (ex i)) hx hb hK hP 1 rfl (by decide) (by omega) (rfl) dX2_settle_21 ?_
        refine lv_aload_n hx hb dX2_settle_22 rfl (lv_at hl 0 rfl) ?_
        refine g_get (C := RX2) (T := TX2) (N := 6) F hK hP i_X2_settle_X2 0 rfl rfl 1 (by decide) k_X2_settle_f15 (v := .ref py) rfl dX2_settle_23 ?_
        refine lv_iload_n hx hb dX2_settle_26 rfl (lv_at hl 2 rfl) ?_
        refine g_iald (i := i) (v := (ey i)) hx hb hK hP 2 rfl (by decide) (by omega) (rfl) dX2_settle_27 ?_
        refine g_VI (wr := [gO pl 2 [.ref px, .ref py, .ref pw, .ref pc_, .ref pb, .int (nI pn)], gI g px 20 ex, gI g py 20 ey, gI g pw 20 w_, gI g pc_ 20 c_, gI g pb 20 eb]) (As := [.int (ex i), .int (ey i)]) (rest := [.int (nI i), .ref pw]) (n := 2) F (c_X3_sideOf l g po ax ay n fx fy X Y (ex i) (ey i) (by omega) (hX) (hY) (by omega)) gX2_settle_X3_sideOf rfl (by decide) ⟨by decide, by decide⟩ 6 3 rfl rfl rfl rfl hl.1 rfl (Nat.le_of_ble_eq_true rfl) dX2_settle_28 ⟨Nat.le_of_ble_eq_true rfl, Nat.le_of_ble_eq_true rfl⟩ hK hP hD hS hA [6, 7, 8] [0, 1, 2, 3, 4, 5] (by decide) rfl rfl (by decide) (by decide) (fun r_28 u_28 H locs hw_28 hP hD hS => ?_)
        have hP : gP g [gO pl 2 [.ref px, .ref py, .ref pw, .ref pc_, .ref pb, .int (nI pn)], gI g px 20 ex, gI g py 20 ey, gI g pw 20 w_, gI g pc_ 20 c_, gI g pb 20 eb, gO po 3 [.ref ax, .ref ay, .int (nI n)], gI g ax 48 fx, gI g ay 48 fy] H := hP
        have hD : va_D A [gO pl 2 [.ref px, .ref py, .ref pw, .ref pc_, .ref pb, .int (nI pn)], gI g px 20 ex, gI g py 20 ey, gI g pw 20 w_, gI g pc_ 20 c_, gI g pb 20 eb, gO po 3 [.ref ax, .ref ay, .int (nI n)], gI g ax 48 fx, gI g ay 48 fy] := hD
        obtain rfl := hw_28
        refine g_iast (i := i) (ws2 := [gO pl 2 [.ref px, .ref py, .ref pw, .ref pc_, .ref pb, .int (nI pn)], gI g px 20 ex, gI g py 20 ey, gI g pw 20 (upd w_ i (nI (sideS X Y n (ex i) (ey i)))), gI g pc_ 20 c_, gI g pb 20 eb, gO po 3 [.ref ax, .ref ay, .int (nI n)], gI g ax 48 fx, gI g ay 48 fy]) hx hb hK hP hD hS 3 rfl (by decide) (by omega) rfl dX2_settle_31 (fun H locs hP hD hS => ?_)
        refine lv_aload_n hx hb dX2_settle_32 rfl (lv_at hl 0 rfl) ?_
        refine g_get (C := RX2) (T := TX2) (N := 6) F hK hP i_X2_settle_X2 0 rfl rfl 3 (by decide) k_X2_settle_f21 (v := .ref pc_) rfl dX2_settle_33 ?_
        refine lv_iload_n hx hb dX2_settle_36 rfl (lv_at hl 2 rfl) ?_
        refine lv_iconst (v := 0) hx hb dX2_settle_37 (by decide) ?_
        refine g_iast (i := i) (ws2 := [gO pl 2 [.ref px, .ref py, .ref pw, .ref pc_, .ref pb, .int (nI pn)], gI g px 20 ex, gI g py 20 ey, gI g pw 20 (upd w_ i (nI (sideS X Y n (ex i) (ey i)))), gI g pc_ 20 (upd c_ i 0), gI g pb 20 eb, gO po 3 [.ref ax, .ref ay, .int (nI n)], gI g ax 48 fx, gI g ay 48 fy]) hx hb hK hP hD hS 4 rfl (by decide) (by omega) rfl dX2_settle_38 (fun H locs hP hD hS => ?_)
        refine lv_iinc (v := (nI (i + 1))) (lv' := [(2, .int (nI (i + 1))), (0, .ref pl), (1, .ref po)]) hx hb dX2_settle_39 hl (k := 2) rfl (g_inc i 1 (by decide)) (by decide) rfl (fun ls hl => ?_)
        refine lv_goto (tgt := 2) hx hb dX2_settle_42 (by decide) ?_
        exact ih_2 (i + 1) (upd w_ i (nI (sideS X Y n (ex i) (ey i)))) (upd c_ i 0) ls _ _ (by omega) (by omega) (by rw [h1]; exact setR_s _ (sdR X Y n ex ey) _) (by rw [h2]; exact setR_s _ (fun _ => 0) _) (lv_sub hl [1, 2, 0] rfl) hP hD hS
  exact L2 ((pn - 0) + 1) 0 ew ec ls _ _ (Nat.lt_succ_self _) (by omega) ((setR_0 _ _).symm) ((setR_0 _ _).symm) (lv_sub hl [1, 2, 0] rfl) hP hD hS

abbrev rm_X2_rememberSides : Room := { frames := 2, cells := 0, slots := 0, locals := 50 }
theorem i_X2_rememberSides_X2 : ∀ w ∈ wsX20, w ∈ wsX2_rememberSides := by decide +kernel
theorem k_X2_rememberSides_f27 : Cond.fieldLink RX2 27 (TX2 5).1 (TX2 5).2.1 (TX2 5).2.2.1 ∈ wsX2_rememberSides := by decide +kernel
theorem k_X2_rememberSides_f24 : Cond.fieldLink RX2 24 (TX2 4).1 (TX2 4).2.1 (TX2 4).2.2.1 ∈ wsX2_rememberSides := by decide +kernel
theorem k_X2_rememberSides_f9 : Cond.fieldLink RX2 9 (TX2 0).1 (TX2 0).2.1 (TX2 0).2.2.1 ∈ wsX2_rememberSides := by decide +kernel
theorem k_X2_rememberSides_f15 : Cond.fieldLink RX2 15 (TX2 1).1 (TX2 1).2.1 (TX2 1).2.2.1 ∈ wsX2_rememberSides := by decide +kernel
set_option maxHeartbeats 4000000 in
set_option maxRecDepth 100000 in
theorem c_X2_rememberSides (l : Launch) (g : gT) (pl : Nat) (px : Nat) (py : Nat) (pw : Nat) (pc_ : Nat) (pb : Nat) (pn : Nat) (ex : Nat → Int32) (ey : Nat → Int32) (ew : Nat → Int32) (ec : Nat → Int32) (eb : Nat → Int32) (po : Nat) (ax : Nat) (ay : Nat) (n : Nat) (fx : Nat → Int32) (fy : Nat → Int32) (X : Nat → Int32) (Y : Nat → Int32) (hpn : pn ≤ 20) (hn : n ≤ 48) (hX : ∀ k, k < n → fx k = X k) (hY : ∀ k, k < n → fy k = Y k) (h1n : 1 ≤ n) : CtV l g yX2_rememberSides wsX2_rememberSides rm_X2_rememberSides [.ref pl, .ref po] [gO pl 2 [.ref px, .ref py, .ref pw, .ref pc_, .ref pb, .int (nI pn)], gI g px 20 ex, gI g py 20 ey, gI g pw 20 ew, gI g pc_ 20 ec, gI g pb 20 eb, gO po 3 [.ref ax, .ref ay, .int (nI n)], gI g ax 48 fx, gI g ay 48 fy] (fun (_ : Unit) => True) (fun (_ : Unit) => [gO pl 2 [.ref px, .ref py, .ref pw, .ref pc_, .ref pb, .int (nI pn)], gI g px 20 ex, gI g py 20 ey, gI g pw 20 ew, gI g pc_ 20 ec, gI g pb 20 (setR eb (sdR X Y n ex ey) pn), gO po 3 [.ref ax, .ref ay, .int (nI n)], gI g ax 48 fx, gI g ay 48 fy]) := by
  refine CtV.of (cc := cX2_rememberSides) (maxL := 3) (by decide) rfl (Nat.le_of_ble_eq_true rfl) ?_
  intro p e s m args below meth c A Q hnm F hK hA hP hD hS hret ls hl
  have hx := F.1
  have hb := F.2.1
  have hl : lv_has ls 3 [(0, .ref pl), (1, .ref po)] := hl
  refine lv_iconst (v := 0) hx hb dX2_rememberSides_0 (by decide) ?_
  refine lv_istore_n (lv' := [(2, .int 0), (0, .ref pl), (1, .ref po)]) hx hb dX2_rememberSides_1 rfl hl (by decide) rfl (fun ls hl => ?_)
  have L2 : ∀ (fuel : Nat) (i : Nat) (b_ : Nat → Int32) (ls : Array Slot) (H : Heap) (locs : List Loc), pn - i < fuel → (i ≤ pn) → (b_ = setR eb (sdR X Y n ex ey) i) → lv_has ls 3 [(0, .ref pl), (1, .ref po), (2, .int (nI i))] → gP g [gO pl 2 [.ref px, .ref py, .ref pw, .ref pc_, .ref pb, .int (nI pn)], gI g px 20 ex, gI g py 20 ey, gI g pw 20 ew, gI g pc_ 20 ec, gI g pb 20 b_, gO po 3 [.ref ax, .ref ay, .int (nI n)], gI g ax 48 fx, gI g ay 48 fy] H → va_D A [gO pl 2 [.ref px, .ref py, .ref pw, .ref pc_, .ref pb, .int (nI pn)], gI g px 20 ex, gI g py 20 ey, gI g pw 20 ew, gI g pc_ 20 ec, gI g pb 20 b_, gO po 3 [.ref ax, .ref ay, .int (nI n)], gI g ax 48 fx, gI g ay 48 fy] → va_S A s.heap H locs → W p l e rm_X2_rememberSides s m args below meth c H locs 0 0 Q (F0 m 2 ls []) := by
    intro fuel
    induction fuel with
    | zero => intro i b_ _ _ _ hk; exact absurd hk (Nat.not_lt_zero _)
    | succ fuel_2 ih_2 =>
      intro i b_ ls H locs hk_2 hi h1 hl hP hD hS
      refine lv_iload_n hx hb dX2_rememberSides_2 rfl (lv_at hl 2 rfl) ?_
      refine lv_aload_n hx hb dX2_rememberSides_3 rfl (lv_at hl 0 rfl) ?_
      refine g_get (C := RX2) (T := TX2) (N := 6) F hK hP i_X2_rememberSides_X2 0 rfl rfl 5 (by decide) k_X2_rememberSides_f27 (v := .int (nI pn)) rfl dX2_rememberSides_4 ?_
      refine n_icmp_ge (a := i) (b := pn) (tgt := 38) hx hb dX2_rememberSides_7 (by decide) (by omega) (by omega) (fun c_7 => ?_) (fun c_7 => ?_)
      · obtain rfl : pn = i := by omega
        obtain rfl : setR eb (sdR X Y n ex ey) pn = b_ := h1.symm
        exact hret _ _ _ _ () dX2_rememberSides_38 (trivial) hP hD hS
      · refine lv_aload_n hx hb dX2_rememberSides_10 rfl (lv_at hl 0 rfl) ?_
        refine g_get (C := RX2) (T := TX2) (N := 6) F hK hP i_X2_rememberSides_X2 0 rfl rfl 4 (by decide) k_X2_rememberSides_f24 (v := .ref pb) rfl dX2_rememberSides_11 ?_
        refine lv_iload_n hx hb dX2_rememberSides_14 rfl (lv_at hl 2 rfl) ?_
        refine lv_aload_n hx hb dX2_rememberSides_15 rfl (lv_at hl 1 rfl) ?_
        refine lv_aload_n hx hb dX2_rememberSides_16 rfl (lv_at hl 0 rfl) ?_
        refine g_get (C := RX2) (T := TX2) (N := 6) F hK hP i_X2_rememberSides_X2 0 rfl rfl 0 (by decide) k_X2_rememberSides_f9 (v := .ref px) rfl dX2_rememberSides_17 ?_
        refine lv_iload_n hx hb dX2_rememberSides_20 rfl (lv_at hl 2 rfl) ?_
        refine g_iald (i := i) (v := (ex i)) hx hb hK hP 1 rfl (by decide) (by omega) (rfl) dX2_rememberSides_21 ?_
        refine lv_aload_n hx hb dX2_rememberSides_22 rfl (lv_at hl 0 rfl) ?_
        refine g_get (C := RX2) (T := TX2) (N := 6) F hK hP i_X2_rememberSides_X2 0 rfl rfl 1 (by decide) k_X2_rememberSides_f15 (v := .ref py) rfl dX2_rememberSides_23 ?_
        refine lv_iload_n hx hb dX2_rememberSides_26 rfl (lv_at hl 2 rfl) ?_
        refine g_iald (i := i) (v := (ey i)) hx hb hK hP 2 rfl (by decide) (by omega) (rfl) dX2_rememberSides_27 ?_
        refine g_VI (wr := [gO pl 2 [.ref px, .ref py, .ref pw, .ref pc_, .ref pb, .int (nI pn)], gI g px 20 ex, gI g py 20 ey, gI g pw 20 ew, gI g pc_ 20 ec, gI g pb 20 b_]) (As := [.int (ex i), .int (ey i)]) (rest := [.int (nI i), .ref pb]) (n := 2) F (c_X3_sideOf l g po ax ay n fx fy X Y (ex i) (ey i) (by omega) (hX) (hY) (by omega)) gX2_rememberSides_X3_sideOf rfl (by decide) ⟨by decide, by decide⟩ 6 3 rfl rfl rfl rfl hl.1 rfl (Nat.le_of_ble_eq_true rfl) dX2_rememberSides_28 ⟨Nat.le_of_ble_eq_true rfl, Nat.le_of_ble_eq_true rfl⟩ hK hP hD hS hA [6, 7, 8] [0, 1, 2, 3, 4, 5] (by decide) rfl rfl (by decide) (by decide) (fun r_28 u_28 H locs hw_28 hP hD hS => ?_)
        have hP : gP g [gO pl 2 [.ref px, .ref py, .ref pw, .ref pc_, .ref pb, .int (nI pn)], gI g px 20 ex, gI g py 20 ey, gI g pw 20 ew, gI g pc_ 20 ec, gI g pb 20 b_, gO po 3 [.ref ax, .ref ay, .int (nI n)], gI g ax 48 fx, gI g ay 48 fy] H := hP
        have hD : va_D A [gO pl 2 [.ref px, .ref py, .ref pw, .ref pc_, .ref pb, .int (nI pn)], gI g px 20 ex, gI g py 20 ey, gI g pw 20 ew, gI g pc_ 20 ec, gI g pb 20 b_, gO po 3 [.ref ax, .ref ay, .int (nI n)], gI g ax 48 fx, gI g ay 48 fy] := hD
        obtain rfl := hw_28
        refine g_iast (i := i) (ws2 := [gO pl 2 [.ref px, .ref py, .ref pw, .ref pc_, .ref pb, .int (nI pn)], gI g px 20 ex, gI g py 20 ey, gI g pw 20 ew, gI g pc_ 20 ec, gI g pb 20 (upd b_ i (nI (sideS X Y n (ex i) (ey i)))), gO po 3 [.ref ax, .ref ay, .int (nI n)], gI g ax 48 fx, gI g ay 48 fy]) hx hb hK hP hD hS 5 rfl (by decide) (by omega) rfl dX2_rememberSides_31 (fun H locs hP hD hS => ?_)
        refine lv_iinc (v := (nI (i + 1))) (lv' := [(2, .int (nI (i + 1))), (0, .ref pl), (1, .ref po)]) hx hb dX2_rememberSides_32 hl (k := 2) rfl (g_inc i 1 (by decide)) (by decide) rfl (fun ls hl => ?_)
        refine lv_goto (tgt := 2) hx hb dX2_rememberSides_35 (by decide) ?_
        exact ih_2 (i + 1) (upd b_ i (nI (sideS X Y n (ex i) (ey i)))) ls _ _ (by omega) (by omega) (by rw [h1]; exact setR_s _ (sdR X Y n ex ey) _) (lv_sub hl [1, 2, 0] rfl) hP hD hS
  exact L2 ((pn - 0) + 1) 0 eb ls _ _ (Nat.lt_succ_self _) (by omega) ((setR_0 _ _).symm) (lv_sub hl [1, 2, 0] rfl) hP hD hS

abbrev rm_X2_followSides : Room := { frames := 2, cells := 0, slots := 0, locals := 50 }
theorem i_X2_followSides_X2 : ∀ w ∈ wsX20, w ∈ wsX2_followSides := by decide +kernel
theorem k_X2_followSides_f27 : Cond.fieldLink RX2 27 (TX2 5).1 (TX2 5).2.1 (TX2 5).2.2.1 ∈ wsX2_followSides := by decide +kernel
theorem k_X2_followSides_f9 : Cond.fieldLink RX2 9 (TX2 0).1 (TX2 0).2.1 (TX2 0).2.2.1 ∈ wsX2_followSides := by decide +kernel
theorem k_X2_followSides_f15 : Cond.fieldLink RX2 15 (TX2 1).1 (TX2 1).2.1 (TX2 1).2.2.1 ∈ wsX2_followSides := by decide +kernel
theorem k_X2_followSides_f24 : Cond.fieldLink RX2 24 (TX2 4).1 (TX2 4).2.1 (TX2 4).2.2.1 ∈ wsX2_followSides := by decide +kernel
theorem k_X2_followSides_f18 : Cond.fieldLink RX2 18 (TX2 2).1 (TX2 2).2.1 (TX2 2).2.2.1 ∈ wsX2_followSides := by decide +kernel
theorem k_X2_followSides_f21 : Cond.fieldLink RX2 21 (TX2 3).1 (TX2 3).2.1 (TX2 3).2.2.1 ∈ wsX2_followSides := by decide +kernel
set_option maxHeartbeats 4000000 in
set_option maxRecDepth 100000 in
theorem c_X2_followSides (l : Launch) (g : gT) (pl : Nat) (px : Nat) (py : Nat) (pw : Nat) (pc_ : Nat) (pb : Nat) (pn : Nat) (ex : Nat → Int32) (ey : Nat → Int32) (ew : Nat → Int32) (ec : Nat → Int32) (eb : Nat → Int32) (po : Nat) (ax : Nat) (ay : Nat) (n : Nat) (fx : Nat → Int32) (fy : Nat → Int32) (X : Nat → Int32) (Y : Nat → Int32) (hpn : pn ≤ 20) (hn : n ≤ 48) (hX : ∀ k, k < n → fx k = X k) (hY : ∀ k, k < n → fy k = Y k) (h1n : 1 ≤ n) : CtV l g yX2_followSides wsX2_followSides rm_X2_followSides [.ref pl, .ref po] [gO pl 2 [.ref px, .ref py, .ref pw, .ref pc_, .ref pb, .int (nI pn)], gI g px 20 ex, gI g py 20 ey, gI g pw 20 ew, gI g pc_ 20 ec, gI g pb 20 eb, gO po 3 [.ref ax, .ref ay, .int (nI n)], gI g ax 48 fx, gI g ay 48 fy] (fun (_ : Unit) => True) (fun (_ : Unit) => [gO pl 2 [.ref px, .ref py, .ref pw, .ref pc_, .ref pb, .int (nI pn)], gI g px 20 ex, gI g py 20 ey, gI g pw 20 (setR ew (folW (sdR X Y n ex ey) eb ew) pn), gI g pc_ 20 (setR ec (folC (sdR X Y n ex ey) eb ew ec) pn), gI g pb 20 eb, gO po 3 [.ref ax, .ref ay, .int (nI n)], gI g ax 48 fx, gI g ay 48 fy]) := by
  refine CtV.of (cc := cX2_followSides) (maxL := 4) (by decide) rfl (Nat.le_of_ble_eq_true rfl) ?_
  intro p e s m args below meth c A Q hnm F hK hA hP hD hS hret ls hl
  have hx := F.1
  have hb := F.2.1
  have hl : lv_has ls 4 [(0, .ref pl), (1, .ref po)] := hl
  refine lv_iconst (v := 0) hx hb dX2_followSides_0 (by decide) ?_
  refine lv_istore_n (lv' := [(2, .int 0), (0, .ref pl), (1, .ref po)]) hx hb dX2_followSides_1 rfl hl (by decide) rfl (fun ls hl => ?_)
  have L2 : ∀ (fuel : Nat) (i : Nat) (w_ : Nat → Int32) (c_ : Nat → Int32) (ls : Array Slot) (H : Heap) (locs : List Loc), pn - i < fuel → (i ≤ pn) → (w_ = setR ew (folW (sdR X Y n ex ey) eb ew) i) → (c_ = setR ec (folC (sdR X Y n ex ey) eb ew ec) i) → lv_has ls 4 [(0, .ref pl), (1, .ref po), (2, .int (nI i))] → gP g [gO pl 2 [.ref px, .ref py, .ref pw, .ref pc_, .ref pb, .int (nI pn)], gI g px 20 ex, gI g py 20 ey, gI g pw 20 w_, gI g pc_ 20 c_, gI g pb 20 eb, gO po 3 [.ref ax, .ref ay, .int (nI n)], gI g ax 48 fx, gI g ay 48 fy] H → va_D A [gO pl 2 [.ref px, .ref py, .ref pw, .ref pc_, .ref pb, .int (nI pn)], gI g px 20 ex, gI g py 20 ey, gI g pw 20 w_, gI g pc_ 20 c_, gI g pb 20 eb, gO po 3 [.ref ax, .ref ay, .int (nI n)], gI g ax 48 fx, gI g ay 48 fy] → va_S A s.heap H locs → W p l e rm_X2_followSides s m args below meth c H locs 0 0 Q (F0 m 2 ls []) := by
    intro fuel
    induction fuel with
    | zero => intro i w_ c_ _ _ _ hk; exact absurd hk (Nat.not_lt_zero _)
    | succ fuel_2 ih_2 =>
      intro i w_ c_ ls H locs hk_2 hi h1 h2 hl hP hD hS
      refine lv_iload_n hx hb dX2_followSides_2 rfl (lv_at hl 2 rfl) ?_
      refine lv_aload_n hx hb dX2_followSides_3 rfl (lv_at hl 0 rfl) ?_
      refine g_get (C := RX2) (T := TX2) (N := 6) F hK hP i_X2_followSides_X2 0 rfl rfl 5 (by decide) k_X2_followSides_f27 (v := .int (nI pn)) rfl dX2_followSides_4 ?_
      refine n_icmp_ge (a := i) (b := pn) (tgt := 70) hx hb dX2_followSides_7 (by decide) (by omega) (by omega) (fun c_7 => ?_) (fun c_7 => ?_)
      · obtain rfl : pn = i := by omega
        obtain rfl : setR ew (folW (sdR X Y n ex ey) eb ew) pn = w_ := h1.symm
        obtain rfl : setR ec (folC (sdR X Y n ex ey) eb ew ec) pn = c_ := h2.symm
        exact hret _ _ _ _ () dX2_followSides_70 (trivial) hP hD hS
      · refine lv_aload_n hx hb dX2_followSides_10 rfl (lv_at hl 1 rfl) ?_
        refine lv_aload_n hx hb dX2_followSides_11 rfl (lv_at hl 0 rfl) ?_
        refine g_get (C := RX2) (T := TX2) (N := 6) F hK hP i_X2_followSides_X2 0 rfl rfl 0 (by decide) k_X2_followSides_f9 (v := .ref px) rfl dX2_followSides_12 ?_
        refine lv_iload_n hx hb dX2_followSides_15 rfl (lv_at hl 2 rfl) ?_
        refine g_iald (i := i) (v := (ex i)) hx hb hK hP 1 rfl (by decide) (by omega) (rfl) dX2_followSides_16 ?_
        refine lv_aload_n hx hb dX2_followSides_17 rfl (lv_at hl 0 rfl) ?_
        refine g_get (C := RX2) (T := TX2) (N := 6) F hK hP i_X2_followSides_X2 0 rfl rfl 1 (by decide) k_X2_followSides_f15 (v := .ref py) rfl dX2_followSides_18 ?_
        refine lv_iload_n hx hb dX2_followSides_21 rfl (lv_at hl 2 rfl) ?_
        refine g_iald (i := i) (v := (ey i)) hx hb hK hP 2 rfl (by decide) (by omega) (rfl) dX2_followSides_22 ?_
        refine g_VI (wr := [gO pl 2 [.ref px, .ref py, .ref pw, .ref pc_, .ref pb, .int (nI pn)], gI g px 20 ex, gI g py 20 ey, gI g pw 20 w_, gI g pc_ 20 c_, gI g pb 20 eb]) (As := [.int (ex i), .int (ey i)]) (rest := []) (n := 2) F (c_X3_sideOf l g po ax ay n fx fy X Y (ex i) (ey i) (by omega) (hX) (hY) (by omega)) gX2_followSides_X3_sideOf rfl (by decide) ⟨by decide, by decide⟩ 6 3 rfl rfl rfl rfl hl.1 rfl (Nat.le_of_ble_eq_true rfl) dX2_followSides_23 ⟨Nat.le_of_ble_eq_true rfl, Nat.le_of_ble_eq_true rfl⟩ hK hP hD hS hA [6, 7, 8] [0, 1, 2, 3, 4, 5] (by decide) rfl rfl (by decide) (by decide) (fun r_23 u_23 H locs hw_23 hP hD hS => ?_)
        have hP : gP g [gO pl 2 [.ref px, .ref py, .ref pw, .ref pc_, .ref pb, .int (nI pn)], gI g px 20 ex, gI g py 20 ey, gI g pw 20 w_, gI g pc_ 20 c_, gI g pb 20 eb, gO po 3 [.ref ax, .ref ay, .int (nI n)], gI g ax 48 fx, gI g ay 48 fy] H := hP
        have hD : va_D A [gO pl 2 [.ref px, .ref py, .ref pw, .ref pc_, .ref pb, .int (nI pn)], gI g px 20 ex, gI g py 20 ey, gI g pw 20 w_, gI g pc_ 20 c_, gI g pb 20 eb, gO po 3 [.ref ax, .ref ay, .int (nI n)], gI g ax 48 fx, gI g ay 48 fy] := hD
        obtain rfl := hw_23
        refine g_eqi (y := sdR X Y n ex ey i) rfl ?_
        refine lv_istore_n (lv' := [(3, .int (sdR X Y n ex ey i)), (0, .ref pl), (1, .ref po), (2, .int (nI i))]) hx hb dX2_followSides_26 rfl hl (by decide) rfl (fun ls hl => ?_)
        refine lv_iload_n hx hb dX2_followSides_27 rfl (lv_at hl 0 rfl) ?_
        refine lv_aload_n hx hb dX2_followSides_28 rfl (lv_at hl 1 rfl) ?_
        refine g_get (C := RX2) (T := TX2) (N := 6) F hK hP i_X2_followSides_X2 0 rfl rfl 4 (by decide) k_X2_followSides_f24 (v := .ref pb) rfl dX2_followSides_29 ?_
        refine lv_iload_n hx hb dX2_followSides_32 rfl (lv_at hl 3 rfl) ?_
        refine g_iald (i := i) (v := (eb i)) hx hb hK hP 5 rfl (by decide) (by omega) (rfl) dX2_followSides_33 ?_
        refine lv_icmp_eq (tgt := 64) hx hb dX2_followSides_34 (by decide) (fun c_34 => ?_) (fun c_34 => ?_)
        · refine lv_iinc (v := (nI (i + 1))) (lv' := [(2, .int (nI (i + 1))), (3, .int (sdR X Y n ex ey i)), (0, .ref pl), (1, .ref po)]) hx hb dX2_followSides_64 hl (k := 3) rfl (g_inc i 1 (by decide)) (by decide) rfl (fun ls hl => ?_)
          refine lv_goto (tgt := 2) hx hb dX2_followSides_67 (by decide) ?_
          exact ih_2 (i + 1) w_ c_ ls _ _ (by omega) (by omega) (h1.trans (setR_k (if_neg (fun z => z.1 c_34)))) (h2.trans (setR_k (if_neg (fun z => z.1 c_34)))) (lv_sub hl [2, 3, 0] rfl) hP hD hS
        · refine lv_iload_n hx hb dX2_followSides_37 rfl (lv_at hl 0 rfl) ?_
          refine lv_aload_n hx hb dX2_followSides_38 rfl (lv_at hl 1 rfl) ?_
          refine g_get (C := RX2) (T := TX2) (N := 6) F hK hP i_X2_followSides_X2 0 rfl rfl 2 (by decide) k_X2_followSides_f18 (v := .ref pw) rfl dX2_followSides_39 ?_
          refine lv_iload_n hx hb dX2_followSides_42 rfl (lv_at hl 3 rfl) ?_
          refine g_iald (i := i) (v := (ew i)) hx hb hK hP 3 rfl (by decide) (by omega) (by rw [h1]; exact setR_at _ _ _) dX2_followSides_43 ?_
          refine lv_icmp_eq (tgt := 64) hx hb dX2_followSides_44 (by decide) (fun c_44 => ?_) (fun c_44 => ?_)
          · refine lv_iinc (v := (nI (i + 1))) (lv' := [(2, .int (nI (i + 1))), (3, .int (sdR X Y n ex ey i)), (0, .ref pl), (1, .ref po)]) hx hb dX2_followSides_64 hl (k := 3) rfl (g_inc i 1 (by decide)) (by decide) rfl (fun ls hl => ?_)
            refine lv_goto (tgt := 2) hx hb dX2_followSides_67 (by decide) ?_
            exact ih_2 (i + 1) w_ c_ ls _ _ (by omega) (by omega) (h1.trans (setR_k (if_neg (fun z => z.2 c_44)))) (h2.trans (setR_k (if_neg (fun z => z.2 c_44)))) (lv_sub hl [2, 3, 0] rfl) hP hD hS
          · refine lv_aload_n hx hb dX2_followSides_47 rfl (lv_at hl 1 rfl) ?_
            refine g_get (C := RX2) (T := TX2) (N := 6) F hK hP i_X2_followSides_X2 0 rfl rfl 2 (by decide) k_X2_followSides_f18 (v := .ref pw) rfl dX2_followSides_48 ?_
            refine lv_iload_n hx hb dX2_followSides_51 rfl (lv_at hl 3 rfl) ?_
            refine lv_iload_n hx hb dX2_followSides_52 rfl (lv_at hl 0 rfl) ?_
            refine g_iast (i := i) (ws2 := [gO pl 2 [.ref px, .ref py, .ref pw, .ref pc_, .ref pb, .int (nI pn)], gI g px 20 ex, gI g py 20 ey, gI g pw 20 (upd w_ i (sdR X Y n ex ey i)), gI g pc_ 20 c_, gI g pb 20 eb, gO po 3 [.ref ax, .ref ay, .int (nI n)], gI g ax 48 fx, gI g ay 48 fy]) hx hb hK hP hD hS 3 rfl (by decide) (by omega) rfl dX2_followSides_53 (fun H locs hP hD hS => ?_)
            refine lv_aload_n hx hb dX2_followSides_54 rfl (lv_at hl 1 rfl) ?_
            refine g_get (C := RX2) (T := TX2) (N := 6) F hK hP i_X2_followSides_X2 0 rfl rfl 3 (by decide) k_X2_followSides_f21 (v := .ref pc_) rfl dX2_followSides_55 ?_
            refine lv_iload_n hx hb dX2_followSides_58 rfl (lv_at hl 3 rfl) ?_
            refine lv_dup2_11 hx hb dX2_followSides_59 rfl rfl ?_
            refine g_iald (i := i) (v := (ec i)) hx hb hK hP 4 rfl (by decide) (by omega) (by rw [h2]; exact setR_at _ _ _) dX2_followSides_60 ?_
            refine lv_iconst (v := 1) hx hb dX2_followSides_61 (by decide) ?_
            refine lv_iadd hx hb dX2_followSides_62 ?_
            refine g_iast (i := i) (ws2 := [gO pl 2 [.ref px, .ref py, .ref pw, .ref pc_, .ref pb, .int (nI pn)], gI g px 20 ex, gI g py 20 ey, gI g pw 20 (upd w_ i (sdR X Y n ex ey i)), gI g pc_ 20 (upd c_ i ((ec i) + 1)), gI g pb 20 eb, gO po 3 [.ref ax, .ref ay, .int (nI n)], gI g ax 48 fx, gI g ay 48 fy]) hx hb hK hP hD hS 4 rfl (by decide) (by omega) rfl dX2_followSides_63 (fun H locs hP hD hS => ?_)
            refine lv_iinc (v := (nI (i + 1))) (lv' := [(2, .int (nI (i + 1))), (3, .int (sdR X Y n ex ey i)), (0, .ref pl), (1, .ref po)]) hx hb dX2_followSides_64 hl (k := 3) rfl (g_inc i 1 (by decide)) (by decide) rfl (fun ls hl => ?_)
            refine lv_goto (tgt := 2) hx hb dX2_followSides_67 (by decide) ?_
            have hf1 : (folW (sdR X Y n ex ey) eb ew) i = sdR X Y n ex ey i := if_pos ⟨c_34, c_44⟩
            have hf2 : (folC (sdR X Y n ex ey) eb ew ec) i = ec i + 1 := if_pos ⟨c_34, c_44⟩
            exact ih_2 (i + 1) (upd w_ i (sdR X Y n ex ey i)) (upd c_ i ((ec i) + 1)) ls _ _ (by omega) (by omega) (by rw [h1, ← setR_s, hf1]) (by rw [h2, ← setR_s, hf2]) (lv_sub hl [2, 3, 0] rfl) hP hD hS
  exact L2 ((pn - 0) + 1) 0 ew ec ls _ _ (Nat.lt_succ_self _) (by omega) ((setR_0 _ _).symm) ((setR_0 _ _).symm) (lv_sub hl [1, 2, 0] rfl) hP hD hS

