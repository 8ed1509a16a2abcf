abbrev rm_X1_init : Room := { frames := 1, cells := 3, slots := 90, locals := 20 }
theorem k_X1_init_m3 : Cond.methodLink RX1 3 objectInit ∈ wsX1_init := by decide +kernel
theorem k_X1_init_oi : Cond.instanceMethod objectInit ∈ wsX1_init := by decide +kernel
theorem k_X1_init_oc : Cond.code objectInit ⟨#[0xb1]⟩ 1 none ∈ wsX1_init := by decide +kernel
theorem k_X1_init_aint : Cond.arrayClass .int ∈ wsX1_init := by decide +kernel
theorem i_X1_init_X1 : ∀ w ∈ wsX10, w ∈ wsX1_init := by decide +kernel
theorem k_X1_init_f9 : Cond.fieldLink RX1 9 (TX1 0).1 (TX1 0).2.1 (TX1 0).2.2.1 ∈ wsX1_init := by decide +kernel
theorem k_X1_init_f15 : Cond.fieldLink RX1 15 (TX1 1).1 (TX1 1).2.1 (TX1 1).2.2.1 ∈ wsX1_init := by decide +kernel
theorem k_X1_init_f18 : Cond.fieldLink RX1 18 (TX1 2).1 (TX1 2).2.1 (TX1 2).2.2.1 ∈ wsX1_init := by decide +kernel
theorem k_X1_init_f21 : Cond.fieldLink RX1 21 (TX1 4).1 (TX1 4).2.1 (TX1 4).2.2.1 ∈ wsX1_init := by decide +kernel
set_option maxHeartbeats 4000000 in
set_option maxRecDepth 100000 in
theorem c_X1_init (l : Launch) (g : gT) (mo : Nat)  : CtV l g yX1_init wsX1_init rm_X1_init [.ref mo] [gO mo 1 [.null, .null, .null, .int 0, .int 0]] (fun (u : Nat × Nat × Nat) => True) (fun (u : Nat × Nat × Nat) => [gO mo 1 [.ref u.1, .ref u.2.1, .ref u.2.2, .int 0, .int 8], gI g u.1 30 (fun _ => 0), gI g u.2.1 30 (fun _ => 0), gI g u.2.2 30 (fun _ => 0)]) := by
  refine CtV.of (cc := cX1_init) (maxL := 1) (by decide) rfl (Nat.le_of_ble_eq_true rfl) ?_
  intro p e s m args below meth c A Q hnm F hK hA hP hD hS hret ls hl
  have hx := F.1
  have hb := F.2.1
  have hl : lv_has ls 1 [(0, .ref mo)] := hl
  refine lv_aload_n hx hb dX1_init_0 rfl (lv_at hl 0 rfl) ?_
  refine W.objInit hx hb F.2.2.2.1 (F.2.2.2.2 _ k_X1_init_m3) (F.2.2.2.2 _ k_X1_init_oi) (F.2.2.2.2 _ k_X1_init_oc) rfl (by rw [F.2.2.1]; exact hl.1) rfl dX1_init_1 (Nat.le_of_ble_eq_true rfl) (Nat.le_of_ble_eq_true rfl) ?_
  refine W.eq (g2 := F0 m 4 ls []) rfl ?_
  refine lv_aload_n hx hb dX1_init_4 rfl (lv_at hl 0 rfl) ?_
  refine lv_bipush (v := 30) hx hb dX1_init_5 (by decide) ?_
  refine g_newi (N := 30) (ws2 := fun q_7 => [gO mo 1 [.null, .null, .null, .int 0, .int 0], gI g q_7 30 (fun _ => 0)]) F k_X1_init_aint hK hP hD hS hA (by decide) (by decide) (by decide) (Nat.le_of_ble_eq_true rfl) (Nat.le_of_ble_eq_true rfl) (fun _ => rfl) dX1_init_7 (fun q_7 H hP hD hS => ?_)
  refine W.widen (k := 1) (n := 30) (Nat.le_of_ble_eq_true rfl) (Nat.le_of_ble_eq_true rfl) ?_
  refine g_putF (C := RX1) (T := TX1) (N := 5) (ws2 := [gO mo 1 [.ref q_7, .null, .null, .int 0, .int 0], gI g q_7 30 (fun _ => 0)]) F hK hP hD hS i_X1_init_X1 tyX1 tyX1_ok nmX1 0 rfl rfl 0 (by decide) k_X1_init_f9 rfl hnm rfl (v := .ref q_7) rfl rfl (Nat.le_of_ble_eq_true rfl) rfl dX1_init_9 (fun H locs hP hD hS => ?_)
  refine lv_aload_n hx hb dX1_init_12 rfl (lv_at hl 0 rfl) ?_
  refine lv_bipush (v := 30) hx hb dX1_init_13 (by decide) ?_
  refine g_newi (N := 30) (ws2 := fun q_15 => [gO mo 1 [.ref q_7, .null, .null, .int 0, .int 0], gI g q_7 30 (fun _ => 0), gI g q_15 30 (fun _ => 0)]) F k_X1_init_aint hK hP hD hS hA (by decide) (by decide) (by decide) (Nat.le_of_ble_eq_true rfl) (Nat.le_of_ble_eq_true rfl) (fun _ => rfl) dX1_init_15 (fun q_15 H hP hD hS => ?_)
  refine W.widen (k := 2) (n := 60) (Nat.le_of_ble_eq_true rfl) (Nat.le_of_ble_eq_true rfl) ?_
  refine g_putF (C := RX1) (T := TX1) (N := 5) (ws2 := [gO mo 1 [.ref q_7, .ref q_15, .null, .int 0, .int 0], gI g q_7 30 (fun _ => 0), gI g q_15 30 (fun _ => 0)]) F hK hP hD hS i_X1_init_X1 tyX1 tyX1_ok nmX1 0 rfl rfl 1 (by decide) k_X1_init_f15 rfl hnm rfl (v := .ref q_15) rfl rfl (Nat.le_of_ble_eq_true rfl) rfl dX1_init_17 (fun H locs hP hD hS => ?_)
  refine lv_aload_n hx hb dX1_init_20 rfl (lv_at hl 0 rfl) ?_
  refine lv_bipush (v := 30) hx hb dX1_init_21 (by decide) ?_
  refine g_newi (N := 30) (ws2 := fun q_23 => [gO mo 1 [.ref q_7, .ref q_15, .null, .int 0, .int 0], gI g q_7 30 (fun _ => 0), gI g q_15 30 (fun _ => 0), gI g q_23 30 (fun _ => 0)]) F k_X1_init_aint hK hP hD hS hA (by decide) (by decide) (by decide) (Nat.le_of_ble_eq_true rfl) (Nat.le_of_ble_eq_true rfl) (fun _ => rfl) dX1_init_23 (fun q_23 H hP hD hS => ?_)
  refine W.widen (k := 3) (n := 90) (Nat.le_of_ble_eq_true rfl) (Nat.le_of_ble_eq_true rfl) ?_
  refine g_putF (C := RX1) (T := TX1) (N := 5) (ws2 := [gO mo 1 [.ref q_7, .ref q_15, .ref q_23, .int 0, .int 0], gI g q_7 30 (fun _ => 0), gI g q_15 30 (fun _ => 0), gI g q_23 30 (fun _ => 0)]) F hK hP hD hS i_X1_init_X1 tyX1 tyX1_ok nmX1 0 rfl rfl 2 (by decide) k_X1_init_f18 rfl hnm rfl (v := .ref q_23) rfl rfl (Nat.le_of_ble_eq_true rfl) rfl dX1_init_25 (fun H locs hP hD hS => ?_)
  refine lv_aload_n hx hb dX1_init_28 rfl (lv_at hl 0 rfl) ?_
  refine lv_bipush (v := 8) hx hb dX1_init_29 (by decide) ?_
  refine g_put (C := RX1) (T := TX1) (N := 5) (ws2 := [gO mo 1 [.ref q_7, .ref q_15, .ref q_23, .int 0, .int 8], gI g q_7 30 (fun _ => 0), gI g q_15 30 (fun _ => 0), gI g q_23 30 (fun _ => 0)]) F hK hP hD hS i_X1_init_X1 tyX1 tyX1_ok nmX1 0 rfl rfl 4 (by decide) k_X1_init_f21 rfl (v := .int 8) rfl rfl (Nat.le_of_ble_eq_true rfl) rfl dX1_init_31 (fun H locs hP hD hS => ?_)
  exact hret _ _ _ _ (q_7, q_15, q_23) dX1_init_34 (trivial) hP hD hS

abbrev rm_X1_add : Room := { frames := 0, cells := 0, slots := 0, locals := 0 }
theorem i_X1_add_X1 : ∀ w ∈ wsX10, w ∈ wsX1_add := by decide +kernel
theorem k_X1_add_f25 : Cond.fieldLink RX1 25 (TX1 3).1 (TX1 3).2.1 (TX1 3).2.2.1 ∈ wsX1_add := by decide +kernel
theorem k_X1_add_f9 : Cond.fieldLink RX1 9 (TX1 0).1 (TX1 0).2.1 (TX1 0).2.2.1 ∈ wsX1_add := by decide +kernel
theorem k_X1_add_f15 : Cond.fieldLink RX1 15 (TX1 1).1 (TX1 1).2.1 (TX1 1).2.2.1 ∈ wsX1_add := by decide +kernel
theorem k_X1_add_f18 : Cond.fieldLink RX1 18 (TX1 2).1 (TX1 2).2.1 (TX1 2).2.2.1 ∈ wsX1_add := by decide +kernel
set_option maxHeartbeats 4000000 in
set_option maxRecDepth 100000 in
theorem c_X1_add (l : Launch) (g : gT) (mo : Nat) (mx : Nat) (my : Nat) (mz : Nat) (mn : Nat) (tol : Int32) (ax0 : Nat → Int32) (ay0 : Nat → Int32) (az0 : Nat → Int32) (x : Int32) (y : Int32) (ye : Int32) (hmn : mn ≤ 30) : CtI l g yX1_add wsX1_add rm_X1_add [.ref mo, .int x, .int y, .int ye] [gO mo 1 [.ref mx, .ref my, .ref mz, .int (nI mn), .int tol], gI g mx 30 ax0, gI g my 30 ay0, gI g mz 30 az0] (fun (r : Int32) (_ : Unit) => r = padA 30 mn) (fun (_ : Unit) => [gO mo 1 [.ref mx, .ref my, .ref mz, .int (nI (padN 30 mn)), .int tol], gI g mx 30 (padR 30 ax0 mn x), gI g my 30 (padR 30 ay0 mn y), gI g mz 30 (padR 30 az0 mn ye)]) := by
  refine CtI.of (cc := cX1_add) (maxL := 4) (ret := .int) (by decide) rfl (Nat.le_of_ble_eq_true rfl) ?_
  intro p e s m args below meth c A Q hnm F hK hA hP hD hS hret ls hl
  have hx := F.1
  have hb := F.2.1
  have hl : lv_has ls 4 [(0, .ref mo), (1, .int x), (2, .int y), (3, .int ye)] := hl
  refine lv_aload_n hx hb dX1_add_0 rfl (lv_at hl 0 rfl) ?_
  refine g_get (C := RX1) (T := TX1) (N := 5) F hK hP i_X1_add_X1 0 rfl rfl 3 (by decide) k_X1_add_f25 (v := .int (nI mn)) rfl dX1_add_1 ?_
  refine lv_bipush (v := 30) hx hb dX1_add_4 (by decide) ?_
  refine n_icmp_lt (a := mn) (b := 30) (tgt := 11) hx hb dX1_add_6 (by decide) (by omega) (by omega) (fun c_6 => ?_) (fun c_6 => ?_)
  · refine lv_aload_n hx hb dX1_add_11 rfl (lv_at hl 0 rfl) ?_
    refine g_get (C := RX1) (T := TX1) (N := 5) F hK hP i_X1_add_X1 0 rfl rfl 0 (by decide) k_X1_add_f9 (v := .ref mx) rfl dX1_add_12 ?_
    refine lv_aload_n hx hb dX1_add_15 rfl (lv_at hl 0 rfl) ?_
    refine g_get (C := RX1) (T := TX1) (N := 5) F hK hP i_X1_add_X1 0 rfl rfl 3 (by decide) k_X1_add_f25 (v := .int (nI mn)) rfl dX1_add_16 ?_
    refine lv_iload_n hx hb dX1_add_19 rfl (lv_at hl 1 rfl) ?_
    refine g_iast (i := mn) (ws2 := [gO mo 1 [.ref mx, .ref my, .ref mz, .int (nI mn), .int tol], gI g mx 30 (upd ax0 mn x), gI g my 30 ay0, gI g mz 30 az0]) hx hb hK hP hD hS 1 rfl (by decide) (by omega) rfl dX1_add_20 (fun H locs hP hD hS => ?_)
    refine lv_aload_n hx hb dX1_add_21 rfl (lv_at hl 0 rfl) ?_
    refine g_get (C := RX1) (T := TX1) (N := 5) F hK hP i_X1_add_X1 0 rfl rfl 1 (by decide) k_X1_add_f15 (v := .ref my) rfl dX1_add_22 ?_
    refine lv_aload_n hx hb dX1_add_25 rfl (lv_at hl 0 rfl) ?_
    refine g_get (C := RX1) (T := TX1) (N := 5) F hK hP i_X1_add_X1 0 rfl rfl 3 (by decide) k_X1_add_f25 (v := .int (nI mn)) rfl dX1_add_26 ?_
    refine lv_iload_n hx hb dX1_add_29 rfl (lv_at hl 2 rfl) ?_
    refine g_iast (i := mn) (ws2 := [gO mo 1 [.ref mx, .ref my, .ref mz, .int (nI mn), .int tol], gI g mx 30 (upd ax0 mn x), gI g my 30 (upd ay0 mn y), gI g mz 30 az0]) hx hb hK hP hD hS 2 rfl (by decide) (by omega) rfl dX1_add_30 (fun H locs hP hD hS => ?_)
    refine lv_aload_n hx hb dX1_add_31 rfl (lv_at hl 0 rfl) ?_
    refine g_get (C := RX1) (T := TX1) (N := 5) F hK hP i_X1_add_X1 0 rfl rfl 2 (by decide) k_X1_add_f18 (v := .ref mz) rfl dX1_add_32 ?_
    refine lv_aload_n hx hb dX1_add_35 rfl (lv_at hl 0 rfl) ?_
    refine g_get (C := RX1) (T := TX1) (N := 5) F hK hP i_X1_add_X1 0 rfl rfl 3 (by decide) k_X1_add_f25 (v := .int (nI mn)) rfl dX1_add_36 ?_
    refine lv_iload_n hx hb dX1_add_39 rfl (lv_at hl 3 rfl) ?_
    refine g_iast (i := mn) (ws2 := [gO mo 1 [.ref mx, .ref my, .ref mz, .int (nI mn), .int tol], gI g mx 30 (upd ax0 mn x), gI g my 30 (upd ay0 mn y), gI g mz 30 (upd az0 mn ye)]) hx hb hK hP hD hS 3 rfl (by decide) (by omega) rfl dX1_add_40 (fun H locs hP hD hS => ?_)
    refine lv_aload_n hx hb dX1_add_41 rfl (lv_at hl 0 rfl) ?_
    refine lv_dup hx hb dX1_add_42 rfl ?_
    refine g_get (C := RX1) (T := TX1) (N := 5) F hK hP i_X1_add_X1 0 rfl rfl 3 (by decide) k_X1_add_f25 (v := .int (nI mn)) rfl dX1_add_43 ?_
    refine lv_iconst (v := 1) hx hb dX1_add_46 (by decide) ?_
    refine n_iadd (a := mn) (b := 1) (d := mn + 1) hx hb dX1_add_47 (by omega) ?_
    refine g_put (C := RX1) (T := TX1) (N := 5) (ws2 := [gO mo 1 [.ref mx, .ref my, .ref mz, .int (nI (mn + 1)), .int tol], gI g mx 30 (upd ax0 mn x), gI g my 30 (upd ay0 mn y), gI g mz 30 (upd az0 mn ye)]) F hK hP hD hS i_X1_add_X1 tyX1 tyX1_ok nmX1 0 rfl rfl 3 (by decide) k_X1_add_f25 rfl (v := .int (nI (mn + 1))) rfl rfl (Nat.le_of_ble_eq_true rfl) rfl dX1_add_48 (fun H locs hP hD hS => ?_)
    refine lv_aload_n hx hb dX1_add_51 rfl (lv_at hl 0 rfl) ?_
    refine g_get (C := RX1) (T := TX1) (N := 5) F hK hP i_X1_add_X1 0 rfl rfl 3 (by decide) k_X1_add_f25 (v := .int (nI (mn + 1))) rfl dX1_add_52 ?_
    refine lv_iconst (v := 1) hx hb dX1_add_55 (by decide) ?_
    refine n_isub (a := mn + 1) (b := 1) (d := mn) hx hb dX1_add_56 (by omega) (by omega) ?_
    have e0 : padN 30 mn = mn + 1 := if_pos (show mn < 30 by omega)
    have e1 : padR 30 ax0 mn x = upd ax0 mn x := if_pos (show mn < 30 by omega)
    have e2 : padR 30 ay0 mn y = upd ay0 mn y := if_pos (show mn < 30 by omega)
    have e3 : padR 30 az0 mn ye = upd az0 mn ye := if_pos (show mn < 30 by omega)
    exact hret _ _ _ _ (nI mn) () dX1_add_57 rfl ((if_pos (show mn < 30 by omega)).symm) (by rw [e0, e1, e2, e3]; exact hP) (by rw [e0, e1, e2, e3]; exact hD) hS
  · refine lv_iconst (v := (-1)) hx hb dX1_add_9 (by decide) ?_
    have e0 : padN 30 mn = mn := if_neg (show ¬ mn < 30 by omega)
    have e1 : padR 30 ax0 mn x = ax0 := if_neg (show ¬ mn < 30 by omega)
    have e2 : padR 30 ay0 mn y = ay0 := if_neg (show ¬ mn < 30 by omega)
    have e3 : padR 30 az0 mn ye = az0 := if_neg (show ¬ mn < 30 by omega)
    exact hret _ _ _ _ (-1) () dX1_add_10 rfl ((if_neg (show ¬ mn < 30 by omega)).symm) (by rw [e0, e1, e2, e3]; exact hP) (by rw [e0, e1, e2, e3]; exact hD) hS

def latS (f : Nat → Int32) : Nat → Int32
  | 0 => -1
  | k + 1 => g_max (latS f k) (f k)
/-- MARK k is of the YEAR y, and no POINT is by it -/
def disB (X Y : RW) (n : Nat) (ex ey ez : RW) (tol y : Int32) (k : Nat) : Bool := decide (ez k = y) && !anyB (fun j => nearB X Y j (ex k) (ey k) tol) n
abbrev rm_X1_latestYear : Room := { frames := 1, cells := 0, slots := 0, locals := 21 }
theorem i_X1_latestYear_X1 : ∀ w ∈ wsX10, w ∈ wsX1_latestYear := by decide +kernel
theorem k_X1_latestYear_f25 : Cond.fieldLink RX1 25 (TX1 3).1 (TX1 3).2.1 (TX1 3).2.2.1 ∈ wsX1_latestYear := by decide +kernel
theorem k_X1_latestYear_f18 : Cond.fieldLink RX1 18 (TX1 2).1 (TX1 2).2.1 (TX1 2).2.2.1 ∈ wsX1_latestYear := by decide +kernel
theorem k_X1_latestYear_m28 : Cond.methodLink RX1 28 Lib.Math.max.name ∈ wsX1_latestYear := by decide +kernel
theorem k_X1_latestYear_smax : Cond.static Lib.Math.max.name ∈ wsX1_latestYear := by decide +kernel
theorem k_X1_latestYear_im : Cond.initialized "java/lang/Math" ∈ wsX1_latestYear := by decide +kernel
theorem k_X1_latestYear_xmax : Cond.code Lib.Math.max.name Lib.Math.max.code 2 (some .int) ∈ wsX1_latestYear := by decide +kernel
set_option maxHeartbeats 4000000 in
set_option maxRecDepth 100000 in
theorem c_X1_latestYear (l : Launch) (g : gT) (mo : Nat) (mx : Nat) (my : Nat) (mz : Nat) (mn : Nat) (tol : Int32) (ax0 : Nat → Int32) (ay0 : Nat → Int32) (az0 : Nat → Int32) (hmn : mn ≤ 30) : CtI l g yX1_latestYear wsX1_latestYear rm_X1_latestYear [.ref mo] [gO mo 1 [.ref mx, .ref my, .ref mz, .int (nI mn), .int tol], gI g mx 30 ax0, gI g my 30 ay0, gI g mz 30 az0] (fun (r : Int32) (_ : Unit) => r = latS az0 mn) (fun (_ : Unit) => [gO mo 1 [.ref mx, .ref my, .ref mz, .int (nI mn), .int tol], gI g mx 30 ax0, gI g my 30 ay0, gI g mz 30 az0]) := by
  refine CtI.of (cc := cX1_latestYear) (maxL := 3) (ret := .int) (by decide) rfl (Nat.le_of_ble_eq_true rfl) ?_
  intro p e s m args below meth c A Q hnm F hK hA hP hD hS hret ls hl
  have hx := F.1
  have hb := F.2.1
  have hl : lv_has ls 3 [(0, .ref mo)] := hl
  refine lv_iconst (v := (-1)) hx hb dX1_latestYear_0 (by decide) ?_
  refine lv_istore_n (lv' := [(1, .int (-1)), (0, .ref mo)]) hx hb dX1_latestYear_1 rfl hl (by decide) rfl (fun ls hl => ?_)
  refine lv_iconst (v := 0) hx hb dX1_latestYear_2 (by decide) ?_
  refine lv_istore_n (lv' := [(2, .int 0), (1, .int (-1)), (0, .ref mo)]) hx hb dX1_latestYear_3 rfl hl (by decide) rfl (fun ls hl => ?_)
  have L4 : ∀ (fuel : Nat) (lt : Int32) (i : Nat) (ls : Array Slot) (H : Heap) (locs : List Loc), mn - i < fuel → (i ≤ mn) → (lt = latS az0 i) → lv_has ls 3 [(0, .ref mo), (1, .int lt), (2, .int (nI i))] → gP g [gO mo 1 [.ref mx, .ref my, .ref mz, .int (nI mn), .int tol], gI g mx 30 ax0, gI g my 30 ay0, gI g mz 30 az0] H → va_D A [gO mo 1 [.ref mx, .ref my, .ref mz, .int (nI mn), .int tol], gI g mx 30 ax0, gI g my 30 ay0, gI g mz 30 az0] → va_S A s.heap H locs → W p l e rm_X1_latestYear s m args below meth c H locs 0 0 Q (F0 m 4 ls []) := by
    intro fuel
    induction fuel with
    | zero => intro lt i _ _ _ hk; exact absurd hk (Nat.not_lt_zero _)
    | succ fuel_4 ih_4 =>
      intro lt i ls H locs hk_4 hi h1 hl hP hD hS
      refine lv_iload_n hx hb dX1_latestYear_4 rfl (lv_at hl 2 rfl) ?_
      refine lv_aload_n hx hb dX1_latestYear_5 rfl (lv_at hl 0 rfl) ?_
      refine g_get (C := RX1) (T := TX1) (N := 5) F hK hP i_X1_latestYear_X1 0 rfl rfl 3 (by decide) k_X1_latestYear_f25 (v := .int (nI mn)) rfl dX1_latestYear_6 ?_
      refine n_icmp_ge (a := i) (b := mn) (tgt := 29) hx hb dX1_latestYear_9 (by decide) (by omega) (by omega) (fun c_9 => ?_) (fun c_9 => ?_)
      · refine lv_iload_n hx hb dX1_latestYear_29 rfl (lv_at hl 1 rfl) ?_
        exact hret _ _ _ _ lt () dX1_latestYear_30 rfl (by rw [h1, show i = mn by omega]) hP hD hS
      · refine lv_iload_n hx hb dX1_latestYear_12 rfl (lv_at hl 1 rfl) ?_
        refine lv_aload_n hx hb dX1_latestYear_13 rfl (lv_at hl 0 rfl) ?_
        refine g_get (C := RX1) (T := TX1) (N := 5) F hK hP i_X1_latestYear_X1 0 rfl rfl 2 (by decide) k_X1_latestYear_f18 (v := .ref mz) rfl dX1_latestYear_14 ?_
        refine lv_iload_n hx hb dX1_latestYear_17 rfl (lv_at hl 2 rfl) ?_
        refine g_iald (i := i) (v := (az0 i)) hx hb hK hP 3 rfl (by decide) (by omega) (rfl) dX1_latestYear_18 ?_
        refine g_mmax F hl.1 k_X1_latestYear_m28 k_X1_latestYear_smax k_X1_latestYear_im k_X1_latestYear_xmax (by decide) (Nat.le_of_ble_eq_true rfl) (Nat.le_of_ble_eq_true rfl) (Nat.le_of_ble_eq_true rfl) dX1_latestYear_19 (v := (g_max lt (az0 i))) (rfl) ?_
        refine lv_istore_n (lv' := [(1, .int (g_max lt (az0 i))), (0, .ref mo), (2, .int (nI i))]) hx hb dX1_latestYear_22 rfl hl (by decide) rfl (fun ls hl => ?_)
        refine lv_iinc (v := (nI (i + 1))) (lv' := [(2, .int (nI (i + 1))), (1, .int (g_max lt (az0 i))), (0, .ref mo)]) hx hb dX1_latestYear_23 hl (k := 2) rfl (g_inc i 1 (by decide)) (by decide) rfl (fun ls hl => ?_)
        refine lv_goto (tgt := 4) hx hb dX1_latestYear_26 (by decide) ?_
        exact ih_4 (g_max lt (az0 i)) (i + 1) ls _ _ (by omega) (by omega) (by rw [h1]; rfl) (lv_sub hl [2, 1, 0] rfl) hP hD hS
  exact L4 ((mn - 0) + 1) (-1) 0 ls _ _ (Nat.lt_succ_self _) (by omega) (rfl) (lv_sub hl [2, 1, 0] rfl) hP hD hS

abbrev rm_X1_agree : Room := { frames := 3, cells := 0, slots := 0, locals := 69 }
theorem i_X1_agree_X1 : ∀ w ∈ wsX10, w ∈ wsX1_agree := by decide +kernel
theorem k_X1_agree_f25 : Cond.fieldLink RX1 25 (TX1 3).1 (TX1 3).2.1 (TX1 3).2.2.1 ∈ wsX1_agree := by decide +kernel
theorem k_X1_agree_f18 : Cond.fieldLink RX1 18 (TX1 2).1 (TX1 2).2.1 (TX1 2).2.2.1 ∈ wsX1_agree := by decide +kernel
theorem k_X1_agree_f9 : Cond.fieldLink RX1 9 (TX1 0).1 (TX1 0).2.1 (TX1 0).2.2.1 ∈ wsX1_agree := by decide +kernel
theorem k_X1_agree_f15 : Cond.fieldLink RX1 15 (TX1 1).1 (TX1 1).2.1 (TX1 1).2.2.1 ∈ wsX1_agree := by decide +kernel
theorem k_X1_agree_f21 : Cond.fieldLink RX1 21 (TX1 4).1 (TX1 4).2.1 (TX1 4).2.2.1 ∈ wsX1_agree := by decide +kernel
set_option maxHeartbeats 4000000 in
set_option maxRecDepth 100000 in
theorem c_X1_agree (l : Launch) (g : gT) (mo : Nat) (mx : Nat) (my : Nat) (mz : Nat) (mn : Nat) (tol : Int32) (ax0 : Nat → Int32) (ay0 : Nat → Int32) (az0 : Nat → Int32) (po : Nat) (ax : Nat) (ay : Nat) (n : Nat) (fx : Nat → Int32) (fy : Nat → Int32) (X : Nat → Int32) (Y : Nat → Int32) (ye : Int32) (hmn : mn ≤ 30) (hn : n ≤ 48) (hX : ∀ k, k < n → fx k = X k) (hY : ∀ k, k < n → fy k = Y k) : CtI l g yX1_agree wsX1_agree rm_X1_agree [.ref mo, .ref po, .int ye] [gO mo 1 [.ref mx, .ref my, .ref mz, .int (nI mn), .int tol], gI g mx 30 ax0, gI g my 30 ay0, gI g mz 30 az0, gO po 3 [.ref ax, .ref ay, .int (nI n)], gI g ax 48 fx, gI g ay 48 fy] (fun (r : Int32) (_ : Unit) => (r = 1 ∧ anyB (disB X Y n ax0 ay0 az0 tol ye) mn = false) ∨ (r = 0 ∧ ¬ anyB (disB X Y n ax0 ay0 az0 tol ye) mn = false)) (fun (_ : Unit) => [gO mo 1 [.ref mx, .ref my, .ref mz, .int (nI mn), .int tol], gI g mx 30 ax0, gI g my 30 ay0, gI g mz 30 az0, gO po 3 [.ref ax, .ref ay, .int (nI n)], gI g ax 48 fx, gI g ay 48 fy]) := by
  refine CtI.of (cc := cX1_agree) (maxL := 4) (ret := .boolean) (by decide) rfl (Nat.le_of_ble_eq_true rfl) ?_
  intro p e s m args below meth c A Q hnm F hK hA hP hD hS hret ls hl
  have hx := F.1
  have hb := F.2.1
  have hl : lv_has ls 4 [(0, .ref mo), (1, .ref po), (2, .int ye)] := hl
  refine lv_iconst (v := 0) hx hb dX1_agree_0 (by decide) ?_
  refine lv_istore_n (lv' := [(3, .int 0), (0, .ref mo), (1, .ref po), (2, .int ye)]) hx hb dX1_agree_1 rfl hl (by decide) rfl (fun ls hl => ?_)
  have L2 : ∀ (fuel : Nat) (i : Nat) (ls : Array Slot) (H : Heap) (locs : List Loc), mn - i < fuel → (i ≤ mn) → (anyB (disB X Y n ax0 ay0 az0 tol ye) i = false) → lv_has ls 4 [(0, .ref mo), (1, .ref po), (2, .int ye), (3, .int (nI i))] → gP g [gO mo 1 [.ref mx, .ref my, .ref mz, .int (nI mn), .int tol], gI g mx 30 ax0, gI g my 30 ay0, gI g mz 30 az0, gO po 3 [.ref ax, .ref ay, .int (nI n)], gI g ax 48 fx, gI g ay 48 fy] H → va_D A [gO mo 1 [.ref mx, .ref my, .ref mz, .int (nI mn), .int tol], gI g mx 30 ax0, gI g my 30 ay0, gI g mz 30 az0, gO po 3 [.ref ax, .ref ay, .int (nI n)], gI g ax 48 fx, gI g ay 48 fy] → va_S A s.heap H locs → W p l e rm_X1_agree s m args below meth c H locs 0 0 Q (F0 m 2 ls []) := by
    intro fuel
    induction fuel with
    | zero => intro i _ _ _ hk; exact absurd hk (Nat.not_lt_zero _)
    | succ fuel_2 ih_2 =>
      intro i ls H locs hk_2 hi h1 hl hP hD hS
      refine lv_iload_n hx hb dX1_agree_2 rfl (lv_at hl 3 rfl) ?_
      refine lv_aload_n hx hb dX1_agree_3 rfl (lv_at hl 0 rfl) ?_
      refine g_get (C := RX1) (T := TX1) (N := 5) F hK hP i_X1_agree_X1 0 rfl rfl 3 (by decide) k_X1_agree_f25 (v := .int (nI mn)) rfl dX1_agree_4 ?_
      refine n_icmp_ge (a := i) (b := mn) (tgt := 51) hx hb dX1_agree_7 (by decide) (by omega) (by omega) (fun c_7 => ?_) (fun c_7 => ?_)
      · refine lv_iconst (v := 1) hx hb dX1_agree_51 (by decide) ?_
        exact hret _ _ _ _ 1 () dX1_agree_52 rfl (Or.inl ⟨rfl, by rw [show mn = i by omega]; exact h1⟩) hP hD hS
      · refine lv_aload_n hx hb dX1_agree_10 rfl (lv_at hl 0 rfl) ?_
        refine g_get (C := RX1) (T := TX1) (N := 5) F hK hP i_X1_agree_X1 0 rfl rfl 2 (by decide) k_X1_agree_f18 (v := .ref mz) rfl dX1_agree_11 ?_
        refine lv_iload_n hx hb dX1_agree_14 rfl (lv_at hl 3 rfl) ?_
        refine g_iald (i := i) (v := (az0 i)) hx hb hK hP 3 rfl (by decide) (by omega) (rfl) dX1_agree_15 ?_
        refine lv_iload_n hx hb dX1_agree_16 rfl (lv_at hl 2 rfl) ?_
        refine lv_icmp_ne (tgt := 45) hx hb dX1_agree_17 (by decide) (fun c_17 => ?_) (fun c_17 => ?_)
        · refine lv_iinc (v := (nI (i + 1))) (lv' := [(3, .int (nI (i + 1))), (0, .ref mo), (1, .ref po), (2, .int ye)]) hx hb dX1_agree_45 hl (k := 3) rfl (g_inc i 1 (by decide)) (by decide) rfl (fun ls hl => ?_)
          refine lv_goto (tgt := 2) hx hb dX1_agree_48 (by decide) ?_
          exact ih_2 (i + 1) ls _ _ (by omega) (by omega) (anyB_no h1 (by simp [disB, c_17])) (lv_sub hl [1, 2, 3, 0] rfl) hP hD hS
        · refine lv_aload_n hx hb dX1_agree_20 rfl (lv_at hl 1 rfl) ?_
          refine lv_aload_n hx hb dX1_agree_21 rfl (lv_at hl 0 rfl) ?_
          refine g_get (C := RX1) (T := TX1) (N := 5) F hK hP i_X1_agree_X1 0 rfl rfl 0 (by decide) k_X1_agree_f9 (v := .ref mx) rfl dX1_agree_22 ?_
          refine lv_iload_n hx hb dX1_agree_25 rfl (lv_at hl 3 rfl) ?_
          refine g_iald (i := i) (v := (ax0 i)) hx hb hK hP 1 rfl (by decide) (by omega) (rfl) dX1_agree_26 ?_
          refine lv_aload_n hx hb dX1_agree_27 rfl (lv_at hl 0 rfl) ?_
          refine g_get (C := RX1) (T := TX1) (N := 5) F hK hP i_X1_agree_X1 0 rfl rfl 1 (by decide) k_X1_agree_f15 (v := .ref my) rfl dX1_agree_28 ?_
          refine lv_iload_n hx hb dX1_agree_31 rfl (lv_at hl 3 rfl) ?_
          refine g_iald (i := i) (v := (ay0 i)) hx hb hK hP 2 rfl (by decide) (by omega) (rfl) dX1_agree_32 ?_
          refine lv_aload_n hx hb dX1_agree_33 rfl (lv_at hl 0 rfl) ?_
          refine g_get (C := RX1) (T := TX1) (N := 5) F hK hP i_X1_agree_X1 0 rfl rfl 4 (by decide) k_X1_agree_f21 (v := .int tol) rfl dX1_agree_34 ?_
          refine g_VI (wr := [gO mo 1 [.ref mx, .ref my, .ref mz, .int (nI mn), .int tol], gI g mx 30 ax0, gI g my 30 ay0, gI g mz 30 az0]) (As := [.int (ax0 i), .int (ay0 i), .int tol]) (rest := []) (n := 3) F (c_X3_hasPointNear l g po ax ay n fx fy X Y (ax0 i) (ay0 i) tol (by omega) (hX) (hY)) gX1_agree_X3_hasPointNear rfl (by decide) ⟨by decide, by decide⟩ 4 3 rfl rfl rfl rfl hl.1 rfl (Nat.le_of_ble_eq_true rfl) dX1_agree_37 ⟨Nat.le_of_ble_eq_true rfl, Nat.le_of_ble_eq_true rfl⟩ hK hP hD hS hA [4, 5, 6] [0, 1, 2, 3] (by decide) rfl rfl (by decide) (by decide) (fun r_37 u_37 H locs hw_37 hP hD hS => ?_)
          have hP : gP g [gO mo 1 [.ref mx, .ref my, .ref mz, .int (nI mn), .int tol], gI g mx 30 ax0, gI g my 30 ay0, gI g mz 30 az0, gO po 3 [.ref ax, .ref ay, .int (nI n)], gI g ax 48 fx, gI g ay 48 fy] H := hP
          have hD : va_D A [gO mo 1 [.ref mx, .ref my, .ref mz, .int (nI mn), .int tol], gI g mx 30 ax0, gI g my 30 ay0, gI g mz 30 az0, gO po 3 [.ref ax, .ref ay, .int (nI n)], gI g ax 48 fx, gI g ay 48 fy] := hD
          rcases hw_37 with ⟨rfl, b_37⟩ | ⟨rfl, b_37⟩
          · refine lv_if_ne (tgt := 45) hx hb dX1_agree_40 (by decide) (fun _ => ?_) (fun h => absurd h (by decide))
            refine lv_iinc (v := (nI (i + 1))) (lv' := [(3, .int (nI (i + 1))), (0, .ref mo), (1, .ref po), (2, .int ye)]) hx hb dX1_agree_45 hl (k := 3) rfl (g_inc i 1 (by decide)) (by decide) rfl (fun ls hl => ?_)
            refine lv_goto (tgt := 2) hx hb dX1_agree_48 (by decide) ?_
            exact ih_2 (i + 1) ls _ _ (by omega) (by omega) (anyB_no h1 (by simp [disB, b_37])) (lv_sub hl [1, 2, 3, 0] rfl) hP hD hS
          · refine lv_if_ne (tgt := 45) hx hb dX1_agree_40 (by decide) (fun h => absurd (by decide) h) (fun _ => ?_)
            refine lv_iconst (v := 0) hx hb dX1_agree_43 (by decide) ?_
            exact hret _ _ _ _ 0 () dX1_agree_44 rfl (Or.inr ⟨rfl, by rw [anyB_of (q := disB X Y n ax0 ay0 az0 tol ye) c_7 (by simp [disB, c_17, b_37])]; decide⟩) hP hD hS
  exact L2 ((mn - 0) + 1) 0 ls _ _ (Nat.lt_succ_self _) (by omega) (rfl) (lv_sub hl [1, 2, 3, 0] rfl) hP hD hS

