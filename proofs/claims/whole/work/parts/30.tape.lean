abbrev rm_X7_init : Room := { frames := 1, cells := 1, slots := 200, locals := 20 }
theorem k_X7_init_m3 : Cond.methodLink RX7 3 objectInit ∈ wsX7_init := by decide +kernel
theorem k_X7_init_oi : Cond.instanceMethod objectInit ∈ wsX7_init := by decide +kernel
theorem k_X7_init_oc : Cond.code objectInit ⟨#[0xb1]⟩ 1 none ∈ wsX7_init := by decide +kernel
theorem k_X7_init_aint : Cond.arrayClass .int ∈ wsX7_init := by decide +kernel
theorem i_X7_init_X7 : ∀ w ∈ wsX70, w ∈ wsX7_init := by decide +kernel
theorem k_X7_init_f9 : Cond.fieldLink RX7 9 (TX7 0).1 (TX7 0).2.1 (TX7 0).2.2.1 ∈ wsX7_init := by decide +kernel
set_option maxHeartbeats 4000000 in
set_option maxRecDepth 100000 in
theorem c_X7_init (l : Launch) (g : gT) (ta : Nat)  : CtV l g yX7_init wsX7_init rm_X7_init [.ref ta] [gO ta 7 [.null, .int 0]] (fun (tb : Nat) => True) (fun (tb : Nat) => [gO ta 7 [.ref tb, .int 0], gI g tb 200 (fun _ => 0)]) := by
  refine CtV.of (cc := cX7_init) (maxL := 1) (by decide) rfl (Nat.le_of_ble_eq_true rfl) ?_
  intro p e s m args below meth c A Q hnm F hK hA hP hD hS hret ls hl
  have hx := F.1
  have hb := F.2.1
  have hl : lv_has ls 1 [(0, .ref ta)] := hl
  refine lv_aload_n hx hb dX7_init_0 rfl (lv_at hl 0 rfl) ?_
  refine W.objInit hx hb F.2.2.2.1 (F.2.2.2.2 _ k_X7_init_m3) (F.2.2.2.2 _ k_X7_init_oi) (F.2.2.2.2 _ k_X7_init_oc) rfl (by rw [F.2.2.1]; exact hl.1) rfl dX7_init_1 (Nat.le_of_ble_eq_true rfl) (Nat.le_of_ble_eq_true rfl) ?_
  refine W.eq (g2 := F0 m 4 ls []) rfl ?_
  refine lv_aload_n hx hb dX7_init_4 rfl (lv_at hl 0 rfl) ?_
  refine lv_sipush (v := 200) hx hb dX7_init_5 (by decide) ?_
  refine g_newi (N := 200) (ws2 := fun q_8 => [gO ta 7 [.null, .int 0], gI g q_8 200 (fun _ => 0)]) F k_X7_init_aint hK hP hD hS hA (by decide) (by decide) (by decide) (Nat.le_of_ble_eq_true rfl) (Nat.le_of_ble_eq_true rfl) (fun _ => rfl) dX7_init_8 (fun q_8 H hP hD hS => ?_)
  refine W.widen (k := 1) (n := 200) (Nat.le_of_ble_eq_true rfl) (Nat.le_of_ble_eq_true rfl) ?_
  refine g_putF (C := RX7) (T := TX7) (N := 2) (ws2 := [gO ta 7 [.ref q_8, .int 0], gI g q_8 200 (fun _ => 0)]) F hK hP hD hS i_X7_init_X7 tyX7 tyX7_ok nmX7 0 rfl rfl 0 (by decide) k_X7_init_f9 rfl hnm rfl (v := .ref q_8) rfl rfl (Nat.le_of_ble_eq_true rfl) rfl dX7_init_10 (fun H locs hP hD hS => ?_)
  exact hret _ _ _ _ q_8 dX7_init_13 (trivial) hP hD hS

def byt (v : Int32) (s : Nat) : Nat := v.toBitVec.toNat / 2 ^ s % 256
theorem byt_lt (v : Int32) (s : Nat) : byt v s < 256 := Nat.mod_lt _ (by decide)
theorem byt_u (v d : Int32) (s : Nat) (hs : ((d.toUInt32 &&& Int32.toUInt32 31).toBitVec % 32).toNat = s) : (v.toUInt32 >>> (d.toUInt32 &&& Int32.toUInt32 31)).toInt32 &&& 255 = nI (byt v s) := by
  rw [pk_and _ (m := 255) 8 (by decide), pk_ushr v d s hs]
  rfl
/-- the tape with four bytes more -/
def app4 (T : Nat → Nat) (n : Nat) (v : Int32) : Nat → Nat := fun k => if k < n then T k else byt v (24 - 8 * (k - n))
theorem app4_lt {T : Nat → Nat} (h : ∀ k, T k < 256) (n : Nat) (v : Int32) : ∀ k, app4 T n v k < 256 := by
  intro k; rw [app4]; split
  · exact h k
  · exact byt_lt _ _
theorem app4_v {T : Nat → Nat} {n : Nat} {v : Int32} {f : Nat → Int32} (h : ∀ k, k < n → f k = nI (T k)) : ∀ k, k < n + 4 → upd (upd (upd (upd f n (nI (byt v 24))) (n + 1) (nI (byt v 16))) (n + 2) (nI (byt v 8))) (n + 3) (nI (byt v 0)) k = nI (app4 T n v k) := by
  intro k hk
  rw [app4]
  by_cases h0 : k < n
  · rw [if_pos h0, pk_un (by omega), pk_un (by omega), pk_un (by omega), pk_un (by omega)]; exact h k h0
  · rw [if_neg h0]
    rcases (show k = n ∨ k = n + 1 ∨ k = n + 2 ∨ k = n + 3 by omega) with rfl | rfl | rfl | rfl
    · rw [pk_un (by omega), pk_un (by omega), pk_un (by omega), pk_us, show 24 - 8 * (k - k) = 24 by omega]
    · rw [pk_un (by omega), pk_un (by omega), pk_us, show 24 - 8 * (n + 1 - n) = 16 by omega]
    · rw [pk_un (by omega), pk_us, show 24 - 8 * (n + 2 - n) = 8 by omega]
    · rw [pk_us, show 24 - 8 * (n + 3 - n) = 0 by omega]
abbrev rm_X7_append : Room := { frames := 0, cells := 0, slots := 0, locals := 0 }
theorem i_X7_append_X7 : ∀ w ∈ wsX70, w ∈ wsX7_append := by decide +kernel
theorem k_X7_append_f15 : Cond.fieldLink RX7 15 (TX7 1).1 (TX7 1).2.1 (TX7 1).2.2.1 ∈ wsX7_append := by decide +kernel
theorem k_X7_append_f9 : Cond.fieldLink RX7 9 (TX7 0).1 (TX7 0).2.1 (TX7 0).2.2.1 ∈ wsX7_append := by decide +kernel
set_option maxHeartbeats 4000000 in
set_option maxRecDepth 100000 in
theorem c_X7_append (l : Launch) (g : gT) (ta : Nat) (tb : Nat) (tn : Nat) (ft : Nat → Int32) (T : Nat → Nat) (v : Int32) (htn : tn + 4 ≤ 200) (hT : ∀ k, k < tn → ft k = nI (T k)) : CtV l g yX7_append wsX7_append rm_X7_append [.ref ta, .int v] [gO ta 7 [.ref tb, .int (nI tn)], gI g tb 200 ft] (fun (ft2 : (Nat → Int32)) => ∀ k, k < tn + 4 → ft2 k = nI (app4 T tn v k)) (fun (ft2 : (Nat → Int32)) => [gO ta 7 [.ref tb, .int (nI (tn + 4))], gI g tb 200 ft2]) := by
  refine CtV.of (cc := cX7_append) (maxL := 3) (by decide) rfl (Nat.le_of_ble_eq_true rfl) ?_
  intro p e s m args below meth c A Q hnm F hK hA hP hD hS hret ls hl
  have hx := F.1
  have hb := F.2.1
  have hl : lv_has ls 3 [(0, .ref ta), (1, .int v)] := hl
  refine lv_bipush (v := 24) hx hb dX7_append_0 (by decide) ?_
  refine lv_istore_n (lv' := [(2, .int 24), (0, .ref ta), (1, .int v)]) hx hb dX7_append_2 rfl hl (by decide) rfl (fun ls hl => ?_)
  refine lv_iload_n hx hb dX7_append_3 rfl (lv_at hl 0 rfl) ?_
  refine lv_if_lt (tgt := 49) hx hb dX7_append_4 (by decide) (fun h => absurd h (by decide)) (fun _ => ?_)
  refine lv_aload_n hx hb dX7_append_7 rfl (lv_at hl 1 rfl) ?_
  refine g_get (C := RX7) (T := TX7) (N := 2) F hK hP i_X7_append_X7 0 rfl rfl 1 (by decide) k_X7_append_f15 (v := .int (nI tn)) rfl dX7_append_8 ?_
  refine lv_sipush (v := 200) hx hb dX7_append_11 (by decide) ?_
  refine n_icmp_ge (a := tn) (b := 200) (tgt := 49) hx hb dX7_append_14 (by decide) (by omega) (by omega) (fun h => absurd h (by omega)) (fun c_14 => ?_)
  refine lv_aload_n hx hb dX7_append_17 rfl (lv_at hl 1 rfl) ?_
  refine g_get (C := RX7) (T := TX7) (N := 2) F hK hP i_X7_append_X7 0 rfl rfl 0 (by decide) k_X7_append_f9 (v := .ref tb) rfl dX7_append_18 ?_
  refine lv_aload_n hx hb dX7_append_21 rfl (lv_at hl 1 rfl) ?_
  refine g_get (C := RX7) (T := TX7) (N := 2) F hK hP i_X7_append_X7 0 rfl rfl 1 (by decide) k_X7_append_f15 (v := .int (nI tn)) rfl dX7_append_22 ?_
  refine lv_iload_n hx hb dX7_append_25 rfl (lv_at hl 2 rfl) ?_
  refine lv_iload_n hx hb dX7_append_26 rfl (lv_at hl 0 rfl) ?_
  refine lv_iushr (v := (v.toUInt32 >>> ((24 : Int32).toUInt32 &&& Int32.toUInt32 31)).toInt32) hx hb dX7_append_27 rfl ?_
  refine lv_sipush (v := 255) hx hb dX7_append_28 (by decide) ?_
  refine lv_iand hx hb dX7_append_31 ?_
  refine g_eqi (y := (nI (byt v 24))) (byt_u v 24 24 (by decide)) ?_
  refine g_iast (i := tn) (ws2 := [gO ta 7 [.ref tb, .int (nI tn)], gI g tb 200 (upd ft tn (nI (byt v 24)))]) hx hb hK hP hD hS 1 rfl (by decide) (by omega) rfl dX7_append_32 (fun H locs hP hD hS => ?_)
  refine lv_aload_n hx hb dX7_append_33 rfl (lv_at hl 1 rfl) ?_
  refine lv_dup hx hb dX7_append_34 rfl ?_
  refine g_get (C := RX7) (T := TX7) (N := 2) F hK hP i_X7_append_X7 0 rfl rfl 1 (by decide) k_X7_append_f15 (v := .int (nI tn)) rfl dX7_append_35 ?_
  refine lv_iconst (v := 1) hx hb dX7_append_38 (by decide) ?_
  refine n_iadd (a := tn) (b := 1) (d := tn + 1) hx hb dX7_append_39 (by omega) ?_
  refine g_put (C := RX7) (T := TX7) (N := 2) (ws2 := [gO ta 7 [.ref tb, .int (nI (tn + 1))], gI g tb 200 (upd ft tn (nI (byt v 24)))]) F hK hP hD hS i_X7_append_X7 tyX7 tyX7_ok nmX7 0 rfl rfl 1 (by decide) k_X7_append_f15 rfl (v := .int (nI (tn + 1))) rfl rfl (Nat.le_of_ble_eq_true rfl) rfl dX7_append_40 (fun H locs hP hD hS => ?_)
  refine lv_iinc (v := 16) (lv' := [(2, .int 16), (0, .ref ta), (1, .int v)]) hx hb dX7_append_43 hl (k := 0) rfl (by decide) (by decide) rfl (fun ls hl => ?_)
  refine lv_goto (tgt := 3) hx hb dX7_append_46 (by decide) ?_
  refine lv_iload_n hx hb dX7_append_3 rfl (lv_at hl 0 rfl) ?_
  refine lv_if_lt (tgt := 49) hx hb dX7_append_4 (by decide) (fun h => absurd h (by decide)) (fun _ => ?_)
  refine lv_aload_n hx hb dX7_append_7 rfl (lv_at hl 1 rfl) ?_
  refine g_get (C := RX7) (T := TX7) (N := 2) F hK hP i_X7_append_X7 0 rfl rfl 1 (by decide) k_X7_append_f15 (v := .int (nI (tn + 1))) rfl dX7_append_8 ?_
  refine lv_sipush (v := 200) hx hb dX7_append_11 (by decide) ?_
  refine n_icmp_ge (a := tn + 1) (b := 200) (tgt := 49) hx hb dX7_append_14 (by decide) (by omega) (by omega) (fun h => absurd h (by omega)) (fun c_14 => ?_)
  refine lv_aload_n hx hb dX7_append_17 rfl (lv_at hl 1 rfl) ?_
  refine g_get (C := RX7) (T := TX7) (N := 2) F hK hP i_X7_append_X7 0 rfl rfl 0 (by decide) k_X7_append_f9 (v := .ref tb) rfl dX7_append_18 ?_
  refine lv_aload_n hx hb dX7_append_21 rfl (lv_at hl 1 rfl) ?_
  refine g_get (C := RX7) (T := TX7) (N := 2) F hK hP i_X7_append_X7 0 rfl rfl 1 (by decide) k_X7_append_f15 (v := .int (nI (tn + 1))) rfl dX7_append_22 ?_
  refine lv_iload_n hx hb dX7_append_25 rfl (lv_at hl 2 rfl) ?_
  refine lv_iload_n hx hb dX7_append_26 rfl (lv_at hl 0 rfl) ?_
  refine lv_iushr (v := (v.toUInt32 >>> ((16 : Int32).toUInt32 &&& Int32.toUInt32 31)).toInt32) hx hb dX7_append_27 rfl ?_
  refine lv_sipush (v := 255) hx hb dX7_append_28 (by decide) ?_
  refine lv_iand hx hb dX7_append_31 ?_
  refine g_eqi (y := (nI (byt v 16))) (byt_u v 16 16 (by decide)) ?_
  refine g_iast (i := tn + 1) (ws2 := [gO ta 7 [.ref tb, .int (nI (tn + 1))], gI g tb 200 (upd (upd ft tn (nI (byt v 24))) (tn + 1) (nI (byt v 16)))]) hx hb hK hP hD hS 1 rfl (by decide) (by omega) rfl dX7_append_32 (fun H locs hP hD hS => ?_)
  refine lv_aload_n hx hb dX7_append_33 rfl (lv_at hl 1 rfl) ?_
  refine lv_dup hx hb dX7_append_34 rfl ?_
  refine g_get (C := RX7) (T := TX7) (N := 2) F hK hP i_X7_append_X7 0 rfl rfl 1 (by decide) k_X7_append_f15 (v := .int (nI (tn + 1))) rfl dX7_append_35 ?_
  refine lv_iconst (v := 1) hx hb dX7_append_38 (by decide) ?_
  refine n_iadd (a := tn + 1) (b := 1) (d := tn + 2) hx hb dX7_append_39 (by omega) ?_
  refine g_put (C := RX7) (T := TX7) (N := 2) (ws2 := [gO ta 7 [.ref tb, .int (nI (tn + 2))], gI g tb 200 (upd (upd ft tn (nI (byt v 24))) (tn + 1) (nI (byt v 16)))]) F hK hP hD hS i_X7_append_X7 tyX7 tyX7_ok nmX7 0 rfl rfl 1 (by decide) k_X7_append_f15 rfl (v := .int (nI (tn + 2))) rfl rfl (Nat.le_of_ble_eq_true rfl) rfl dX7_append_40 (fun H locs hP hD hS => ?_)
  refine lv_iinc (v := 8) (lv' := [(2, .int 8), (0, .ref ta), (1, .int v)]) hx hb dX7_append_43 hl (k := 0) rfl (by decide) (by decide) rfl (fun ls hl => ?_)
  refine lv_goto (tgt := 3) hx hb dX7_append_46 (by decide) ?_
  refine lv_iload_n hx hb dX7_append_3 rfl (lv_at hl 0 rfl) ?_
  refine lv_if_lt (tgt := 49) hx hb dX7_append_4 (by decide) (fun h => absurd h (by decide)) (fun _ => ?_)
  refine lv_aload_n hx hb dX7_append_7 rfl (lv_at hl 1 rfl) ?_
  refine g_get (C := RX7) (T := TX7) (N := 2) F hK hP i_X7_append_X7 0 rfl rfl 1 (by decide) k_X7_append_f15 (v := .int (nI (tn + 2))) rfl dX7_append_8 ?_
  refine lv_sipush (v := 200) hx hb dX7_append_11 (by decide) ?_
  refine n_icmp_ge (a := tn + 2) (b := 200) (tgt := 49) hx hb dX7_append_14 (by decide) (by omega) (by omega) (fun h => absurd h (by omega)) (fun c_14 => ?_)
  refine lv_aload_n hx hb dX7_append_17 rfl (lv_at hl 1 rfl) ?_
  refine g_get (C := RX7) (T := TX7) (N := 2) F hK hP i_X7_append_X7 0 rfl rfl 0 (by decide) k_X7_append_f9 (v := .ref tb) rfl dX7_append_18 ?_
  refine lv_aload_n hx hb dX7_append_21 rfl (lv_at hl 1 rfl) ?_
  refine g_get (C := RX7) (T := TX7) (N := 2) F hK hP i_X7_append_X7 0 rfl rfl 1 (by decide) k_X7_append_f15 (v := .int (nI (tn + 2))) rfl dX7_append_22 ?_
  refine lv_iload_n hx hb dX7_append_25 rfl (lv_at hl 2 rfl) ?_
  refine lv_iload_n hx hb dX7_append_26 rfl (lv_at hl 0 rfl) ?_
  refine lv_iushr (v := (v.toUInt32 >>> ((8 : Int32).toUInt32 &&& Int32.toUInt32 31)).toInt32) hx hb dX7_append_27 rfl ?_
  refine lv_sipush (v := 255) hx hb dX7_append_28 (by decide) ?_
  refine lv_iand hx hb dX7_append_31 ?_
  refine g_eqi (y := (nI (byt v 8))) (byt_u v 8 8 (by decide)) ?_
  refine g_iast (i := tn + 2) (ws2 := [gO ta 7 [.ref tb, .int (nI (tn + 2))], gI g tb 200 (upd (upd (upd ft tn (nI (byt v 24))) (tn + 1) (nI (byt v 16))) (tn + 2) (nI (byt v 8)))]) hx hb hK hP hD hS 1 rfl (by decide) (by omega) rfl dX7_append_32 (fun H locs hP hD hS => ?_)
  refine lv_aload_n hx hb dX7_append_33 rfl (lv_at hl 1 rfl) ?_
  refine lv_dup hx hb dX7_append_34 rfl ?_
  refine g_get (C := RX7) (T := TX7) (N := 2) F hK hP i_X7_append_X7 0 rfl rfl 1 (by decide) k_X7_append_f15 (v := .int (nI (tn + 2))) rfl dX7_append_35 ?_
  refine lv_iconst (v := 1) hx hb dX7_append_38 (by decide) ?_
  refine n_iadd (a := tn + 2) (b := 1) (d := tn + 3) hx hb dX7_append_39 (by omega) ?_
  refine g_put (C := RX7) (T := TX7) (N := 2) (ws2 := [gO ta 7 [.ref tb, .int (nI (tn + 3))], gI g tb 200 (upd (upd (upd ft tn (nI (byt v 24))) (tn + 1) (nI (byt v 16))) (tn + 2) (nI (byt v 8)))]) F hK hP hD hS i_X7_append_X7 tyX7 tyX7_ok nmX7 0 rfl rfl 1 (by decide) k_X7_append_f15 rfl (v := .int (nI (tn + 3))) rfl rfl (Nat.le_of_ble_eq_true rfl) rfl dX7_append_40 (fun H locs hP hD hS => ?_)
  refine lv_iinc (v := 0) (lv' := [(2, .int 0), (0, .ref ta), (1, .int v)]) hx hb dX7_append_43 hl (k := 0) rfl (by decide) (by decide) rfl (fun ls hl => ?_)
  refine lv_goto (tgt := 3) hx hb dX7_append_46 (by decide) ?_
  refine lv_iload_n hx hb dX7_append_3 rfl (lv_at hl 0 rfl) ?_
  refine lv_if_lt (tgt := 49) hx hb dX7_append_4 (by decide) (fun h => absurd h (by decide)) (fun _ => ?_)
  refine lv_aload_n hx hb dX7_append_7 rfl (lv_at hl 1 rfl) ?_
  refine g_get (C := RX7) (T := TX7) (N := 2) F hK hP i_X7_append_X7 0 rfl rfl 1 (by decide) k_X7_append_f15 (v := .int (nI (tn + 3))) rfl dX7_append_8 ?_
  refine lv_sipush (v := 200) hx hb dX7_append_11 (by decide) ?_
  refine n_icmp_ge (a := tn + 3) (b := 200) (tgt := 49) hx hb dX7_append_14 (by decide) (by omega) (by omega) (fun h => absurd h (by omega)) (fun c_14 => ?_)
  refine lv_aload_n hx hb dX7_append_17 rfl (lv_at hl 1 rfl) ?_
  refine g_get (C := RX7) (T := TX7) (N := 2) F hK hP i_X7_append_X7 0 rfl rfl 0 (by decide) k_X7_append_f9 (v := .ref tb) rfl dX7_append_18 ?_
  refine lv_aload_n hx hb dX7_append_21 rfl (lv_at hl 1 rfl) ?_
  refine g_get (C := RX7) (T := TX7) (N := 2) F hK hP i_X7_append_X7 0 rfl rfl 1 (by decide) k_X7_append_f15 (v := .int (nI (tn + 3))) rfl dX7_append_22 ?_
  refine lv_iload_n hx hb dX7_append_25 rfl (lv_at hl 2 rfl) ?_
  refine lv_iload_n hx hb dX7_append_26 rfl (lv_at hl 0 rfl) ?_
  refine lv_iushr (v := (v.toUInt32 >>> ((0 : Int32).toUInt32 &&& Int32.toUInt32 31)).toInt32) hx hb dX7_append_27 rfl ?_
  refine lv_sipush (v := 255) hx hb dX7_append_28 (by decide) ?_
  refine lv_iand hx hb dX7_append_31 ?_
  refine g_eqi (y := (nI (byt v 0))) (byt_u v 0 0 (by decide)) ?_
  refine g_iast (i := tn + 3) (ws2 := [gO ta 7 [.ref tb, .int (nI (tn + 3))], gI g tb 200 (upd (upd (upd (upd ft tn (nI (byt v 24))) (tn + 1) (nI (byt v 16))) (tn + 2) (nI (byt v 8))) (tn + 3) (nI (byt v 0)))]) hx hb hK hP hD hS 1 rfl (by decide) (by omega) rfl dX7_append_32 (fun H locs hP hD hS => ?_)
  refine lv_aload_n hx hb dX7_append_33 rfl (lv_at hl 1 rfl) ?_
  refine lv_dup hx hb dX7_append_34 rfl ?_
  refine g_get (C := RX7) (T := TX7) (N := 2) F hK hP i_X7_append_X7 0 rfl rfl 1 (by decide) k_X7_append_f15 (v := .int (nI (tn + 3))) rfl dX7_append_35 ?_
  refine lv_iconst (v := 1) hx hb dX7_append_38 (by decide) ?_
  refine n_iadd (a := tn + 3) (b := 1) (d := tn + 4) hx hb dX7_append_39 (by omega) ?_
  refine g_put (C := RX7) (T := TX7) (N := 2) (ws2 := [gO ta 7 [.ref tb, .int (nI (tn + 4))], gI g tb 200 (upd (upd (upd (upd ft tn (nI (byt v 24))) (tn + 1) (nI (byt v 16))) (tn + 2) (nI (byt v 8))) (tn + 3) (nI (byt v 0)))]) F hK hP hD hS i_X7_append_X7 tyX7 tyX7_ok nmX7 0 rfl rfl 1 (by decide) k_X7_append_f15 rfl (v := .int (nI (tn + 4))) rfl rfl (Nat.le_of_ble_eq_true rfl) rfl dX7_append_40 (fun H locs hP hD hS => ?_)
  refine lv_iinc (v := (-8)) (lv' := [(2, .int (-8)), (0, .ref ta), (1, .int v)]) hx hb dX7_append_43 hl (k := 0) rfl (by decide) (by decide) rfl (fun ls hl => ?_)
  refine lv_goto (tgt := 3) hx hb dX7_append_46 (by decide) ?_
  refine lv_iload_n hx hb dX7_append_3 rfl (lv_at hl 0 rfl) ?_
  refine lv_if_lt (tgt := 49) hx hb dX7_append_4 (by decide) (fun _ => ?_) (fun h => absurd (by decide) h)
  exact hret _ _ _ _ (upd (upd (upd (upd ft tn (nI (byt v 24))) (tn + 1) (nI (byt v 16))) (tn + 2) (nI (byt v 8))) (tn + 3) (nI (byt v 0))) dX7_append_49 (app4_v hT) hP hD hS

abbrev rm_X7_coordinateAt : Room := { frames := 0, cells := 0, slots := 0, locals := 0 }
theorem i_X7_coordinateAt_X7 : ∀ w ∈ wsX70, w ∈ wsX7_coordinateAt := by decide +kernel
theorem k_X7_coordinateAt_f9 : Cond.fieldLink RX7 9 (TX7 0).1 (TX7 0).2.1 (TX7 0).2.2.1 ∈ wsX7_coordinateAt := by decide +kernel
set_option maxHeartbeats 4000000 in
set_option maxRecDepth 100000 in
theorem c_X7_coordinateAt (l : Launch) (g : gT) (ta : Nat) (tb : Nat) (tn : Nat) (ft : Nat → Int32) (T : Nat → Nat) (a : Nat) (htn : tn ≤ 200) (hT : ∀ k, k < tn → ft k = nI (T k)) (ha : a + 1 < tn) : CtI l g yX7_coordinateAt wsX7_coordinateAt rm_X7_coordinateAt [.ref ta, .int (nI a)] [gO ta 7 [.ref tb, .int (nI tn)], gI g tb 200 ft] (fun (r : Int32) (_ : Unit) => r = nI (T a * 256 + T (a + 1))) (fun (_ : Unit) => [gO ta 7 [.ref tb, .int (nI tn)], gI g tb 200 ft]) := by
  refine CtI.of (cc := cX7_coordinateAt) (maxL := 2) (ret := .int) (by decide) rfl (Nat.le_of_ble_eq_true rfl) ?_
  intro p e s m args below meth c A Q hnm F hK hA hP hD hS hret ls hl
  have hx := F.1
  have hb := F.2.1
  have hl : lv_has ls 2 [(0, .ref ta), (1, .int (nI a))] := hl
  refine lv_aload_n hx hb dX7_coordinateAt_0 rfl (lv_at hl 0 rfl) ?_
  refine g_get (C := RX7) (T := TX7) (N := 2) F hK hP i_X7_coordinateAt_X7 0 rfl rfl 0 (by decide) k_X7_coordinateAt_f9 (v := .ref tb) rfl dX7_coordinateAt_1 ?_
  refine lv_iload_n hx hb dX7_coordinateAt_4 rfl (lv_at hl 1 rfl) ?_
  refine g_iald (i := a) (v := (nI (T a))) hx hb hK hP 1 rfl (by decide) (by omega) (hT a (by omega)) dX7_coordinateAt_5 ?_
  refine lv_sipush (v := 256) hx hb dX7_coordinateAt_6 (by decide) ?_
  refine n_imul (a := T a) (b := 256) (d := (T a) * 256) hx hb dX7_coordinateAt_9 (rfl) ?_
  refine lv_aload_n hx hb dX7_coordinateAt_10 rfl (lv_at hl 0 rfl) ?_
  refine g_get (C := RX7) (T := TX7) (N := 2) F hK hP i_X7_coordinateAt_X7 0 rfl rfl 0 (by decide) k_X7_coordinateAt_f9 (v := .ref tb) rfl dX7_coordinateAt_11 ?_
  refine lv_iload_n hx hb dX7_coordinateAt_14 rfl (lv_at hl 1 rfl) ?_
  refine lv_iconst (v := 1) hx hb dX7_coordinateAt_15 (by decide) ?_
  refine n_iadd (a := a) (b := 1) (d := a + 1) hx hb dX7_coordinateAt_16 (by omega) ?_
  refine g_iald (i := a + 1) (v := (nI (T (a + 1)))) hx hb hK hP 1 rfl (by decide) (by omega) (hT (a + 1) (by omega)) dX7_coordinateAt_17 ?_
  refine n_iadd (a := (T a) * 256) (b := T (a + 1)) (d := ((T a) * 256) + (T (a + 1))) hx hb dX7_coordinateAt_18 (by omega) ?_
  exact hret _ _ _ _ (nI (((T a) * 256) + (T (a + 1)))) () dX7_coordinateAt_19 rfl (rfl) hP hD hS

def corN (T : Nat → Nat) (a : Nat) : Nat := T a * 256 + T (a + 1)
/-- the tape tells a LINE -/
def linP (T : Nat → Nat) (n : Nat) : Prop := (n % 4 = 0 ∧ 4 ≤ n / 4 ∧ n / 4 ≤ 48) ∧ ∀ k, 2 * k < n → corN T (2 * k) ≤ 511
def bnkP (T : Nat → Nat) (n : Nat) : Prop := n = 64 ∧ ∀ k, k < 64 → T k ≤ 9
theorem isW_n {a b v : Nat} (ha : a < 2 ^ 31) (hb : b < 2 ^ 31) (hv : v < 2 ^ 31) : isW (nI a) (nI b) (nI v) ↔ a ≤ v ∧ v ≤ b := by
  rw [isW, nI_ltI hv ha, nI_ltI hb hv]; omega
abbrev rm_X7_holdsLine : Room := { frames := 1, cells := 0, slots := 0, locals := 22 }
theorem i_X7_holdsLine_X7 : ∀ w ∈ wsX70, w ∈ wsX7_holdsLine := by decide +kernel
theorem k_X7_holdsLine_f15 : Cond.fieldLink RX7 15 (TX7 1).1 (TX7 1).2.1 (TX7 1).2.2.1 ∈ wsX7_holdsLine := by decide +kernel
theorem k_X7_holdsLine_z19 : Cond.initialized yX8_isWithin.cls ∈ wsX7_holdsLine := by decide +kernel
theorem k_X7_holdsLine_t19 : Cond.static yX8_isWithin ∈ wsX7_holdsLine := by decide +kernel
set_option maxHeartbeats 4000000 in
set_option maxRecDepth 100000 in
theorem c_X7_holdsLine (l : Launch) (g : gT) (ta : Nat) (tb : Nat) (tn : Nat) (ft : Nat → Int32) (T : Nat → Nat) (htn : tn ≤ 200) (hT : ∀ k, k < tn → ft k = nI (T k)) (h256 : ∀ k, T k < 256) : CtI l g yX7_holdsLine wsX7_holdsLine rm_X7_holdsLine [.ref ta] [gO ta 7 [.ref tb, .int (nI tn)], gI g tb 200 ft] (fun (r : Int32) (_ : Unit) => (r = 1 ∧ linP T tn) ∨ (r = 0 ∧ ¬ linP T tn)) (fun (_ : Unit) => [gO ta 7 [.ref tb, .int (nI tn)], gI g tb 200 ft]) := by
  refine CtI.of (cc := cX7_holdsLine) (maxL := 2) (ret := .boolean) (by decide) rfl (Nat.le_of_ble_eq_true rfl) ?_
  intro p e s m args below meth c A Q hnm F hK hA hP hD hS hret ls hl
  have hx := F.1
  have hb := F.2.1
  have hl : lv_has ls 2 [(0, .ref ta)] := hl
  refine lv_aload_n hx hb dX7_holdsLine_0 rfl (lv_at hl 0 rfl) ?_
  refine g_get (C := RX7) (T := TX7) (N := 2) F hK hP i_X7_holdsLine_X7 0 rfl rfl 1 (by decide) k_X7_holdsLine_f15 (v := .int (nI tn)) rfl dX7_holdsLine_1 ?_
  refine lv_iconst (v := 4) hx hb dX7_holdsLine_4 (by decide) ?_
  refine n_irem (a := tn) (b := 4) (d := tn % 4) hx hb dX7_holdsLine_5 (by omega) (by decide) (by decide) (rfl) ?_
  refine n_if_ne (a := tn % 4) (tgt := 24) hx hb dX7_holdsLine_6 (by decide) (by omega) (fun c_6 => ?_) (fun c_6 => ?_)
  · refine lv_iconst (v := 0) hx hb dX7_holdsLine_24 (by decide) ?_
    exact hret _ _ _ _ 0 () dX7_holdsLine_25 rfl (Or.inr ⟨rfl, fun z => c_6 z.1.1⟩) hP hD hS
  · refine lv_aload_n hx hb dX7_holdsLine_9 rfl (lv_at hl 0 rfl) ?_
    refine g_get (C := RX7) (T := TX7) (N := 2) F hK hP i_X7_holdsLine_X7 0 rfl rfl 1 (by decide) k_X7_holdsLine_f15 (v := .int (nI tn)) rfl dX7_holdsLine_10 ?_
    refine lv_iconst (v := 4) hx hb dX7_holdsLine_13 (by decide) ?_
    refine n_idiv (a := tn) (b := 4) (d := tn / 4) hx hb dX7_holdsLine_14 (by omega) (by decide) (by decide) (rfl) ?_
    refine lv_iconst (v := 4) hx hb dX7_holdsLine_15 (by decide) ?_
    refine lv_bipush (v := 48) hx hb dX7_holdsLine_16 (by decide) ?_
    refine g_NI (wr := [gO ta 7 [.ref tb, .int (nI tn)], gI g tb 200 ft]) (As := [.int (nI (tn / 4)), .int 4, .int 48]) (rest := []) (n := 3) F (c_X8_isWithin l g (nI (tn / 4)) 4 48) gX7_holdsLine_X8_isWithin_n19 rfl (by decide) k_X7_holdsLine_z19 k_X7_holdsLine_t19 (by decide) ⟨by decide, by decide⟩ rfl hl.1 rfl (Nat.le_of_ble_eq_true rfl) dX7_holdsLine_18 ⟨Nat.le_of_ble_eq_true rfl, Nat.le_of_ble_eq_true rfl⟩ hK hP hD hS hA [] [0, 1] (by decide) rfl rfl (by decide) (by decide) (fun r_18 u_18 H locs hw_18 hP hD hS => ?_)
    have hP : gP g [gO ta 7 [.ref tb, .int (nI tn)], gI g tb 200 ft] H := hP
    have hD : va_D A [gO ta 7 [.ref tb, .int (nI tn)], gI g tb 200 ft] := hD
    rcases hw_18 with ⟨rfl, b_18⟩ | ⟨rfl, b_18⟩
    · refine lv_if_ne (tgt := 26) hx hb dX7_holdsLine_21 (by decide) (fun _ => ?_) (fun h => absurd h (by decide))
      have hw4 := (isW_n (a := 4) (b := 48) (by decide) (by decide) (by omega)).mp b_18
      refine lv_iconst (v := 0) hx hb dX7_holdsLine_26 (by decide) ?_
      refine lv_istore_n (lv' := [(1, .int 0), (0, .ref ta)]) hx hb dX7_holdsLine_27 rfl hl (by decide) rfl (fun ls hl => ?_)
      have L28 : ∀ (fuel : Nat) (a : Nat) (k : Nat) (ls : Array Slot) (H : Heap) (locs : List Loc), 200 - a < fuel → (a = 2 * k) → (a ≤ tn) → (∀ j, j < k → corN T (2 * j) ≤ 511) → lv_has ls 2 [(0, .ref ta), (1, .int (nI a))] → gP g [gO ta 7 [.ref tb, .int (nI tn)], gI g tb 200 ft] H → va_D A [gO ta 7 [.ref tb, .int (nI tn)], gI g tb 200 ft] → va_S A s.heap H locs → W p l e rm_X7_holdsLine s m args below meth c H locs 0 0 Q (F0 m 28 ls []) := by
        intro fuel
        induction fuel with
        | zero => intro a k _ _ _ hk; exact absurd hk (Nat.not_lt_zero _)
        | succ fuel_28 ih_28 =>
          intro a k ls H locs hk_28 ha hat h1 hl hP hD hS
          refine lv_iload_n hx hb dX7_holdsLine_28 rfl (lv_at hl 1 rfl) ?_
          refine lv_aload_n hx hb dX7_holdsLine_29 rfl (lv_at hl 0 rfl) ?_
          refine g_get (C := RX7) (T := TX7) (N := 2) F hK hP i_X7_holdsLine_X7 0 rfl rfl 1 (by decide) k_X7_holdsLine_f15 (v := .int (nI tn)) rfl dX7_holdsLine_30 ?_
          refine n_icmp_ge (a := a) (b := tn) (tgt := 55) hx hb dX7_holdsLine_33 (by decide) (by omega) (by omega) (fun c_33 => ?_) (fun c_33 => ?_)
          · refine lv_iconst (v := 1) hx hb dX7_holdsLine_55 (by decide) ?_
            exact hret _ _ _ _ 1 () dX7_holdsLine_56 rfl (Or.inl ⟨rfl, ⟨c_6, hw4⟩, fun j hj => h1 j (by omega)⟩) hP hD hS
          · refine lv_aload_n hx hb dX7_holdsLine_36 rfl (lv_at hl 0 rfl) ?_
            refine lv_iload_n hx hb dX7_holdsLine_37 rfl (lv_at hl 1 rfl) ?_
            refine g_VI (wr := []) (As := [.int (nI a)]) (rest := []) (n := 1) F (c_X7_coordinateAt l g ta tb tn ft T a (by omega) (hT) (by omega)) gX7_holdsLine_X7_coordinateAt rfl (by decide) ⟨by decide, by decide⟩ 0 7 rfl rfl rfl rfl hl.1 rfl (Nat.le_of_ble_eq_true rfl) dX7_holdsLine_38 ⟨Nat.le_of_ble_eq_true rfl, Nat.le_of_ble_eq_true rfl⟩ hK hP hD hS hA [0, 1] [] (by decide) rfl rfl (by decide) (by decide) (fun r_38 u_38 H locs hw_38 hP hD hS => ?_)
            have hP : gP g [gO ta 7 [.ref tb, .int (nI tn)], gI g tb 200 ft] H := hP
            have hD : va_D A [gO ta 7 [.ref tb, .int (nI tn)], gI g tb 200 ft] := hD
            obtain rfl := hw_38
            have hq1 := h256 a
            have hq2 := h256 (a + 1)
            refine lv_sipush (v := 511) hx hb dX7_holdsLine_41 (by decide) ?_
            refine n_icmp_le (a := T a * 256 + T (a + 1)) (b := 511) (tgt := 49) hx hb dX7_holdsLine_44 (by decide) (by omega) (by omega) (fun c_44 => ?_) (fun c_44 => ?_)
            · refine lv_iinc (v := (nI (a + 2))) (lv' := [(1, .int (nI (a + 2))), (0, .ref ta)]) hx hb dX7_holdsLine_49 hl (k := 1) rfl (g_inc a 2 (by decide)) (by decide) rfl (fun ls hl => ?_)
              refine lv_goto (tgt := 28) hx hb dX7_holdsLine_52 (by decide) ?_
              exact ih_28 (a + 2) (k + 1) ls _ _ (by omega) (by omega) (by omega) (fun j hj => by by_cases e : j = k; (subst e; rw [corN, ← ha]; exact c_44); exact h1 j (by omega)) (lv_sub hl [1, 0] rfl) hP hD hS
            · refine lv_iconst (v := 0) hx hb dX7_holdsLine_47 (by decide) ?_
              exact hret _ _ _ _ 0 () dX7_holdsLine_48 rfl (Or.inr ⟨rfl, fun z => absurd (z.2 k (by omega)) (by rw [corN, ← ha]; omega)⟩) hP hD hS
      exact L28 ((200 - 0) + 1) 0 0 ls _ _ (Nat.lt_succ_self _) (rfl) (by omega) (fun j hj => absurd hj (Nat.not_lt_zero j)) (lv_sub hl [1, 0] rfl) hP hD hS
    · refine lv_if_ne (tgt := 26) hx hb dX7_holdsLine_21 (by decide) (fun h => absurd (by decide) h) (fun _ => ?_)
      refine lv_iconst (v := 0) hx hb dX7_holdsLine_24 (by decide) ?_
      exact hret _ _ _ _ 0 () dX7_holdsLine_25 rfl (Or.inr ⟨rfl, fun z => b_18 ((isW_n (a := 4) (b := 48) (by decide) (by decide) (by omega)).mpr z.1.2)⟩) hP hD hS

def linX (T : Nat → Nat) : Nat → Int32 := fun k => nI (corN T (4 * k))
def linY (T : Nat → Nat) : Nat → Int32 := fun k => nI (corN T (4 * k + 2))
abbrev rm_X7_copyLineTo : Room := { frames := 1, cells := 0, slots := 0, locals := 22 }
theorem i_X7_copyLineTo_X3 : ∀ w ∈ wsX30, w ∈ wsX7_copyLineTo := by decide +kernel
theorem k_X7_copyLineTo_f27 : Cond.fieldLink RX7 27 (TX3 2).1 (TX3 2).2.1 (TX3 2).2.2.1 ∈ wsX7_copyLineTo := by decide +kernel
theorem i_X7_copyLineTo_X7 : ∀ w ∈ wsX70, w ∈ wsX7_copyLineTo := by decide +kernel
theorem k_X7_copyLineTo_f15 : Cond.fieldLink RX7 15 (TX7 1).1 (TX7 1).2.1 (TX7 1).2.2.1 ∈ wsX7_copyLineTo := by decide +kernel
set_option maxHeartbeats 4000000 in
set_option maxRecDepth 100000 in
theorem c_X7_copyLineTo (l : Launch) (g : gT) (ta : Nat) (tb : Nat) (tn : Nat) (ft : Nat → Int32) (T : Nat → Nat) (po : Nat) (ax : Nat) (ay : Nat) (n : Nat) (fx : Nat → Int32) (fy : Nat → Int32) (htn : tn ≤ 200) (hT : ∀ k, k < tn → ft k = nI (T k)) (h256 : ∀ k, T k < 256) (hl1 : tn % 4 = 0) (hl2 : tn / 4 ≤ 48) : CtV l g yX7_copyLineTo wsX7_copyLineTo rm_X7_copyLineTo [.ref ta, .ref po] [gO ta 7 [.ref tb, .int (nI tn)], gI g tb 200 ft, gO po 3 [.ref ax, .ref ay, .int (nI n)], gI g ax 48 fx, gI g ay 48 fy] (fun (u : (Nat → Int32) × (Nat → Int32)) => (∀ k, k < tn / 4 → u.1 k = linX T k) ∧ (∀ k, k < tn / 4 → u.2 k = linY T k)) (fun (u : (Nat → Int32) × (Nat → Int32)) => [gO ta 7 [.ref tb, .int (nI tn)], gI g tb 200 ft, gO po 3 [.ref ax, .ref ay, .int (nI (tn / 4))], gI g ax 48 u.1, gI g ay 48 u.2]) := by
  refine CtV.of (cc := cX7_copyLineTo) (maxL := 3) (by decide) rfl (Nat.le_of_ble_eq_true rfl) ?_
  intro p e s m args below meth c A Q hnm F hK hA hP hD hS hret ls hl
  have hx := F.1
  have hb := F.2.1
  have hl : lv_has ls 3 [(0, .ref ta), (1, .ref po)] := hl
  refine lv_aload_n hx hb dX7_copyLineTo_0 rfl (lv_at hl 1 rfl) ?_
  refine lv_iconst (v := 0) hx hb dX7_copyLineTo_1 (by decide) ?_
  refine g_put (C := RX3) (T := TX3) (N := 3) (ws2 := [gO ta 7 [.ref tb, .int (nI tn)], gI g tb 200 ft, gO po 3 [.ref ax, .ref ay, .int 0], gI g ax 48 fx, gI g ay 48 fy]) F hK hP hD hS i_X7_copyLineTo_X3 tyX3 tyX3_ok nmX3 2 rfl rfl 2 (by decide) k_X7_copyLineTo_f27 rfl (v := .int 0) rfl rfl (Nat.le_of_ble_eq_true rfl) rfl dX7_copyLineTo_2 (fun H locs hP hD hS => ?_)
  refine lv_iconst (v := 0) hx hb dX7_copyLineTo_5 (by decide) ?_
  refine lv_istore_n (lv' := [(2, .int 0), (0, .ref ta), (1, .ref po)]) hx hb dX7_copyLineTo_6 rfl hl (by decide) rfl (fun ls hl => ?_)
  have L7 : ∀ (fuel : Nat) (a : Nat) (k : Nat) (hx_ : Nat → Int32) (hy_ : Nat → Int32) (ls : Array Slot) (H : Heap) (locs : List Loc), 200 - a < fuel → (a = 4 * k) → (4 * k ≤ tn) → (∀ j, j < k → hx_ j = linX T j) → (∀ j, j < k → hy_ j = linY T j) → lv_has ls 3 [(0, .ref ta), (1, .ref po), (2, .int (nI a))] → gP g [gO ta 7 [.ref tb, .int (nI tn)], gI g tb 200 ft, gO po 3 [.ref ax, .ref ay, .int (nI k)], gI g ax 48 hx_, gI g ay 48 hy_] H → va_D A [gO ta 7 [.ref tb, .int (nI tn)], gI g tb 200 ft, gO po 3 [.ref ax, .ref ay, .int (nI k)], gI g ax 48 hx_, gI g ay 48 hy_] → va_S A s.heap H locs → W p l e rm_X7_copyLineTo s m args below meth c H locs 0 0 Q (F0 m 7 ls []) := by
    intro fuel
    induction fuel with
    | zero => intro a k hx_ hy_ _ _ _ hk; exact absurd hk (Nat.not_lt_zero _)
    | succ fuel_7 ih_7 =>
      intro a k hx_ hy_ ls H locs hk_7 ha hk4 h1 h2 hl hP hD hS
      refine lv_iload_n hx hb dX7_copyLineTo_7 rfl (lv_at hl 2 rfl) ?_
      refine lv_iconst (v := 4) hx hb dX7_copyLineTo_8 (by decide) ?_
      refine n_iadd (a := a) (b := 4) (d := a + 4) hx hb dX7_copyLineTo_9 (by omega) ?_
      refine lv_aload_n hx hb dX7_copyLineTo_10 rfl (lv_at hl 0 rfl) ?_
      refine g_get (C := RX7) (T := TX7) (N := 2) F hK hP i_X7_copyLineTo_X7 0 rfl rfl 1 (by decide) k_X7_copyLineTo_f15 (v := .int (nI tn)) rfl dX7_copyLineTo_11 ?_
      refine n_icmp_gt (a := a + 4) (b := tn) (tgt := 39) hx hb dX7_copyLineTo_14 (by decide) (by omega) (by omega) (fun c_14 => ?_) (fun c_14 => ?_)
      · obtain rfl : tn / 4 = k := by omega
        exact hret _ _ _ _ (hx_, hy_) dX7_copyLineTo_39 (⟨h1, h2⟩) hP hD hS
      · refine lv_aload_n hx hb dX7_copyLineTo_17 rfl (lv_at hl 1 rfl) ?_
        refine lv_aload_n hx hb dX7_copyLineTo_18 rfl (lv_at hl 0 rfl) ?_
        refine lv_iload_n hx hb dX7_copyLineTo_19 rfl (lv_at hl 2 rfl) ?_
        refine g_VI (wr := [gO po 3 [.ref ax, .ref ay, .int (nI k)], gI g ax 48 hx_, gI g ay 48 hy_]) (As := [.int (nI a)]) (rest := [.ref po]) (n := 1) F (c_X7_coordinateAt l g ta tb tn ft T a (by omega) (hT) (by omega)) gX7_copyLineTo_X7_coordinateAt rfl (by decide) ⟨by decide, by decide⟩ 0 7 rfl rfl rfl rfl hl.1 rfl (Nat.le_of_ble_eq_true rfl) dX7_copyLineTo_20 ⟨Nat.le_of_ble_eq_true rfl, Nat.le_of_ble_eq_true rfl⟩ hK hP hD hS hA [0, 1] [2, 3, 4] (by decide) rfl rfl (by decide) (by decide) (fun r_20 u_20 H locs hw_20 hP hD hS => ?_)
        have hP : gP g [gO po 3 [.ref ax, .ref ay, .int (nI k)], gI g ax 48 hx_, gI g ay 48 hy_, gO ta 7 [.ref tb, .int (nI tn)], gI g tb 200 ft] H := hP
        have hD : va_D A [gO po 3 [.ref ax, .ref ay, .int (nI k)], gI g ax 48 hx_, gI g ay 48 hy_, gO ta 7 [.ref tb, .int (nI tn)], gI g tb 200 ft] := hD
        obtain rfl := hw_20
        refine lv_aload_n hx hb dX7_copyLineTo_23 rfl (lv_at hl 0 rfl) ?_
        refine lv_iload_n hx hb dX7_copyLineTo_24 rfl (lv_at hl 2 rfl) ?_
        refine lv_iconst (v := 2) hx hb dX7_copyLineTo_25 (by decide) ?_
        refine n_iadd (a := a) (b := 2) (d := a + 2) hx hb dX7_copyLineTo_26 (by omega) ?_
        refine g_VI (wr := [gO po 3 [.ref ax, .ref ay, .int (nI k)], gI g ax 48 hx_, gI g ay 48 hy_]) (As := [.int (nI (a + 2))]) (rest := [.int (nI (T a * 256 + T (a + 1))), .ref po]) (n := 1) F (c_X7_coordinateAt l g ta tb tn ft T (a + 2) (by omega) (hT) (by omega)) gX7_copyLineTo_X7_coordinateAt rfl (by decide) ⟨by decide, by decide⟩ 3 7 rfl rfl rfl rfl hl.1 rfl (Nat.le_of_ble_eq_true rfl) dX7_copyLineTo_27 ⟨Nat.le_of_ble_eq_true rfl, Nat.le_of_ble_eq_true rfl⟩ hK hP hD hS hA [3, 4] [0, 1, 2] (by decide) rfl rfl (by decide) (by decide) (fun r_27 u_27 H locs hw_27 hP hD hS => ?_)
        have hP : gP g [gO po 3 [.ref ax, .ref ay, .int (nI k)], gI g ax 48 hx_, gI g ay 48 hy_, gO ta 7 [.ref tb, .int (nI tn)], gI g tb 200 ft] H := hP
        have hD : va_D A [gO po 3 [.ref ax, .ref ay, .int (nI k)], gI g ax 48 hx_, gI g ay 48 hy_, gO ta 7 [.ref tb, .int (nI tn)], gI g tb 200 ft] := hD
        obtain rfl := hw_27
        refine g_VV (wr := [gO ta 7 [.ref tb, .int (nI tn)], gI g tb 200 ft]) (As := [.int (nI (T a * 256 + T (a + 1))), .int (nI (T (a + 2) * 256 + T ((a + 2) + 1)))]) (rest := []) (n := 2) F (c_X3_add l g po ax ay k hx_ hy_ (nI (T a * 256 + T (a + 1))) (nI (T (a + 2) * 256 + T ((a + 2) + 1))) (by omega)) gX7_copyLineTo_X3_add rfl (by decide) ⟨by decide, by decide⟩ 0 3 rfl rfl rfl rfl hl.1 rfl (Nat.le_of_ble_eq_true rfl) dX7_copyLineTo_30 ⟨Nat.le_of_ble_eq_true rfl, Nat.le_of_ble_eq_true rfl⟩ hK hP hD hS hA [0, 1, 2] [3, 4] (by decide) rfl rfl (by decide) (by decide) (fun u_30 H locs hw_30 hP hD hS => ?_)
        have hP : gP g [gO ta 7 [.ref tb, .int (nI tn)], gI g tb 200 ft, gO po 3 [.ref ax, .ref ay, .int (nI (k + 1))], gI g ax 48 (upd hx_ k (nI (T a * 256 + T (a + 1)))), gI g ay 48 (upd hy_ k (nI (T (a + 2) * 256 + T ((a + 2) + 1))))] H := hP
        have hD : va_D A [gO ta 7 [.ref tb, .int (nI tn)], gI g tb 200 ft, gO po 3 [.ref ax, .ref ay, .int (nI (k + 1))], gI g ax 48 (upd hx_ k (nI (T a * 256 + T (a + 1)))), gI g ay 48 (upd hy_ k (nI (T (a + 2) * 256 + T ((a + 2) + 1))))] := hD
        refine lv_iinc (v := (nI (a + 4))) (lv' := [(2, .int (nI (a + 4))), (0, .ref ta), (1, .ref po)]) hx hb dX7_copyLineTo_33 hl (k := 2) rfl (g_inc a 4 (by decide)) (by decide) rfl (fun ls hl => ?_)
        refine lv_goto (tgt := 7) hx hb dX7_copyLineTo_36 (by decide) ?_
        exact ih_7 (a + 4) (k + 1) (upd hx_ k (nI (T a * 256 + T (a + 1)))) (upd hy_ k (nI (T (a + 2) * 256 + T ((a + 2) + 1)))) ls _ _ (by omega) (by omega) (by omega) (upd_c h1 (by rw [linX, corN, ← ha])) (upd_c h2 (by rw [linY, corN, ← ha])) (lv_sub hl [1, 2, 0] rfl) hP hD hS
  exact L7 ((200 - 0) + 1) 0 0 fx fy ls _ _ (Nat.lt_succ_self _) (rfl) (by omega) (fun j hj => absurd hj (Nat.not_lt_zero j)) (fun j hj => absurd hj (Nat.not_lt_zero j)) (lv_sub hl [1, 2, 0] rfl) hP hD hS

abbrev rm_X7_holdsBanks : Room := { frames := 0, cells := 0, slots := 0, locals := 0 }
theorem i_X7_holdsBanks_X7 : ∀ w ∈ wsX70, w ∈ wsX7_holdsBanks := by decide +kernel
theorem k_X7_holdsBanks_f15 : Cond.fieldLink RX7 15 (TX7 1).1 (TX7 1).2.1 (TX7 1).2.2.1 ∈ wsX7_holdsBanks := by decide +kernel
theorem k_X7_holdsBanks_f9 : Cond.fieldLink RX7 9 (TX7 0).1 (TX7 0).2.1 (TX7 0).2.2.1 ∈ wsX7_holdsBanks := by decide +kernel
set_option maxHeartbeats 4000000 in
set_option maxRecDepth 100000 in
theorem c_X7_holdsBanks (l : Launch) (g : gT) (ta : Nat) (tb : Nat) (tn : Nat) (ft : Nat → Int32) (T : Nat → Nat) (htn : tn ≤ 200) (hT : ∀ k, k < tn → ft k = nI (T k)) (h256 : ∀ k, T k < 256) : CtI l g yX7_holdsBanks wsX7_holdsBanks rm_X7_holdsBanks [.ref ta] [gO ta 7 [.ref tb, .int (nI tn)], gI g tb 200 ft] (fun (r : Int32) (_ : Unit) => (r = 1 ∧ bnkP T tn) ∨ (r = 0 ∧ ¬ bnkP T tn)) (fun (_ : Unit) => [gO ta 7 [.ref tb, .int (nI tn)], gI g tb 200 ft]) := by
  refine CtI.of (cc := cX7_holdsBanks) (maxL := 2) (ret := .boolean) (by decide) rfl (Nat.le_of_ble_eq_true rfl) ?_
  intro p e s m args below meth c A Q hnm F hK hA hP hD hS hret ls hl
  have hx := F.1
  have hb := F.2.1
  have hl : lv_has ls 2 [(0, .ref ta)] := hl
  refine lv_aload_n hx hb dX7_holdsBanks_0 rfl (lv_at hl 0 rfl) ?_
  refine g_get (C := RX7) (T := TX7) (N := 2) F hK hP i_X7_holdsBanks_X7 0 rfl rfl 1 (by decide) k_X7_holdsBanks_f15 (v := .int (nI tn)) rfl dX7_holdsBanks_1 ?_
  refine lv_bipush (v := 64) hx hb dX7_holdsBanks_4 (by decide) ?_
  refine n_icmp_eq (a := tn) (b := 64) (tgt := 11) hx hb dX7_holdsBanks_6 (by decide) (by omega) (by omega) (fun c_6 => ?_) (fun c_6 => ?_)
  · refine lv_iconst (v := 0) hx hb dX7_holdsBanks_11 (by decide) ?_
    refine lv_istore_n (lv' := [(1, .int 0), (0, .ref ta)]) hx hb dX7_holdsBanks_12 rfl hl (by decide) rfl (fun ls hl => ?_)
    have L13 : ∀ (fuel : Nat) (i : Nat) (ls : Array Slot) (H : Heap) (locs : List Loc), tn - i < fuel → (i ≤ tn) → (∀ k, k < i → T k ≤ 9) → lv_has ls 2 [(0, .ref ta), (1, .int (nI i))] → gP g [gO ta 7 [.ref tb, .int (nI tn)], gI g tb 200 ft] H → va_D A [gO ta 7 [.ref tb, .int (nI tn)], gI g tb 200 ft] → va_S A s.heap H locs → W p l e rm_X7_holdsBanks s m args below meth c H locs 0 0 Q (F0 m 13 ls []) := by
      intro fuel
      induction fuel with
      | zero => intro i _ _ _ hk; exact absurd hk (Nat.not_lt_zero _)
      | succ fuel_13 ih_13 =>
        intro i ls H locs hk_13 hi h1 hl hP hD hS
        refine lv_iload_n hx hb dX7_holdsBanks_13 rfl (lv_at hl 1 rfl) ?_
        refine lv_aload_n hx hb dX7_holdsBanks_14 rfl (lv_at hl 0 rfl) ?_
        refine g_get (C := RX7) (T := TX7) (N := 2) F hK hP i_X7_holdsBanks_X7 0 rfl rfl 1 (by decide) k_X7_holdsBanks_f15 (v := .int (nI tn)) rfl dX7_holdsBanks_15 ?_
        refine n_icmp_ge (a := i) (b := tn) (tgt := 40) hx hb dX7_holdsBanks_18 (by decide) (by omega) (by omega) (fun c_18 => ?_) (fun c_18 => ?_)
        · refine lv_iconst (v := 1) hx hb dX7_holdsBanks_40 (by decide) ?_
          exact hret _ _ _ _ 1 () dX7_holdsBanks_41 rfl (Or.inl ⟨rfl, c_6, fun k hk => h1 k (by omega)⟩) hP hD hS
        · refine lv_aload_n hx hb dX7_holdsBanks_21 rfl (lv_at hl 0 rfl) ?_
          refine g_get (C := RX7) (T := TX7) (N := 2) F hK hP i_X7_holdsBanks_X7 0 rfl rfl 0 (by decide) k_X7_holdsBanks_f9 (v := .ref tb) rfl dX7_holdsBanks_22 ?_
          refine lv_iload_n hx hb dX7_holdsBanks_25 rfl (lv_at hl 1 rfl) ?_
          have hq1 := h256 i
          refine g_iald (i := i) (v := (nI (T i))) hx hb hK hP 1 rfl (by decide) (by omega) (hT i (by omega)) dX7_holdsBanks_26 ?_
          refine lv_bipush (v := 9) hx hb dX7_holdsBanks_27 (by decide) ?_
          refine n_icmp_le (a := T i) (b := 9) (tgt := 34) hx hb dX7_holdsBanks_29 (by decide) (by omega) (by omega) (fun c_29 => ?_) (fun c_29 => ?_)
          · refine lv_iinc (v := (nI (i + 1))) (lv' := [(1, .int (nI (i + 1))), (0, .ref ta)]) hx hb dX7_holdsBanks_34 hl (k := 1) rfl (g_inc i 1 (by decide)) (by decide) rfl (fun ls hl => ?_)
            refine lv_goto (tgt := 13) hx hb dX7_holdsBanks_37 (by decide) ?_
            exact ih_13 (i + 1) ls _ _ (by omega) (by omega) (fun j hj => by by_cases e : j = i; (subst e; exact c_29); exact h1 j (by omega)) (lv_sub hl [1, 0] rfl) hP hD hS
          · refine lv_iconst (v := 0) hx hb dX7_holdsBanks_32 (by decide) ?_
            exact hret _ _ _ _ 0 () dX7_holdsBanks_33 rfl (Or.inr ⟨rfl, fun z => absurd (z.2 i (by omega)) (by omega)⟩) hP hD hS
    exact L13 ((tn - 0) + 1) 0 ls _ _ (Nat.lt_succ_self _) (by omega) (fun j hj => absurd hj (Nat.not_lt_zero j)) (lv_sub hl [1, 0] rfl) hP hD hS
  · refine lv_iconst (v := 0) hx hb dX7_holdsBanks_9 (by decide) ?_
    exact hret _ _ _ _ 0 () dX7_holdsBanks_10 rfl (Or.inr ⟨rfl, fun z => c_6 z.1⟩) hP hD hS

abbrev rm_X7_copyBanksTo : Room := { frames := 0, cells := 0, slots := 0, locals := 0 }
theorem i_X7_copyBanksTo_X7 : ∀ w ∈ wsX70, w ∈ wsX7_copyBanksTo := by decide +kernel
theorem k_X7_copyBanksTo_f9 : Cond.fieldLink RX7 9 (TX7 0).1 (TX7 0).2.1 (TX7 0).2.2.1 ∈ wsX7_copyBanksTo := by decide +kernel
set_option maxHeartbeats 4000000 in
set_option maxRecDepth 100000 in
theorem c_X7_copyBanksTo (l : Launch) (g : gT) (ta : Nat) (tb : Nat) (tn : Nat) (ft : Nat → Int32) (T : Nat → Nat) (bk : Nat) (fb : Nat → Int32) (htn : tn ≤ 200) (hT : ∀ k, k < tn → ft k = nI (T k)) (h256 : ∀ k, T k < 256) (h64 : tn = 64) : CtV l g yX7_copyBanksTo wsX7_copyBanksTo rm_X7_copyBanksTo [.ref ta, .ref bk] [gO ta 7 [.ref tb, .int (nI tn)], gI g tb 200 ft, gI g bk 64 fb] (fun (fb2 : (Nat → Int32)) => ∀ k, k < 64 → fb2 k = nI (T k)) (fun (fb2 : (Nat → Int32)) => [gO ta 7 [.ref tb, .int (nI tn)], gI g tb 200 ft, gI g bk 64 fb2]) := by
  refine CtV.of (cc := cX7_copyBanksTo) (maxL := 3) (by decide) rfl (Nat.le_of_ble_eq_true rfl) ?_
  intro p e s m args below meth c A Q hnm F hK hA hP hD hS hret ls hl
  have hx := F.1
  have hb := F.2.1
  have hl : lv_has ls 3 [(0, .ref ta), (1, .ref bk)] := hl
  refine lv_iconst (v := 0) hx hb dX7_copyBanksTo_0 (by decide) ?_
  refine lv_istore_n (lv' := [(2, .int 0), (0, .ref ta), (1, .ref bk)]) hx hb dX7_copyBanksTo_1 rfl hl (by decide) rfl (fun ls hl => ?_)
  have L2 : ∀ (fuel : Nat) (i : Nat) (b_ : Nat → Int32) (ls : Array Slot) (H : Heap) (locs : List Loc), 64 - i < fuel → (i ≤ 64) → (∀ k, k < i → b_ k = nI (T k)) → lv_has ls 3 [(0, .ref ta), (1, .ref bk), (2, .int (nI i))] → gP g [gO ta 7 [.ref tb, .int (nI tn)], gI g tb 200 ft, gI g bk 64 b_] H → va_D A [gO ta 7 [.ref tb, .int (nI tn)], gI g tb 200 ft, gI g bk 64 b_] → va_S A s.heap H locs → W p l e rm_X7_copyBanksTo s m args below meth c H locs 0 0 Q (F0 m 2 ls []) := by
    intro fuel
    induction fuel with
    | zero => intro i b_ _ _ _ hk; exact absurd hk (Nat.not_lt_zero _)
    | succ fuel_2 ih_2 =>
      intro i b_ ls H locs hk_2 hi h1 hl hP hD hS
      refine lv_iload_n hx hb dX7_copyBanksTo_2 rfl (lv_at hl 2 rfl) ?_
      refine lv_bipush (v := 64) hx hb dX7_copyBanksTo_3 (by decide) ?_
      refine n_icmp_ge (a := i) (b := 64) (tgt := 23) hx hb dX7_copyBanksTo_5 (by decide) (by omega) (by omega) (fun c_5 => ?_) (fun c_5 => ?_)
      · exact hret _ _ _ _ b_ dX7_copyBanksTo_23 (fun k hk => h1 k (by omega)) hP hD hS
      · refine lv_aload_n hx hb dX7_copyBanksTo_8 rfl (lv_at hl 1 rfl) ?_
        refine lv_iload_n hx hb dX7_copyBanksTo_9 rfl (lv_at hl 2 rfl) ?_
        refine lv_aload_n hx hb dX7_copyBanksTo_10 rfl (lv_at hl 0 rfl) ?_
        refine g_get (C := RX7) (T := TX7) (N := 2) F hK hP i_X7_copyBanksTo_X7 0 rfl rfl 0 (by decide) k_X7_copyBanksTo_f9 (v := .ref tb) rfl dX7_copyBanksTo_11 ?_
        refine lv_iload_n hx hb dX7_copyBanksTo_14 rfl (lv_at hl 2 rfl) ?_
        refine g_iald (i := i) (v := (nI (T i))) hx hb hK hP 1 rfl (by decide) (by omega) (hT i (by omega)) dX7_copyBanksTo_15 ?_
        refine g_iast (i := i) (ws2 := [gO ta 7 [.ref tb, .int (nI tn)], gI g tb 200 ft, gI g bk 64 (upd b_ i (nI (T i)))]) hx hb hK hP hD hS 2 rfl (by decide) (by omega) rfl dX7_copyBanksTo_16 (fun H locs hP hD hS => ?_)
        refine lv_iinc (v := (nI (i + 1))) (lv' := [(2, .int (nI (i + 1))), (0, .ref ta), (1, .ref bk)]) hx hb dX7_copyBanksTo_17 hl (k := 2) rfl (g_inc i 1 (by decide)) (by decide) rfl (fun ls hl => ?_)
        refine lv_goto (tgt := 2) hx hb dX7_copyBanksTo_20 (by decide) ?_
        exact ih_2 (i + 1) (upd b_ i (nI (T i))) ls _ _ (by omega) (by omega) (upd_c (X := fun k => nI (T k)) h1 rfl) (lv_sub hl [1, 2, 0] rfl) hP hD hS
  exact L2 ((64 - 0) + 1) 0 fb ls _ _ (Nat.lt_succ_self _) (by omega) (fun j hj => absurd hj (Nat.not_lt_zero j)) (lv_sub hl [1, 2, 0] rfl) hP hD hS

