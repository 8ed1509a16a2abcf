def isW (lo hi v : Int32) : Prop := ¬ v < lo ∧ ¬ hi < v
abbrev rm_X8_isWithin : Room := { frames := 0, cells := 0, slots := 0, locals := 0 }
set_option maxHeartbeats 4000000 in
set_option maxRecDepth 100000 in
theorem c_X8_isWithin (l : Launch) (g : gT) (v : Int32) (lo : Int32) (hi : Int32)  : CtI l g yX8_isWithin wsX8_isWithin rm_X8_isWithin [.int v, .int lo, .int hi] [] (fun (r : Int32) (_ : Unit) => (r = 1 ∧ isW lo hi v) ∨ (r = 0 ∧ ¬ isW lo hi v)) (fun (_ : Unit) => []) := by
  refine CtI.of (cc := cX8_isWithin) (maxL := 3) (ret := .boolean) (by decide) rfl (Nat.le_of_ble_eq_true rfl) ?_
  intro p e s m args below meth c A Q hnm F hK hA hP hD hS hret ls hl
  have hx := F.1
  have hb := F.2.1
  have hl : lv_has ls 3 [(0, .int v), (1, .int lo), (2, .int hi)] := hl
  refine lv_iload_n hx hb dX8_isWithin_0 rfl (lv_at hl 0 rfl) ?_
  refine lv_iload_n hx hb dX8_isWithin_1 rfl (lv_at hl 1 rfl) ?_
  refine lv_icmp_lt (tgt := 14) hx hb dX8_isWithin_2 (by decide) (fun c_2 => ?_) (fun c_2 => ?_)
  · refine lv_iconst (v := 0) hx hb dX8_isWithin_14 (by decide) ?_
    exact hret _ _ _ _ 0 () dX8_isWithin_15 rfl (by simp [isW, c_2]) hP hD hS
  · refine lv_iload_n hx hb dX8_isWithin_5 rfl (lv_at hl 0 rfl) ?_
    refine lv_iload_n hx hb dX8_isWithin_6 rfl (lv_at hl 2 rfl) ?_
    refine lv_icmp_gt (tgt := 14) hx hb dX8_isWithin_7 (by decide) (fun c_7 => ?_) (fun c_7 => ?_)
    · refine lv_iconst (v := 0) hx hb dX8_isWithin_14 (by decide) ?_
      exact hret _ _ _ _ 0 () dX8_isWithin_15 rfl (by simp [isW, c_2, c_7]) hP hD hS
    · refine lv_iconst (v := 1) hx hb dX8_isWithin_10 (by decide) ?_
      refine lv_goto (tgt := 15) hx hb dX8_isWithin_11 (by decide) ?_
      exact hret _ _ _ _ 1 () dX8_isWithin_15 rfl (by simp [isW, c_2, c_7]) hP hD hS

abbrev rm_X9_isIn : Room := { frames := 0, cells := 0, slots := 0, locals := 0 }
set_option maxHeartbeats 4000000 in
set_option maxRecDepth 100000 in
theorem c_X9_isIn (l : Launch) (g : gT) (v : Int32) (lo : Int32) (hi : Int32)  : CtI l g yX9_isIn wsX9_isIn rm_X9_isIn [.int v, .int lo, .int hi] [] (fun (r : Int32) (_ : Unit) => (r = 1 ∧ isW lo hi v) ∨ (r = 0 ∧ ¬ isW lo hi v)) (fun (_ : Unit) => []) := by
  refine CtI.of (cc := cX9_isIn) (maxL := 3) (ret := .boolean) (by decide) rfl (Nat.le_of_ble_eq_true rfl) ?_
  intro p e s m args below meth c A Q hnm F hK hA hP hD hS hret ls hl
  have hx := F.1
  have hb := F.2.1
  have hl : lv_has ls 3 [(0, .int v), (1, .int lo), (2, .int hi)] := hl
  refine lv_iload_n hx hb dX9_isIn_0 rfl (lv_at hl 0 rfl) ?_
  refine lv_iload_n hx hb dX9_isIn_1 rfl (lv_at hl 1 rfl) ?_
  refine lv_icmp_lt (tgt := 14) hx hb dX9_isIn_2 (by decide) (fun c_2 => ?_) (fun c_2 => ?_)
  · refine lv_iconst (v := 0) hx hb dX9_isIn_14 (by decide) ?_
    exact hret _ _ _ _ 0 () dX9_isIn_15 rfl (by simp [isW, c_2]) hP hD hS
  · refine lv_iload_n hx hb dX9_isIn_5 rfl (lv_at hl 0 rfl) ?_
    refine lv_iload_n hx hb dX9_isIn_6 rfl (lv_at hl 2 rfl) ?_
    refine lv_icmp_gt (tgt := 14) hx hb dX9_isIn_7 (by decide) (fun c_7 => ?_) (fun c_7 => ?_)
    · refine lv_iconst (v := 0) hx hb dX9_isIn_14 (by decide) ?_
      exact hret _ _ _ _ 0 () dX9_isIn_15 rfl (by simp [isW, c_2, c_7]) hP hD hS
    · refine lv_iconst (v := 1) hx hb dX9_isIn_10 (by decide) ?_
      refine lv_goto (tgt := 15) hx hb dX9_isIn_11 (by decide) ?_
      exact hret _ _ _ _ 1 () dX9_isIn_15 rfl (by simp [isW, c_2, c_7]) hP hD hS

