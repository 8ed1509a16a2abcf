theorem g_cmpm {x y : Int32} (h : ¬ y ≤ x) : (-1 : Int32) = cmp3 x y := by
  have h2 : x < y := Int32.not_le.mp h
  simp [cmp3, h2]
theorem g_cmpz {x y : Int32} (h : y ≤ x) (h2 : x = y) : (0 : Int32) = cmp3 x y := by subst h2; simp [cmp3]
theorem g_cmp1 {x y : Int32} (h : y ≤ x) (h2 : ¬ x = y) : (1 : Int32) = cmp3 x y := by
  have h3 : ¬ x < y := Int32.not_lt.mpr h
  simp [cmp3, h3, h2]
abbrev rm_X8_isWithin : Room := { frames := 0, cells := 0, slots := 0, locals := 0 }
set_option maxHeartbeats 4000000 in
set_option maxRecDepth 100000 in
theorem c_X8_isWithin (l : Launch) (g : gT) (v : Int32) (lo : Int32) (hi : Int32)  : CtI l g yX8_isWithin wsX8_isWithin rm_X8_isWithin [.int v, .int lo, .int hi] [] (fun (r : Int32) (_ : Unit) => (r = 1 ∧ isW lo hi v) ∨ (r = 0 ∧ ¬ isW lo hi v)) (fun (_ : Unit) => []) := by
  refine CtI.of (cc := cX8_isWithin) (maxL := 3) (ret := .boolean) (by decide) rfl (Nat.le_of_ble_eq_true rfl) ?_
  intro p e s m args below meth c A Q hnm F hK hA hP hD hS hret ls hl
  have hx := F.1
  have hb := F.2.1
  have hl : lv_has ls 3 [(0, .int v), (1, .int lo), (2, .int hi)] := hl
  refine lv_iload_n hx hb dX8_isWithin_0 rfl (lv_at hl 0 rfl) ?_
  refine lv_iload_n hx hb dX8_isWithin_1 rfl (lv_at hl 1 rfl) ?_
  refine lv_icmp_lt (tgt := 14) hx hb dX8_isWithin_2 (by decide) (fun c_2 => ?_) (fun c_2 => ?_)
  · refine lv_iconst (v := 0) hx hb dX8_isWithin_14 (by decide) ?_
    exact hret _ _ _ _ 0 () dX8_isWithin_15 rfl (by simp [isW, c_2]) hP hD hS
  · refine lv_iload_n hx hb dX8_isWithin_5 rfl (lv_at hl 0 rfl) ?_
    refine lv_iload_n hx hb dX8_isWithin_6 rfl (lv_at hl 2 rfl) ?_
    refine lv_icmp_gt (tgt := 14) hx hb dX8_isWithin_7 (by decide) (fun c_7 => ?_) (fun c_7 => ?_)
    · refine lv_iconst (v := 0) hx hb dX8_isWithin_14 (by decide) ?_
      exact hret _ _ _ _ 0 () dX8_isWithin_15 rfl (by simp [isW, c_2, c_7]) hP hD hS
    · refine lv_iconst (v := 1) hx hb dX8_isWithin_10 (by decide) ?_
      refine lv_goto (tgt := 15) hx hb dX8_isWithin_11 (by decide) ?_
      exact hret _ _ _ _ 1 () dX8_isWithin_15 rfl (by simp [isW, c_2, c_7]) hP hD hS

abbrev rm_X9_isIn : Room := { frames := 0, cells := 0, slots := 0, locals := 0 }
set_option maxHeartbeats 4000000 in
set_option maxRecDepth 100000 in
theorem c_X9_isIn (l : Launch) (g : gT) (v : Int32) (lo : Int32) (hi : Int32)  : CtI l g yX9_isIn wsX9_isIn rm_X9_isIn [.int v, .int lo, .int hi] [] (fun (r : Int32) (_ : Unit) => (r = 1 ∧ isW lo hi v) ∨ (r = 0 ∧ ¬ isW lo hi v)) (fun (_ : Unit) => []) := by
  refine CtI.of (cc := cX9_isIn) (maxL := 3) (ret := .boolean) (by decide) rfl (Nat.le_of_ble_eq_true rfl) ?_
  intro p e s m args below meth c A Q hnm F hK hA hP hD hS hret ls hl
  have hx := F.1
  have hb := F.2.1
  have hl : lv_has ls 3 [(0, .int v), (1, .int lo), (2, .int hi)] := hl
  refine lv_iload_n hx hb dX9_isIn_0 rfl (lv_at hl 0 rfl) ?_
  refine lv_iload_n hx hb dX9_isIn_1 rfl (lv_at hl 1 rfl) ?_
  refine lv_icmp_lt (tgt := 14) hx hb dX9_isIn_2 (by decide) (fun c_2 => ?_) (fun c_2 => ?_)
  · refine lv_iconst (v := 0) hx hb dX9_isIn_14 (by decide) ?_
    exact hret _ _ _ _ 0 () dX9_isIn_15 rfl (by simp [isW, c_2]) hP hD hS
  · refine lv_iload_n hx hb dX9_isIn_5 rfl (lv_at hl 0 rfl) ?_
    refine lv_iload_n hx hb dX9_isIn_6 rfl (lv_at hl 2 rfl) ?_
    refine lv_icmp_gt (tgt := 14) hx hb dX9_isIn_7 (by decide) (fun c_7 => ?_) (fun c_7 => ?_)
    · refine lv_iconst (v := 0) hx hb dX9_isIn_14 (by decide) ?_
      exact hret _ _ _ _ 0 () dX9_isIn_15 rfl (by simp [isW, c_2, c_7]) hP hD hS
    · refine lv_iconst (v := 1) hx hb dX9_isIn_10 (by decide) ?_
      refine lv_goto (tgt := 15) hx hb dX9_isIn_11 (by decide) ?_
      exact hret _ _ _ _ 1 () dX9_isIn_15 rfl (by simp [isW, c_2, c_7]) hP hD hS

abbrev rm_X8_hasSide : Room := { frames := 1, cells := 0, slots := 0, locals := 22 }
set_option maxHeartbeats 4000000 in
set_option maxRecDepth 100000 in
theorem c_X8_hasSide (l : Launch) (g : gT) (x : Int32) (y : Int32)  : CtI l g yX8_hasSide wsX8_hasSide rm_X8_hasSide [.int x, .int y] [] (fun (r : Int32) (_ : Unit) => (r = 1 ∧ hasSideP x y) ∨ (r = 0 ∧ ¬ hasSideP x y)) (fun (_ : Unit) => []) := by
  refine CtI.of (cc := cX8_hasSide) (maxL := 2) (ret := .boolean) (by decide) rfl (Nat.le_of_ble_eq_true rfl) ?_
  intro p e s m args below meth c A Q hnm F hK hA hP hD hS hret ls hl
  have hx := F.1
  have hb := F.2.1
  have hl : lv_has ls 2 [(0, .int x), (1, .int y)] := hl
  refine lv_iload_n hx hb dX8_hasSide_0 rfl (lv_at hl 0 rfl) ?_
  refine lv_iconst (v := 0) hx hb dX8_hasSide_1 (by decide) ?_
  refine lv_sipush (v := 510) hx hb dX8_hasSide_2 (by decide) ?_
  refine g_SI (wr := []) (As := [.int x, .int 0, .int 510]) (rest := []) (n := 3) F (c_X8_isWithin l g x 0 510) gX8_hasSide_X8_isWithin rfl (by decide) ⟨by decide, by decide⟩ rfl hl.1 rfl (Nat.le_of_ble_eq_true rfl) dX8_hasSide_5 ⟨Nat.le_of_ble_eq_true rfl, Nat.le_of_ble_eq_true rfl⟩ hK hP hD hS hA [] [] (by decide) rfl rfl (by decide) (by decide) (fun r_5 u_5 H locs hw_5 hP hD hS => ?_)
  have hP : gP g [] H := hP
  have hD : va_D A [] := hD
  rcases hw_5 with ⟨rfl, b_5⟩ | ⟨rfl, b_5⟩
  · refine lv_if_eq (tgt := 26) hx hb dX8_hasSide_8 (by decide) (fun h => absurd h (by decide)) (fun _ => ?_)
    refine lv_iload_n hx hb dX8_hasSide_11 rfl (lv_at hl 1 rfl) ?_
    refine lv_iconst (v := 0) hx hb dX8_hasSide_12 (by decide) ?_
    refine lv_sipush (v := 511) hx hb dX8_hasSide_13 (by decide) ?_
    refine g_SI (wr := []) (As := [.int y, .int 0, .int 511]) (rest := []) (n := 3) F (c_X8_isWithin l g y 0 511) gX8_hasSide_X8_isWithin rfl (by decide) ⟨by decide, by decide⟩ rfl hl.1 rfl (Nat.le_of_ble_eq_true rfl) dX8_hasSide_16 ⟨Nat.le_of_ble_eq_true rfl, Nat.le_of_ble_eq_true rfl⟩ hK hP hD hS hA [] [] (by decide) rfl rfl (by decide) (by decide) (fun r_16 u_16 H locs hw_16 hP hD hS => ?_)
    have hP : gP g [] H := hP
    have hD : va_D A [] := hD
    rcases hw_16 with ⟨rfl, b_16⟩ | ⟨rfl, b_16⟩
    · refine lv_if_eq (tgt := 26) hx hb dX8_hasSide_19 (by decide) (fun h => absurd h (by decide)) (fun _ => ?_)
      refine lv_iconst (v := 1) hx hb dX8_hasSide_22 (by decide) ?_
      refine lv_goto (tgt := 27) hx hb dX8_hasSide_23 (by decide) ?_
      exact hret _ _ _ _ 1 () dX8_hasSide_27 rfl (by simp [hasSideP, b_5, b_16]) hP hD hS
    · refine lv_if_eq (tgt := 26) hx hb dX8_hasSide_19 (by decide) (fun _ => ?_) (fun h => absurd (by decide) h)
      refine lv_iconst (v := 0) hx hb dX8_hasSide_26 (by decide) ?_
      exact hret _ _ _ _ 0 () dX8_hasSide_27 rfl (by simp [hasSideP, b_5, b_16]) hP hD hS
  · refine lv_if_eq (tgt := 26) hx hb dX8_hasSide_8 (by decide) (fun _ => ?_) (fun h => absurd (by decide) h)
    refine lv_iconst (v := 0) hx hb dX8_hasSide_26 (by decide) ?_
    exact hret _ _ _ _ 0 () dX8_hasSide_27 rfl (by simp [hasSideP, b_5]) hP hD hS

abbrev rm_X9_isPlace : Room := { frames := 1, cells := 0, slots := 0, locals := 22 }
set_option maxHeartbeats 4000000 in
set_option maxRecDepth 100000 in
theorem c_X9_isPlace (l : Launch) (g : gT) (x : Int32) (y : Int32)  : CtI l g yX9_isPlace wsX9_isPlace rm_X9_isPlace [.int x, .int y] [] (fun (r : Int32) (_ : Unit) => (r = 1 ∧ hasSideP x y) ∨ (r = 0 ∧ ¬ hasSideP x y)) (fun (_ : Unit) => []) := by
  refine CtI.of (cc := cX9_isPlace) (maxL := 2) (ret := .boolean) (by decide) rfl (Nat.le_of_ble_eq_true rfl) ?_
  intro p e s m args below meth c A Q hnm F hK hA hP hD hS hret ls hl
  have hx := F.1
  have hb := F.2.1
  have hl : lv_has ls 2 [(0, .int x), (1, .int y)] := hl
  refine lv_iload_n hx hb dX9_isPlace_0 rfl (lv_at hl 0 rfl) ?_
  refine lv_iconst (v := 0) hx hb dX9_isPlace_1 (by decide) ?_
  refine lv_sipush (v := 510) hx hb dX9_isPlace_2 (by decide) ?_
  refine g_SI (wr := []) (As := [.int x, .int 0, .int 510]) (rest := []) (n := 3) F (c_X9_isIn l g x 0 510) gX9_isPlace_X9_isIn rfl (by decide) ⟨by decide, by decide⟩ rfl hl.1 rfl (Nat.le_of_ble_eq_true rfl) dX9_isPlace_5 ⟨Nat.le_of_ble_eq_true rfl, Nat.le_of_ble_eq_true rfl⟩ hK hP hD hS hA [] [] (by decide) rfl rfl (by decide) (by decide) (fun r_5 u_5 H locs hw_5 hP hD hS => ?_)
  have hP : gP g [] H := hP
  have hD : va_D A [] := hD
  rcases hw_5 with ⟨rfl, b_5⟩ | ⟨rfl, b_5⟩
  · refine lv_if_eq (tgt := 26) hx hb dX9_isPlace_8 (by decide) (fun h => absurd h (by decide)) (fun _ => ?_)
    refine lv_iload_n hx hb dX9_isPlace_11 rfl (lv_at hl 1 rfl) ?_
    refine lv_iconst (v := 0) hx hb dX9_isPlace_12 (by decide) ?_
    refine lv_sipush (v := 511) hx hb dX9_isPlace_13 (by decide) ?_
    refine g_SI (wr := []) (As := [.int y, .int 0, .int 511]) (rest := []) (n := 3) F (c_X9_isIn l g y 0 511) gX9_isPlace_X9_isIn rfl (by decide) ⟨by decide, by decide⟩ rfl hl.1 rfl (Nat.le_of_ble_eq_true rfl) dX9_isPlace_16 ⟨Nat.le_of_ble_eq_true rfl, Nat.le_of_ble_eq_true rfl⟩ hK hP hD hS hA [] [] (by decide) rfl rfl (by decide) (by decide) (fun r_16 u_16 H locs hw_16 hP hD hS => ?_)
    have hP : gP g [] H := hP
    have hD : va_D A [] := hD
    rcases hw_16 with ⟨rfl, b_16⟩ | ⟨rfl, b_16⟩
    · refine lv_if_eq (tgt := 26) hx hb dX9_isPlace_19 (by decide) (fun h => absurd h (by decide)) (fun _ => ?_)
      refine lv_iconst (v := 1) hx hb dX9_isPlace_22 (by decide) ?_
      refine lv_goto (tgt := 27) hx hb dX9_isPlace_23 (by decide) ?_
      exact hret _ _ _ _ 1 () dX9_isPlace_27 rfl (by simp [hasSideP, b_5, b_16]) hP hD hS
    · refine lv_if_eq (tgt := 26) hx hb dX9_isPlace_19 (by decide) (fun _ => ?_) (fun h => absurd (by decide) h)
      refine lv_iconst (v := 0) hx hb dX9_isPlace_26 (by decide) ?_
      exact hret _ _ _ _ 0 () dX9_isPlace_27 rfl (by simp [hasSideP, b_5, b_16]) hP hD hS
  · refine lv_if_eq (tgt := 26) hx hb dX9_isPlace_8 (by decide) (fun _ => ?_) (fun h => absurd (by decide) h)
    refine lv_iconst (v := 0) hx hb dX9_isPlace_26 (by decide) ?_
    exact hret _ _ _ _ 0 () dX9_isPlace_27 rfl (by simp [hasSideP, b_5]) hP hD hS

abbrev rm_J6_compare_7cf53 : Room := { frames := 0, cells := 0, slots := 0, locals := 0 }
set_option maxHeartbeats 4000000 in
set_option maxRecDepth 100000 in
theorem c_J6_compare_7cf53 (l : Launch) (g : gT) (x : Int32) (y : Int32)  : CtI l g yJ6_compare_7cf53 wsJ6_compare_7cf53 rm_J6_compare_7cf53 [.int x, .int y] [] (fun (r : Int32) (_ : Unit) => r = cmp3 x y) (fun (_ : Unit) => []) := by
  refine CtI.of (cc := cJ6_compare_7cf53) (maxL := 2) (ret := .int) (by decide) rfl (Nat.le_of_ble_eq_true rfl) ?_
  intro p e s m args below meth c A Q hnm F hK hA hP hD hS hret ls hl
  have hx := F.1
  have hb := F.2.1
  have hl : lv_has ls 2 [(0, .int x), (1, .int y)] := hl
  refine lv_iload_n hx hb dJ6_compare_7cf53_0 rfl (lv_at hl 0 rfl) ?_
  refine lv_iload_n hx hb dJ6_compare_7cf53_1 rfl (lv_at hl 1 rfl) ?_
  refine lv_icmp_ge (tgt := 9) hx hb dJ6_compare_7cf53_2 (by decide) (fun c_2 => ?_) (fun c_2 => ?_)
  · refine lv_iload_n hx hb dJ6_compare_7cf53_9 rfl (lv_at hl 0 rfl) ?_
    refine lv_iload_n hx hb dJ6_compare_7cf53_10 rfl (lv_at hl 1 rfl) ?_
    refine lv_icmp_ne (tgt := 18) hx hb dJ6_compare_7cf53_11 (by decide) (fun c_11 => ?_) (fun c_11 => ?_)
    · refine lv_iconst (v := 1) hx hb dJ6_compare_7cf53_18 (by decide) ?_
      exact hret _ _ _ _ 1 () dJ6_compare_7cf53_19 rfl (g_cmp1 c_2 c_11) hP hD hS
    · refine lv_iconst (v := 0) hx hb dJ6_compare_7cf53_14 (by decide) ?_
      refine lv_goto (tgt := 19) hx hb dJ6_compare_7cf53_15 (by decide) ?_
      exact hret _ _ _ _ 0 () dJ6_compare_7cf53_19 rfl (g_cmpz c_2 c_11) hP hD hS
  · refine lv_iconst (v := (-1)) hx hb dJ6_compare_7cf53_5 (by decide) ?_
    refine lv_goto (tgt := 19) hx hb dJ6_compare_7cf53_6 (by decide) ?_
    exact hret _ _ _ _ (-1) () dJ6_compare_7cf53_19 rfl (g_cmpm c_2) hP hD hS

abbrev rm_X8_clamp : Room := { frames := 1, cells := 0, slots := 0, locals := 21 }
theorem k_X8_clamp_m232 : Cond.methodLink RX8 232 Lib.Math.min.name ∈ wsX8_clamp := by decide +kernel
theorem k_X8_clamp_smin : Cond.static Lib.Math.min.name ∈ wsX8_clamp := by decide +kernel
theorem k_X8_clamp_im : Cond.initialized "java/lang/Math" ∈ wsX8_clamp := by decide +kernel
theorem k_X8_clamp_xmin : Cond.code Lib.Math.min.name Lib.Math.min.code 2 (some .int) ∈ wsX8_clamp := by decide +kernel
theorem k_X8_clamp_m237 : Cond.methodLink RX8 237 Lib.Math.max.name ∈ wsX8_clamp := by decide +kernel
theorem k_X8_clamp_smax : Cond.static Lib.Math.max.name ∈ wsX8_clamp := by decide +kernel
theorem k_X8_clamp_xmax : Cond.code Lib.Math.max.name Lib.Math.max.code 2 (some .int) ∈ wsX8_clamp := by decide +kernel
set_option maxHeartbeats 4000000 in
set_option maxRecDepth 100000 in
theorem c_X8_clamp (l : Launch) (g : gT) (v : Int32) (lo : Int32) (hi : Int32)  : CtI l g yX8_clamp wsX8_clamp rm_X8_clamp [.int v, .int lo, .int hi] [] (fun (r : Int32) (_ : Unit) => r = clampS v lo hi) (fun (_ : Unit) => []) := by
  refine CtI.of (cc := cX8_clamp) (maxL := 3) (ret := .int) (by decide) rfl (Nat.le_of_ble_eq_true rfl) ?_
  intro p e s m args below meth c A Q hnm F hK hA hP hD hS hret ls hl
  have hx := F.1
  have hb := F.2.1
  have hl : lv_has ls 3 [(0, .int v), (1, .int lo), (2, .int hi)] := hl
  refine lv_iload_n hx hb dX8_clamp_0 rfl (lv_at hl 1 rfl) ?_
  refine lv_iload_n hx hb dX8_clamp_1 rfl (lv_at hl 2 rfl) ?_
  refine lv_iload_n hx hb dX8_clamp_2 rfl (lv_at hl 0 rfl) ?_
  refine g_mmin F hl.1 k_X8_clamp_m232 k_X8_clamp_smin k_X8_clamp_im k_X8_clamp_xmin (by decide) (Nat.le_of_ble_eq_true rfl) (Nat.le_of_ble_eq_true rfl) (Nat.le_of_ble_eq_true rfl) dX8_clamp_3 (v := (g_min hi v)) (rfl) ?_
  refine g_mmax F hl.1 k_X8_clamp_m237 k_X8_clamp_smax k_X8_clamp_im k_X8_clamp_xmax (by decide) (Nat.le_of_ble_eq_true rfl) (Nat.le_of_ble_eq_true rfl) (Nat.le_of_ble_eq_true rfl) dX8_clamp_6 (v := (g_max lo (g_min hi v))) (rfl) ?_
  exact hret _ _ _ _ (g_max lo (g_min hi v)) () dX8_clamp_9 rfl (rfl) hP hD hS

abbrev rm_X9_size : Room := { frames := 0, cells := 0, slots := 0, locals := 0 }
set_option maxHeartbeats 4000000 in
set_option maxRecDepth 100000 in
theorem c_X9_size (l : Launch) (g : gT) (v : Int32)  : CtI l g yX9_size wsX9_size rm_X9_size [.int v] [] (fun (r : Int32) (_ : Unit) => r = g_abs v) (fun (_ : Unit) => []) := by
  refine CtI.of (cc := cX9_size) (maxL := 1) (ret := .int) (by decide) rfl (Nat.le_of_ble_eq_true rfl) ?_
  intro p e s m args below meth c A Q hnm F hK hA hP hD hS hret ls hl
  have hx := F.1
  have hb := F.2.1
  have hl : lv_has ls 1 [(0, .int v)] := hl
  refine lv_iload_n hx hb dX9_size_0 rfl (lv_at hl 0 rfl) ?_
  refine lv_if_ge (tgt := 9) hx hb dX9_size_1 (by decide) (fun c_1 => ?_) (fun c_1 => ?_)
  · refine lv_iload_n hx hb dX9_size_9 rfl (lv_at hl 0 rfl) ?_
    exact hret _ _ _ _ v () dX9_size_10 rfl (by simp [g_abs, c_1]) hP hD hS
  · refine lv_iload_n hx hb dX9_size_4 rfl (lv_at hl 0 rfl) ?_
    refine lv_ineg hx hb dX9_size_5 ?_
    refine lv_goto (tgt := 10) hx hb dX9_size_6 (by decide) ?_
    exact hret _ _ _ _ (-v) () dX9_size_10 rfl (by simp [g_abs, c_1]) hP hD hS

def btwP (v a b : Int32) : Prop := (if a < b then ¬ v < a ∧ ¬ b < v else ¬ v < b ∧ ¬ a < v)
abbrev rm_X9_isBetween : Room := { frames := 0, cells := 0, slots := 0, locals := 0 }
set_option maxHeartbeats 4000000 in
set_option maxRecDepth 100000 in
theorem c_X9_isBetween (l : Launch) (g : gT) (v : Int32) (a : Int32) (b : Int32)  : CtI l g yX9_isBetween wsX9_isBetween rm_X9_isBetween [.int v, .int a, .int b] [] (fun (r : Int32) (_ : Unit) => (r = 1 ∧ btwP v a b) ∨ (r = 0 ∧ ¬ btwP v a b)) (fun (_ : Unit) => []) := by
  refine CtI.of (cc := cX9_isBetween) (maxL := 3) (ret := .boolean) (by decide) rfl (Nat.le_of_ble_eq_true rfl) ?_
  intro p e s m args below meth c A Q hnm F hK hA hP hD hS hret ls hl
  have hx := F.1
  have hb := F.2.1
  have hl : lv_has ls 3 [(0, .int v), (1, .int a), (2, .int b)] := hl
  refine lv_iload_n hx hb dX9_isBetween_0 rfl (lv_at hl 1 rfl) ?_
  refine lv_iload_n hx hb dX9_isBetween_1 rfl (lv_at hl 2 rfl) ?_
  refine lv_icmp_ge (tgt := 23) hx hb dX9_isBetween_2 (by decide) (fun c_2 => ?_) (fun c_2 => ?_)
  · refine lv_iload_n hx hb dX9_isBetween_23 rfl (lv_at hl 0 rfl) ?_
    refine lv_iload_n hx hb dX9_isBetween_24 rfl (lv_at hl 2 rfl) ?_
    refine lv_icmp_lt (tgt := 37) hx hb dX9_isBetween_25 (by decide) (fun c_25 => ?_) (fun c_25 => ?_)
    · refine lv_iconst (v := 0) hx hb dX9_isBetween_37 (by decide) ?_
      exact hret _ _ _ _ 0 () dX9_isBetween_38 rfl (by simp [btwP, Int32.not_lt.mpr c_2, c_25]) hP hD hS
    · refine lv_iload_n hx hb dX9_isBetween_28 rfl (lv_at hl 0 rfl) ?_
      refine lv_iload_n hx hb dX9_isBetween_29 rfl (lv_at hl 1 rfl) ?_
      refine lv_icmp_gt (tgt := 37) hx hb dX9_isBetween_30 (by decide) (fun c_30 => ?_) (fun c_30 => ?_)
      · refine lv_iconst (v := 0) hx hb dX9_isBetween_37 (by decide) ?_
        exact hret _ _ _ _ 0 () dX9_isBetween_38 rfl (by simp [btwP, Int32.not_lt.mpr c_2, c_25, c_30]) hP hD hS
      · refine lv_iconst (v := 1) hx hb dX9_isBetween_33 (by decide) ?_
        refine lv_goto (tgt := 38) hx hb dX9_isBetween_34 (by decide) ?_
        exact hret _ _ _ _ 1 () dX9_isBetween_38 rfl (by simp [btwP, Int32.not_lt.mpr c_2, c_25, c_30]) hP hD hS
  · refine lv_iload_n hx hb dX9_isBetween_5 rfl (lv_at hl 0 rfl) ?_
    refine lv_iload_n hx hb dX9_isBetween_6 rfl (lv_at hl 1 rfl) ?_
    refine lv_icmp_lt (tgt := 19) hx hb dX9_isBetween_7 (by decide) (fun c_7 => ?_) (fun c_7 => ?_)
    · refine lv_iconst (v := 0) hx hb dX9_isBetween_19 (by decide) ?_
      refine lv_goto (tgt := 38) hx hb dX9_isBetween_20 (by decide) ?_
      exact hret _ _ _ _ 0 () dX9_isBetween_38 rfl (by simp [btwP, Int32.not_le.mp c_2, c_7]) hP hD hS
    · refine lv_iload_n hx hb dX9_isBetween_10 rfl (lv_at hl 0 rfl) ?_
      refine lv_iload_n hx hb dX9_isBetween_11 rfl (lv_at hl 2 rfl) ?_
      refine lv_icmp_gt (tgt := 19) hx hb dX9_isBetween_12 (by decide) (fun c_12 => ?_) (fun c_12 => ?_)
      · refine lv_iconst (v := 0) hx hb dX9_isBetween_19 (by decide) ?_
        refine lv_goto (tgt := 38) hx hb dX9_isBetween_20 (by decide) ?_
        exact hret _ _ _ _ 0 () dX9_isBetween_38 rfl (by simp [btwP, Int32.not_le.mp c_2, c_7, c_12]) hP hD hS
      · refine lv_iconst (v := 1) hx hb dX9_isBetween_15 (by decide) ?_
        refine lv_goto (tgt := 38) hx hb dX9_isBetween_16 (by decide) ?_
        exact hret _ _ _ _ 1 () dX9_isBetween_38 rfl (by simp [btwP, Int32.not_le.mp c_2, c_7, c_12]) hP hD hS

