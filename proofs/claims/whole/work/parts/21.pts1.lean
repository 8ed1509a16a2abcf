theorem upd_v {f X : Nat → Int32} {n : Nat} {x : Int32} (h : ∀ k, k < n → f k = X k) : ∀ k, k < n + 1 → upd f n x k = upd X n x k := by
  intro k hk
  by_cases e : k = n
  · subst e; rw [pk_us, pk_us]
  · rw [pk_un e, pk_un e]; exact h k (by omega)
theorem upd_c {f X : Nat → Int32} {n : Nat} {x : Int32} (h : ∀ k, k < n → f k = X k) (hx : x = X n) : ∀ k, k < n + 1 → upd f n x k = X k := by
  intro k hk
  by_cases e : k = n
  · subst e; rw [pk_us]; exact hx
  · rw [pk_un e]; exact h k (by omega)
theorem shf_1 {X g : Nat → Int32} {i j t fr : Nat} (h : ∀ k, k < t → g k = shfS X i j k) (e : t + j = i + 1 + fr) (hij : i < j) (hjf : j ≤ fr) : ∀ k, k < t + 1 → upd g t (X fr) k = shfS X i j k := by
  intro k hk
  by_cases e2 : k = t
  · subst e2; rw [pk_us, shfS, if_neg (by omega)]; congr 1; omega
  · rw [pk_un e2]; exact h k (by omega)
theorem shf_2 {X g : Nat → Int32} {t fr n : Nat} {x : Int32} (h : ∀ k, fr ≤ k → k < n → g k = X k) (e : t ≤ fr) : ∀ k, fr + 1 ≤ k → k < n → upd g t x k = X k := by
  intro k h1 h2
  rw [pk_un (by omega)]; exact h k (by omega) h2
theorem shf_0 {X : Nat → Int32} {i j n : Nat} {g : Nat → Int32} (h : ∀ k, k < n → g k = X k) (hi : i < n) : ∀ k, k < i + 1 → g k = shfS X i j k := by
  intro k hk
  rw [shfS, if_pos (by omega)]; exact h k (by omega)
abbrev rm_X3_add : Room := { frames := 0, cells := 0, slots := 0, locals := 0 }
theorem i_X3_add_X3 : ∀ w ∈ wsX30, w ∈ wsX3_add := by decide +kernel
theorem k_X3_add_f18 : Cond.fieldLink RX3 18 (TX3 2).1 (TX3 2).2.1 (TX3 2).2.2.1 ∈ wsX3_add := by decide +kernel
theorem k_X3_add_f9 : Cond.fieldLink RX3 9 (TX3 0).1 (TX3 0).2.1 (TX3 0).2.2.1 ∈ wsX3_add := by decide +kernel
theorem k_X3_add_f15 : Cond.fieldLink RX3 15 (TX3 1).1 (TX3 1).2.1 (TX3 1).2.2.1 ∈ wsX3_add := by decide +kernel
set_option maxHeartbeats 4000000 in
set_option maxRecDepth 100000 in
theorem c_X3_add (l : Launch) (g : gT) (po : Nat) (ax : Nat) (ay : Nat) (n : Nat) (fx : Nat → Int32) (fy : Nat → Int32) (x : Int32) (y : Int32) (hn : n < 48) : CtV l g yX3_add wsX3_add rm_X3_add [.ref po, .int x, .int y] [gO po 3 [.ref ax, .ref ay, .int (nI n)], gI g ax 48 fx, gI g ay 48 fy] (fun (_ : Unit) => True) (fun (_ : Unit) => [gO po 3 [.ref ax, .ref ay, .int (nI (n + 1))], gI g ax 48 (upd fx n x), gI g ay 48 (upd fy n y)]) := by
  refine CtV.of (cc := cX3_add) (maxL := 3) (by decide) rfl (Nat.le_of_ble_eq_true rfl) ?_
  intro p e s m args below meth c A Q hnm F hK hA hP hD hS hret ls hl
  have hx := F.1
  have hb := F.2.1
  have hl : lv_has ls 3 [(0, .ref po), (1, .int x), (2, .int y)] := hl
  refine lv_aload_n hx hb dX3_add_0 rfl (lv_at hl 0 rfl) ?_
  refine g_get (C := RX3) (T := TX3) (N := 3) F hK hP i_X3_add_X3 0 rfl rfl 2 (by decide) k_X3_add_f18 (v := .int (nI n)) rfl dX3_add_1 ?_
  refine lv_bipush (v := 48) hx hb dX3_add_4 (by decide) ?_
  refine n_icmp_ge (a := n) (b := 48) (tgt := 39) hx hb dX3_add_6 (by decide) (by omega) (by omega) (fun h => absurd h (by omega)) (fun c_6 => ?_)
  refine lv_aload_n hx hb dX3_add_9 rfl (lv_at hl 0 rfl) ?_
  refine g_get (C := RX3) (T := TX3) (N := 3) F hK hP i_X3_add_X3 0 rfl rfl 0 (by decide) k_X3_add_f9 (v := .ref ax) rfl dX3_add_10 ?_
  refine lv_aload_n hx hb dX3_add_13 rfl (lv_at hl 0 rfl) ?_
  refine g_get (C := RX3) (T := TX3) (N := 3) F hK hP i_X3_add_X3 0 rfl rfl 2 (by decide) k_X3_add_f18 (v := .int (nI n)) rfl dX3_add_14 ?_
  refine lv_iload_n hx hb dX3_add_17 rfl (lv_at hl 1 rfl) ?_
  refine g_iast (i := n) (ws2 := [gO po 3 [.ref ax, .ref ay, .int (nI n)], gI g ax 48 (upd fx n x), gI g ay 48 fy]) hx hb hK hP hD hS 1 rfl (by decide) (by omega) rfl dX3_add_18 (fun H locs hP hD hS => ?_)
  refine lv_aload_n hx hb dX3_add_19 rfl (lv_at hl 0 rfl) ?_
  refine g_get (C := RX3) (T := TX3) (N := 3) F hK hP i_X3_add_X3 0 rfl rfl 1 (by decide) k_X3_add_f15 (v := .ref ay) rfl dX3_add_20 ?_
  refine lv_aload_n hx hb dX3_add_23 rfl (lv_at hl 0 rfl) ?_
  refine g_get (C := RX3) (T := TX3) (N := 3) F hK hP i_X3_add_X3 0 rfl rfl 2 (by decide) k_X3_add_f18 (v := .int (nI n)) rfl dX3_add_24 ?_
  refine lv_iload_n hx hb dX3_add_27 rfl (lv_at hl 2 rfl) ?_
  refine g_iast (i := n) (ws2 := [gO po 3 [.ref ax, .ref ay, .int (nI n)], gI g ax 48 (upd fx n x), gI g ay 48 (upd fy n y)]) hx hb hK hP hD hS 2 rfl (by decide) (by omega) rfl dX3_add_28 (fun H locs hP hD hS => ?_)
  refine lv_aload_n hx hb dX3_add_29 rfl (lv_at hl 0 rfl) ?_
  refine lv_dup hx hb dX3_add_30 rfl ?_
  refine g_get (C := RX3) (T := TX3) (N := 3) F hK hP i_X3_add_X3 0 rfl rfl 2 (by decide) k_X3_add_f18 (v := .int (nI n)) rfl dX3_add_31 ?_
  refine lv_iconst (v := 1) hx hb dX3_add_34 (by decide) ?_
  refine n_iadd (a := n) (b := 1) (d := n + 1) hx hb dX3_add_35 (by omega) ?_
  refine g_put (C := RX3) (T := TX3) (N := 3) (ws2 := [gO po 3 [.ref ax, .ref ay, .int (nI (n + 1))], gI g ax 48 (upd fx n x), gI g ay 48 (upd fy n y)]) F hK hP hD hS i_X3_add_X3 tyX3 tyX3_ok nmX3 0 rfl rfl 2 (by decide) k_X3_add_f18 rfl (v := .int (nI (n + 1))) rfl rfl (Nat.le_of_ble_eq_true rfl) rfl dX3_add_36 (fun H locs hP hD hS => ?_)
  exact hret _ _ _ _ () dX3_add_39 (trivial) hP hD hS

abbrev rm_X3_copyFrom : Room := { frames := 1, cells := 0, slots := 0, locals := 22 }
theorem i_X3_copyFrom_X3 : ∀ w ∈ wsX30, w ∈ wsX3_copyFrom := by decide +kernel
theorem k_X3_copyFrom_f18 : Cond.fieldLink RX3 18 (TX3 2).1 (TX3 2).2.1 (TX3 2).2.2.1 ∈ wsX3_copyFrom := by decide +kernel
theorem k_X3_copyFrom_f9 : Cond.fieldLink RX3 9 (TX3 0).1 (TX3 0).2.1 (TX3 0).2.2.1 ∈ wsX3_copyFrom := by decide +kernel
theorem k_X3_copyFrom_f15 : Cond.fieldLink RX3 15 (TX3 1).1 (TX3 1).2.1 (TX3 1).2.2.1 ∈ wsX3_copyFrom := by decide +kernel
set_option maxHeartbeats 4000000 in
set_option maxRecDepth 100000 in
theorem c_X3_copyFrom (l : Launch) (g : gT) (po : Nat) (ax : Nat) (ay : Nat) (n : Nat) (fx : Nat → Int32) (fy : Nat → Int32) (q : Nat) (bx : Nat) (by_ : Nat) (n2 : Nat) (gx : Nat → Int32) (gy : Nat → Int32) (X : Nat → Int32) (Y : Nat → Int32) (hn2 : n2 ≤ 48) (hX : ∀ k, k < n2 → gx k = X k) (hY : ∀ k, k < n2 → gy k = Y k) : CtV l g yX3_copyFrom wsX3_copyFrom rm_X3_copyFrom [.ref po, .ref q] [gO po 3 [.ref ax, .ref ay, .int (nI n)], gI g ax 48 fx, gI g ay 48 fy, gO q 3 [.ref bx, .ref by_, .int (nI n2)], gI g bx 48 gx, gI g by_ 48 gy] (fun (u : (Nat → Int32) × (Nat → Int32)) => (∀ k, k < n2 → u.1 k = X k) ∧ (∀ k, k < n2 → u.2 k = Y k)) (fun (u : (Nat → Int32) × (Nat → Int32)) => [gO po 3 [.ref ax, .ref ay, .int (nI n2)], gI g ax 48 u.1, gI g ay 48 u.2, gO q 3 [.ref bx, .ref by_, .int (nI n2)], gI g bx 48 gx, gI g by_ 48 gy]) := by
  refine CtV.of (cc := cX3_copyFrom) (maxL := 3) (by decide) rfl (Nat.le_of_ble_eq_true rfl) ?_
  intro p e s m args below meth c A Q hnm F hK hA hP hD hS hret ls hl
  have hx := F.1
  have hb := F.2.1
  have hl : lv_has ls 3 [(0, .ref po), (1, .ref q)] := hl
  refine lv_aload_n hx hb dX3_copyFrom_0 rfl (lv_at hl 0 rfl) ?_
  refine lv_iconst (v := 0) hx hb dX3_copyFrom_1 (by decide) ?_
  refine g_put (C := RX3) (T := TX3) (N := 3) (ws2 := [gO po 3 [.ref ax, .ref ay, .int 0], gI g ax 48 fx, gI g ay 48 fy, gO q 3 [.ref bx, .ref by_, .int (nI n2)], gI g bx 48 gx, gI g by_ 48 gy]) F hK hP hD hS i_X3_copyFrom_X3 tyX3 tyX3_ok nmX3 0 rfl rfl 2 (by decide) k_X3_copyFrom_f18 rfl (v := .int 0) rfl rfl (Nat.le_of_ble_eq_true rfl) rfl dX3_copyFrom_2 (fun H locs hP hD hS => ?_)
  refine lv_iconst (v := 0) hx hb dX3_copyFrom_5 (by decide) ?_
  refine lv_istore_n (lv' := [(2, .int 0), (0, .ref po), (1, .ref q)]) hx hb dX3_copyFrom_6 rfl hl (by decide) rfl (fun ls hl => ?_)
  have L7 : ∀ (fuel : Nat) (i : Nat) (hx_ : Nat → Int32) (hy_ : Nat → Int32) (ls : Array Slot) (H : Heap) (locs : List Loc), n2 - i < fuel → (i ≤ n2) → (∀ k, k < i → hx_ k = X k) → (∀ k, k < i → hy_ k = Y k) → lv_has ls 3 [(0, .ref po), (1, .ref q), (2, .int (nI i))] → gP g [gO po 3 [.ref ax, .ref ay, .int (nI i)], gI g ax 48 hx_, gI g ay 48 hy_, gO q 3 [.ref bx, .ref by_, .int (nI n2)], gI g bx 48 gx, gI g by_ 48 gy] H → va_D A [gO po 3 [.ref ax, .ref ay, .int (nI i)], gI g ax 48 hx_, gI g ay 48 hy_, gO q 3 [.ref bx, .ref by_, .int (nI n2)], gI g bx 48 gx, gI g by_ 48 gy] → va_S A s.heap H locs → W p l e rm_X3_copyFrom s m args below meth c H locs 0 0 Q (F0 m 7 ls []) := by
    intro fuel
    induction fuel with
    | zero => intro i hx_ hy_ _ _ _ hk; exact absurd hk (Nat.not_lt_zero _)
    | succ fuel_7 ih_7 =>
      intro i hx_ hy_ ls H locs hk_7 hi h1 h2 hl hP hD hS
      refine lv_iload_n hx hb dX3_copyFrom_7 rfl (lv_at hl 2 rfl) ?_
      refine lv_aload_n hx hb dX3_copyFrom_8 rfl (lv_at hl 1 rfl) ?_
      refine g_get (C := RX3) (T := TX3) (N := 3) F hK hP i_X3_copyFrom_X3 3 rfl rfl 2 (by decide) k_X3_copyFrom_f18 (v := .int (nI n2)) rfl dX3_copyFrom_9 ?_
      refine n_icmp_ge (a := i) (b := n2) (tgt := 37) hx hb dX3_copyFrom_12 (by decide) (by omega) (by omega) (fun c_12 => ?_) (fun c_12 => ?_)
      · obtain rfl : n2 = i := by omega
        exact hret _ _ _ _ (hx_, hy_) dX3_copyFrom_37 (⟨h1, h2⟩) hP hD hS
      · refine lv_aload_n hx hb dX3_copyFrom_15 rfl (lv_at hl 0 rfl) ?_
        refine lv_aload_n hx hb dX3_copyFrom_16 rfl (lv_at hl 1 rfl) ?_
        refine g_get (C := RX3) (T := TX3) (N := 3) F hK hP i_X3_copyFrom_X3 3 rfl rfl 0 (by decide) k_X3_copyFrom_f9 (v := .ref bx) rfl dX3_copyFrom_17 ?_
        refine lv_iload_n hx hb dX3_copyFrom_20 rfl (lv_at hl 2 rfl) ?_
        refine g_iald (i := i) (v := (X i)) hx hb hK hP 4 rfl (by decide) (by omega) (hX i (by omega)) dX3_copyFrom_21 ?_
        refine lv_aload_n hx hb dX3_copyFrom_22 rfl (lv_at hl 1 rfl) ?_
        refine g_get (C := RX3) (T := TX3) (N := 3) F hK hP i_X3_copyFrom_X3 3 rfl rfl 1 (by decide) k_X3_copyFrom_f15 (v := .ref by_) rfl dX3_copyFrom_23 ?_
        refine lv_iload_n hx hb dX3_copyFrom_26 rfl (lv_at hl 2 rfl) ?_
        refine g_iald (i := i) (v := (Y i)) hx hb hK hP 5 rfl (by decide) (by omega) (hY i (by omega)) dX3_copyFrom_27 ?_
        refine g_VV (wr := [gO q 3 [.ref bx, .ref by_, .int (nI n2)], gI g bx 48 gx, gI g by_ 48 gy]) (As := [.int (X i), .int (Y i)]) (rest := []) (n := 2) F (c_X3_add l g po ax ay i hx_ hy_ (X i) (Y i) (by omega)) gX3_copyFrom_X3_add rfl (by decide) ⟨by decide, by decide⟩ 0 3 rfl rfl rfl rfl hl.1 rfl (Nat.le_of_ble_eq_true rfl) dX3_copyFrom_28 ⟨Nat.le_of_ble_eq_true rfl, Nat.le_of_ble_eq_true rfl⟩ hK hP hD hS hA [0, 1, 2] [3, 4, 5] (by decide) rfl rfl (by decide) (by decide) (fun u_28 H locs hw_28 hP hD hS => ?_)
        have hP : gP g [gO q 3 [.ref bx, .ref by_, .int (nI n2)], gI g bx 48 gx, gI g by_ 48 gy, gO po 3 [.ref ax, .ref ay, .int (nI (i + 1))], gI g ax 48 (upd hx_ i (X i)), gI g ay 48 (upd hy_ i (Y i))] H := hP
        have hD : va_D A [gO q 3 [.ref bx, .ref by_, .int (nI n2)], gI g bx 48 gx, gI g by_ 48 gy, gO po 3 [.ref ax, .ref ay, .int (nI (i + 1))], gI g ax 48 (upd hx_ i (X i)), gI g ay 48 (upd hy_ i (Y i))] := hD
        refine lv_iinc (v := (nI (i + 1))) (lv' := [(2, .int (nI (i + 1))), (0, .ref po), (1, .ref q)]) hx hb dX3_copyFrom_31 hl (k := 2) rfl (g_inc i 1 (by decide)) (by decide) rfl (fun ls hl => ?_)
        refine lv_goto (tgt := 7) hx hb dX3_copyFrom_34 (by decide) ?_
        exact ih_7 (i + 1) (upd hx_ i (X i)) (upd hy_ i (Y i)) ls _ _ (by omega) (by omega) (upd_c h1 rfl) (upd_c h2 rfl) (lv_sub hl [1, 2, 0] rfl) (hP.sub [3, 4, 5, 0, 1, 2] rfl) (hD.sub [3, 4, 5, 0, 1, 2] (by decide) rfl) hS
  exact L7 ((n2 - 0) + 1) 0 fx fy ls _ _ (Nat.lt_succ_self _) (by omega) (fun k hk => absurd hk (Nat.not_lt_zero k)) (fun k hk => absurd hk (Nat.not_lt_zero k)) (lv_sub hl [1, 2, 0] rfl) hP hD hS

abbrev rm_X3_leaveOutBetween : Room := { frames := 0, cells := 0, slots := 0, locals := 0 }
theorem i_X3_leaveOutBetween_X3 : ∀ w ∈ wsX30, w ∈ wsX3_leaveOutBetween := by decide +kernel
theorem k_X3_leaveOutBetween_f18 : Cond.fieldLink RX3 18 (TX3 2).1 (TX3 2).2.1 (TX3 2).2.2.1 ∈ wsX3_leaveOutBetween := by decide +kernel
theorem k_X3_leaveOutBetween_f9 : Cond.fieldLink RX3 9 (TX3 0).1 (TX3 0).2.1 (TX3 0).2.2.1 ∈ wsX3_leaveOutBetween := by decide +kernel
theorem k_X3_leaveOutBetween_f15 : Cond.fieldLink RX3 15 (TX3 1).1 (TX3 1).2.1 (TX3 1).2.2.1 ∈ wsX3_leaveOutBetween := by decide +kernel
set_option maxHeartbeats 4000000 in
set_option maxRecDepth 100000 in
theorem c_X3_leaveOutBetween (l : Launch) (g : gT) (po : Nat) (ax : Nat) (ay : Nat) (n : Nat) (fx : Nat → Int32) (fy : Nat → Int32) (X : Nat → Int32) (Y : Nat → Int32) (i : Nat) (j : Nat) (hn : n ≤ 48) (hX : ∀ k, k < n → fx k = X k) (hY : ∀ k, k < n → fy k = Y k) (hij : i < j) (hj : j < n) : CtV l g yX3_leaveOutBetween wsX3_leaveOutBetween rm_X3_leaveOutBetween [.ref po, .int (nI i), .int (nI j)] [gO po 3 [.ref ax, .ref ay, .int (nI n)], gI g ax 48 fx, gI g ay 48 fy] (fun (u : (Nat → Int32) × (Nat → Int32)) => (∀ k, k < n - (j - i - 1) → u.1 k = shfS X i j k) ∧ (∀ k, k < n - (j - i - 1) → u.2 k = shfS Y i j k)) (fun (u : (Nat → Int32) × (Nat → Int32)) => [gO po 3 [.ref ax, .ref ay, .int (nI (n - (j - i - 1)))], gI g ax 48 u.1, gI g ay 48 u.2]) := by
  refine CtV.of (cc := cX3_leaveOutBetween) (maxL := 5) (by decide) rfl (Nat.le_of_ble_eq_true rfl) ?_
  intro p e s m args below meth c A Q hnm F hK hA hP hD hS hret ls hl
  have hx := F.1
  have hb := F.2.1
  have hl : lv_has ls 5 [(0, .ref po), (1, .int (nI i)), (2, .int (nI j))] := hl
  refine lv_iload_n hx hb dX3_leaveOutBetween_0 rfl (lv_at hl 1 rfl) ?_
  refine lv_iconst (v := 1) hx hb dX3_leaveOutBetween_1 (by decide) ?_
  refine n_iadd (a := i) (b := 1) (d := i + 1) hx hb dX3_leaveOutBetween_2 (by omega) ?_
  refine lv_istore_n (lv' := [(3, .int (nI (i + 1))), (0, .ref po), (1, .int (nI i)), (2, .int (nI j))]) hx hb dX3_leaveOutBetween_3 rfl hl (by decide) rfl (fun ls hl => ?_)
  refine lv_iload_n hx hb dX3_leaveOutBetween_4 rfl (lv_at hl 3 rfl) ?_
  refine lv_istore (lv' := [(4, .int (nI j)), (3, .int (nI (i + 1))), (0, .ref po), (1, .int (nI i)), (2, .int (nI j))]) hx hb dX3_leaveOutBetween_5 hl (by decide) rfl (fun ls hl => ?_)
  have L7 : ∀ (fuel : Nat) (t : Nat) (fr : Nat) (gx : Nat → Int32) (gy : Nat → Int32) (ls : Array Slot) (H : Heap) (locs : List Loc), n - fr < fuel → (j ≤ fr) → (fr ≤ n) → (t + j = i + 1 + fr) → (∀ k, k < t → gx k = shfS X i j k) → (∀ k, k < t → gy k = shfS Y i j k) → (∀ k, fr ≤ k → k < n → gx k = X k) → (∀ k, fr ≤ k → k < n → gy k = Y k) → lv_has ls 5 [(0, .ref po), (3, .int (nI t)), (4, .int (nI fr))] → gP g [gO po 3 [.ref ax, .ref ay, .int (nI n)], gI g ax 48 gx, gI g ay 48 gy] H → va_D A [gO po 3 [.ref ax, .ref ay, .int (nI n)], gI g ax 48 gx, gI g ay 48 gy] → va_S A s.heap H locs → W p l e rm_X3_leaveOutBetween s m args below meth c H locs 0 0 Q (F0 m 7 ls []) := by
    intro fuel
    induction fuel with
    | zero => intro t fr gx gy _ _ _ hk; exact absurd hk (Nat.not_lt_zero _)
    | succ fuel_7 ih_7 =>
      intro t fr gx gy ls H locs hk_7 h1 h2 h3 a1 a2 b1 b2 hl hP hD hS
      refine lv_iload hx hb dX3_leaveOutBetween_7 (lv_at hl 2 rfl) ?_
      refine lv_aload_n hx hb dX3_leaveOutBetween_9 rfl (lv_at hl 0 rfl) ?_
      refine g_get (C := RX3) (T := TX3) (N := 3) F hK hP i_X3_leaveOutBetween_X3 0 rfl rfl 2 (by decide) k_X3_leaveOutBetween_f18 (v := .int (nI n)) rfl dX3_leaveOutBetween_10 ?_
      refine n_icmp_ge (a := fr) (b := n) (tgt := 51) hx hb dX3_leaveOutBetween_13 (by decide) (by omega) (by omega) (fun c_13 => ?_) (fun c_13 => ?_)
      · obtain rfl : n - (j - i - 1) = t := by omega
        refine lv_aload_n hx hb dX3_leaveOutBetween_51 rfl (lv_at hl 0 rfl) ?_
        refine lv_iload_n hx hb dX3_leaveOutBetween_52 rfl (lv_at hl 1 rfl) ?_
        refine g_put (C := RX3) (T := TX3) (N := 3) (ws2 := [gO po 3 [.ref ax, .ref ay, .int (nI (n - (j - i - 1)))], gI g ax 48 gx, gI g ay 48 gy]) F hK hP hD hS i_X3_leaveOutBetween_X3 tyX3 tyX3_ok nmX3 0 rfl rfl 2 (by decide) k_X3_leaveOutBetween_f18 rfl (v := .int (nI (n - (j - i - 1)))) rfl rfl (Nat.le_of_ble_eq_true rfl) rfl dX3_leaveOutBetween_53 (fun H locs hP hD hS => ?_)
        exact hret _ _ _ _ (gx, gy) dX3_leaveOutBetween_56 (⟨a1, a2⟩) hP hD hS
      · refine lv_aload_n hx hb dX3_leaveOutBetween_16 rfl (lv_at hl 0 rfl) ?_
        refine g_get (C := RX3) (T := TX3) (N := 3) F hK hP i_X3_leaveOutBetween_X3 0 rfl rfl 0 (by decide) k_X3_leaveOutBetween_f9 (v := .ref ax) rfl dX3_leaveOutBetween_17 ?_
        refine lv_iload_n hx hb dX3_leaveOutBetween_20 rfl (lv_at hl 1 rfl) ?_
        refine lv_aload_n hx hb dX3_leaveOutBetween_21 rfl (lv_at hl 0 rfl) ?_
        refine g_get (C := RX3) (T := TX3) (N := 3) F hK hP i_X3_leaveOutBetween_X3 0 rfl rfl 0 (by decide) k_X3_leaveOutBetween_f9 (v := .ref ax) rfl dX3_leaveOutBetween_22 ?_
        refine lv_iload hx hb dX3_leaveOutBetween_25 (lv_at hl 2 rfl) ?_
        refine g_iald (i := fr) (v := (X fr)) hx hb hK hP 1 rfl (by decide) (by omega) (b1 fr (Nat.le_refl _) (by omega)) dX3_leaveOutBetween_27 ?_
        refine g_iast (i := t) (ws2 := [gO po 3 [.ref ax, .ref ay, .int (nI n)], gI g ax 48 (upd gx t (X fr)), gI g ay 48 gy]) hx hb hK hP hD hS 1 rfl (by decide) (by omega) rfl dX3_leaveOutBetween_28 (fun H locs hP hD hS => ?_)
        refine lv_aload_n hx hb dX3_leaveOutBetween_29 rfl (lv_at hl 0 rfl) ?_
        refine g_get (C := RX3) (T := TX3) (N := 3) F hK hP i_X3_leaveOutBetween_X3 0 rfl rfl 1 (by decide) k_X3_leaveOutBetween_f15 (v := .ref ay) rfl dX3_leaveOutBetween_30 ?_
        refine lv_iload_n hx hb dX3_leaveOutBetween_33 rfl (lv_at hl 1 rfl) ?_
        refine lv_aload_n hx hb dX3_leaveOutBetween_34 rfl (lv_at hl 0 rfl) ?_
        refine g_get (C := RX3) (T := TX3) (N := 3) F hK hP i_X3_leaveOutBetween_X3 0 rfl rfl 1 (by decide) k_X3_leaveOutBetween_f15 (v := .ref ay) rfl dX3_leaveOutBetween_35 ?_
        refine lv_iload hx hb dX3_leaveOutBetween_38 (lv_at hl 2 rfl) ?_
        refine g_iald (i := fr) (v := (Y fr)) hx hb hK hP 2 rfl (by decide) (by omega) (b2 fr (Nat.le_refl _) (by omega)) dX3_leaveOutBetween_40 ?_
        refine g_iast (i := t) (ws2 := [gO po 3 [.ref ax, .ref ay, .int (nI n)], gI g ax 48 (upd gx t (X fr)), gI g ay 48 (upd gy t (Y fr))]) hx hb hK hP hD hS 2 rfl (by decide) (by omega) rfl dX3_leaveOutBetween_41 (fun H locs hP hD hS => ?_)
        refine lv_iinc (v := (nI (t + 1))) (lv' := [(3, .int (nI (t + 1))), (0, .ref po), (4, .int (nI fr))]) hx hb dX3_leaveOutBetween_42 hl (k := 1) rfl (g_inc t 1 (by decide)) (by decide) rfl (fun ls hl => ?_)
        refine lv_iinc (v := (nI (fr + 1))) (lv' := [(4, .int (nI (fr + 1))), (3, .int (nI (t + 1))), (0, .ref po)]) hx hb dX3_leaveOutBetween_45 hl (k := 2) rfl (g_inc fr 1 (by decide)) (by decide) rfl (fun ls hl => ?_)
        refine lv_goto (tgt := 7) hx hb dX3_leaveOutBetween_48 (by decide) ?_
        exact ih_7 (t + 1) (fr + 1) (upd gx t (X fr)) (upd gy t (Y fr)) ls _ _ (by omega) (by omega) (by omega) (by omega) (shf_1 a1 h3 hij h1) (shf_1 a2 h3 hij h1) (shf_2 b1 (by omega)) (shf_2 b2 (by omega)) (lv_sub hl [2, 1, 0] rfl) hP hD hS
  exact L7 ((n - j) + 1) (i + 1) j fx fy ls _ _ (Nat.lt_succ_self _) (by omega) (by omega) (by omega) (shf_0 hX (by omega)) (shf_0 hY (by omega)) (fun k _ h => hX k h) (fun k _ h => hY k h) (lv_sub hl [2, 1, 0] rfl) hP hD hS

abbrev rm_X3_isNear : Room := { frames := 1, cells := 0, slots := 0, locals := 21 }
theorem i_X3_isNear_X3 : ∀ w ∈ wsX30, w ∈ wsX3_isNear := by decide +kernel
theorem k_X3_isNear_f9 : Cond.fieldLink RX3 9 (TX3 0).1 (TX3 0).2.1 (TX3 0).2.2.1 ∈ wsX3_isNear := by decide +kernel
theorem k_X3_isNear_m26 : Cond.methodLink RX3 26 Lib.Math.abs.name ∈ wsX3_isNear := by decide +kernel
theorem k_X3_isNear_sabs : Cond.static Lib.Math.abs.name ∈ wsX3_isNear := by decide +kernel
theorem k_X3_isNear_im : Cond.initialized "java/lang/Math" ∈ wsX3_isNear := by decide +kernel
theorem k_X3_isNear_xabs : Cond.code Lib.Math.abs.name Lib.Math.abs.code 1 (some .int) ∈ wsX3_isNear := by decide +kernel
theorem k_X3_isNear_f15 : Cond.fieldLink RX3 15 (TX3 1).1 (TX3 1).2.1 (TX3 1).2.2.1 ∈ wsX3_isNear := by decide +kernel
set_option maxHeartbeats 4000000 in
set_option maxRecDepth 100000 in
theorem c_X3_isNear (l : Launch) (g : gT) (po : Nat) (ax : Nat) (ay : Nat) (n : Nat) (fx : Nat → Int32) (fy : Nat → Int32) (X : Nat → Int32) (Y : Nat → Int32) (i : Nat) (x : Int32) (y : Int32) (d : Int32) (hn : n ≤ 48) (hX : ∀ k, k < n → fx k = X k) (hY : ∀ k, k < n → fy k = Y k) (hi : i < n) : CtI l g yX3_isNear wsX3_isNear rm_X3_isNear [.ref po, .int (nI i), .int x, .int y, .int d] [gO po 3 [.ref ax, .ref ay, .int (nI n)], gI g ax 48 fx, gI g ay 48 fy] (fun (r : Int32) (_ : Unit) => (r = 1 ∧ nearB X Y i x y d = true) ∨ (r = 0 ∧ ¬ nearB X Y i x y d = true)) (fun (_ : Unit) => [gO po 3 [.ref ax, .ref ay, .int (nI n)], gI g ax 48 fx, gI g ay 48 fy]) := by
  refine CtI.of (cc := cX3_isNear) (maxL := 5) (ret := .boolean) (by decide) rfl (Nat.le_of_ble_eq_true rfl) ?_
  intro p e s m args below meth c A Q hnm F hK hA hP hD hS hret ls hl
  have hx := F.1
  have hb := F.2.1
  have hl : lv_has ls 5 [(0, .ref po), (1, .int (nI i)), (2, .int x), (3, .int y), (4, .int d)] := hl
  refine lv_aload_n hx hb dX3_isNear_0 rfl (lv_at hl 0 rfl) ?_
  refine g_get (C := RX3) (T := TX3) (N := 3) F hK hP i_X3_isNear_X3 0 rfl rfl 0 (by decide) k_X3_isNear_f9 (v := .ref ax) rfl dX3_isNear_1 ?_
  refine lv_iload_n hx hb dX3_isNear_4 rfl (lv_at hl 1 rfl) ?_
  refine g_iald (i := i) (v := (X i)) hx hb hK hP 1 rfl (by decide) (by omega) (hX i (by omega)) dX3_isNear_5 ?_
  refine lv_iload_n hx hb dX3_isNear_6 rfl (lv_at hl 2 rfl) ?_
  refine lv_isub hx hb dX3_isNear_7 ?_
  refine g_mabs F hl.1 k_X3_isNear_m26 k_X3_isNear_sabs k_X3_isNear_im k_X3_isNear_xabs (by decide) (Nat.le_of_ble_eq_true rfl) (Nat.le_of_ble_eq_true rfl) (Nat.le_of_ble_eq_true rfl) dX3_isNear_8 (v := (g_abs ((X i) - x))) (rfl) ?_
  refine lv_iload hx hb dX3_isNear_11 (lv_at hl 4 rfl) ?_
  refine lv_icmp_gt (tgt := 36) hx hb dX3_isNear_13 (by decide) (fun c_13 => ?_) (fun c_13 => ?_)
  · refine lv_iconst (v := 0) hx hb dX3_isNear_36 (by decide) ?_
    exact hret _ _ _ _ 0 () dX3_isNear_37 rfl (by simp [nearB, c_13]) hP hD hS
  · refine lv_aload_n hx hb dX3_isNear_16 rfl (lv_at hl 0 rfl) ?_
    refine g_get (C := RX3) (T := TX3) (N := 3) F hK hP i_X3_isNear_X3 0 rfl rfl 1 (by decide) k_X3_isNear_f15 (v := .ref ay) rfl dX3_isNear_17 ?_
    refine lv_iload_n hx hb dX3_isNear_20 rfl (lv_at hl 1 rfl) ?_
    refine g_iald (i := i) (v := (Y i)) hx hb hK hP 2 rfl (by decide) (by omega) (hY i (by omega)) dX3_isNear_21 ?_
    refine lv_iload_n hx hb dX3_isNear_22 rfl (lv_at hl 3 rfl) ?_
    refine lv_isub hx hb dX3_isNear_23 ?_
    refine g_mabs F hl.1 k_X3_isNear_m26 k_X3_isNear_sabs k_X3_isNear_im k_X3_isNear_xabs (by decide) (Nat.le_of_ble_eq_true rfl) (Nat.le_of_ble_eq_true rfl) (Nat.le_of_ble_eq_true rfl) dX3_isNear_24 (v := (g_abs ((Y i) - y))) (rfl) ?_
    refine lv_iload hx hb dX3_isNear_27 (lv_at hl 4 rfl) ?_
    refine lv_icmp_gt (tgt := 36) hx hb dX3_isNear_29 (by decide) (fun c_29 => ?_) (fun c_29 => ?_)
    · refine lv_iconst (v := 0) hx hb dX3_isNear_36 (by decide) ?_
      exact hret _ _ _ _ 0 () dX3_isNear_37 rfl (by simp [nearB, c_13, c_29]) hP hD hS
    · refine lv_iconst (v := 1) hx hb dX3_isNear_32 (by decide) ?_
      refine lv_goto (tgt := 37) hx hb dX3_isNear_33 (by decide) ?_
      exact hret _ _ _ _ 1 () dX3_isNear_37 rfl (by simp [nearB, c_13, c_29]) hP hD hS

abbrev rm_X3_hasPointNear : Room := { frames := 2, cells := 0, slots := 0, locals := 45 }
theorem i_X3_hasPointNear_X3 : ∀ w ∈ wsX30, w ∈ wsX3_hasPointNear := by decide +kernel
theorem k_X3_hasPointNear_f18 : Cond.fieldLink RX3 18 (TX3 2).1 (TX3 2).2.1 (TX3 2).2.2.1 ∈ wsX3_hasPointNear := by decide +kernel
set_option maxHeartbeats 4000000 in
set_option maxRecDepth 100000 in
theorem c_X3_hasPointNear (l : Launch) (g : gT) (po : Nat) (ax : Nat) (ay : Nat) (n : Nat) (fx : Nat → Int32) (fy : Nat → Int32) (X : Nat → Int32) (Y : Nat → Int32) (x : Int32) (y : Int32) (d : Int32) (hn : n ≤ 48) (hX : ∀ k, k < n → fx k = X k) (hY : ∀ k, k < n → fy k = Y k) : CtI l g yX3_hasPointNear wsX3_hasPointNear rm_X3_hasPointNear [.ref po, .int x, .int y, .int d] [gO po 3 [.ref ax, .ref ay, .int (nI n)], gI g ax 48 fx, gI g ay 48 fy] (fun (r : Int32) (_ : Unit) => (r = 1 ∧ anyB (fun k => nearB X Y k x y d) n = true) ∨ (r = 0 ∧ ¬ anyB (fun k => nearB X Y k x y d) n = true)) (fun (_ : Unit) => [gO po 3 [.ref ax, .ref ay, .int (nI n)], gI g ax 48 fx, gI g ay 48 fy]) := by
  refine CtI.of (cc := cX3_hasPointNear) (maxL := 5) (ret := .boolean) (by decide) rfl (Nat.le_of_ble_eq_true rfl) ?_
  intro p e s m args below meth c A Q hnm F hK hA hP hD hS hret ls hl
  have hx := F.1
  have hb := F.2.1
  have hl : lv_has ls 5 [(0, .ref po), (1, .int x), (2, .int y), (3, .int d)] := hl
  refine lv_iconst (v := 0) hx hb dX3_hasPointNear_0 (by decide) ?_
  refine lv_istore (lv' := [(4, .int 0), (0, .ref po), (1, .int x), (2, .int y), (3, .int d)]) hx hb dX3_hasPointNear_1 hl (by decide) rfl (fun ls hl => ?_)
  have L3 : ∀ (fuel : Nat) (i : Nat) (ls : Array Slot) (H : Heap) (locs : List Loc), n - i < fuel → (i ≤ n) → (anyB (fun k => nearB X Y k x y d) i = false) → lv_has ls 5 [(0, .ref po), (1, .int x), (2, .int y), (3, .int d), (4, .int (nI i))] → gP g [gO po 3 [.ref ax, .ref ay, .int (nI n)], gI g ax 48 fx, gI g ay 48 fy] H → va_D A [gO po 3 [.ref ax, .ref ay, .int (nI n)], gI g ax 48 fx, gI g ay 48 fy] → va_S A s.heap H locs → W p l e rm_X3_hasPointNear s m args below meth c H locs 0 0 Q (F0 m 3 ls []) := by
    intro fuel
    induction fuel with
    | zero => intro i _ _ _ hk; exact absurd hk (Nat.not_lt_zero _)
    | succ fuel_3 ih_3 =>
      intro i ls H locs hk_3 hi hv hl hP hD hS
      refine lv_iload hx hb dX3_hasPointNear_3 (lv_at hl 4 rfl) ?_
      refine lv_aload_n hx hb dX3_hasPointNear_5 rfl (lv_at hl 0 rfl) ?_
      refine g_get (C := RX3) (T := TX3) (N := 3) F hK hP i_X3_hasPointNear_X3 0 rfl rfl 2 (by decide) k_X3_hasPointNear_f18 (v := .int (nI n)) rfl dX3_hasPointNear_6 ?_
      refine n_icmp_ge (a := i) (b := n) (tgt := 32) hx hb dX3_hasPointNear_9 (by decide) (by omega) (by omega) (fun c_9 => ?_) (fun c_9 => ?_)
      · refine lv_iconst (v := 0) hx hb dX3_hasPointNear_32 (by decide) ?_
        exact hret _ _ _ _ 0 () dX3_hasPointNear_33 rfl (Or.inr ⟨rfl, by rw [show n = i by omega, hv]; decide⟩) hP hD hS
      · refine lv_aload_n hx hb dX3_hasPointNear_12 rfl (lv_at hl 0 rfl) ?_
        refine lv_iload hx hb dX3_hasPointNear_13 (lv_at hl 4 rfl) ?_
        refine lv_iload_n hx hb dX3_hasPointNear_15 rfl (lv_at hl 1 rfl) ?_
        refine lv_iload_n hx hb dX3_hasPointNear_16 rfl (lv_at hl 2 rfl) ?_
        refine lv_iload_n hx hb dX3_hasPointNear_17 rfl (lv_at hl 3 rfl) ?_
        refine g_VI (wr := []) (As := [.int (nI i), .int x, .int y, .int d]) (rest := []) (n := 4) F (c_X3_isNear l g po ax ay n fx fy X Y i x y d (by omega) (hX) (hY) (by omega)) gX3_hasPointNear_X3_isNear rfl (by decide) ⟨by decide, by decide⟩ 0 3 rfl rfl rfl rfl hl.1 rfl (Nat.le_of_ble_eq_true rfl) dX3_hasPointNear_18 ⟨Nat.le_of_ble_eq_true rfl, Nat.le_of_ble_eq_true rfl⟩ hK hP hD hS hA [0, 1, 2] [] (by decide) rfl rfl (by decide) (by decide) (fun r_18 u_18 H locs hw_18 hP hD hS => ?_)
        have hP : gP g [gO po 3 [.ref ax, .ref ay, .int (nI n)], gI g ax 48 fx, gI g ay 48 fy] H := hP
        have hD : va_D A [gO po 3 [.ref ax, .ref ay, .int (nI n)], gI g ax 48 fx, gI g ay 48 fy] := hD
        rcases hw_18 with ⟨rfl, b_18⟩ | ⟨rfl, b_18⟩
        · refine lv_if_eq (tgt := 26) hx hb dX3_hasPointNear_21 (by decide) (fun h => absurd h (by decide)) (fun _ => ?_)
          refine lv_iconst (v := 1) hx hb dX3_hasPointNear_24 (by decide) ?_
          exact hret _ _ _ _ 1 () dX3_hasPointNear_25 rfl (Or.inl ⟨rfl, anyB_of c_9 b_18⟩) hP hD hS
        · refine lv_if_eq (tgt := 26) hx hb dX3_hasPointNear_21 (by decide) (fun _ => ?_) (fun h => absurd (by decide) h)
          refine lv_iinc (v := (nI (i + 1))) (lv' := [(4, .int (nI (i + 1))), (0, .ref po), (1, .int x), (2, .int y), (3, .int d)]) hx hb dX3_hasPointNear_26 hl (k := 4) rfl (g_inc i 1 (by decide)) (by decide) rfl (fun ls hl => ?_)
          refine lv_goto (tgt := 3) hx hb dX3_hasPointNear_29 (by decide) ?_
          exact ih_3 (i + 1) ls _ _ (by omega) (by omega) (anyB_no hv b_18) (lv_sub hl [1, 2, 3, 4, 0] rfl) hP hD hS
  exact L3 ((n - 0) + 1) 0 ls _ _ (Nat.lt_succ_self _) (by omega) (rfl) (lv_sub hl [1, 2, 3, 4, 0] rfl) hP hD hS

theorem lenS_s (X Y : Nat → Int32) (j : Nat) : lenS X Y j + (g_abs (X (j + 1) - X j) + g_abs (Y (j + 1) - Y j)) = lenS X Y (j + 1) := rfl
abbrev rm_X3_sumOfPieces : Room := { frames := 1, cells := 0, slots := 0, locals := 21 }
theorem i_X3_sumOfPieces_X3 : ∀ w ∈ wsX30, w ∈ wsX3_sumOfPieces := by decide +kernel
theorem k_X3_sumOfPieces_f18 : Cond.fieldLink RX3 18 (TX3 2).1 (TX3 2).2.1 (TX3 2).2.2.1 ∈ wsX3_sumOfPieces := by decide +kernel
theorem k_X3_sumOfPieces_f9 : Cond.fieldLink RX3 9 (TX3 0).1 (TX3 0).2.1 (TX3 0).2.2.1 ∈ wsX3_sumOfPieces := by decide +kernel
theorem k_X3_sumOfPieces_m26 : Cond.methodLink RX3 26 Lib.Math.abs.name ∈ wsX3_sumOfPieces := by decide +kernel
theorem k_X3_sumOfPieces_sabs : Cond.static Lib.Math.abs.name ∈ wsX3_sumOfPieces := by decide +kernel
theorem k_X3_sumOfPieces_im : Cond.initialized "java/lang/Math" ∈ wsX3_sumOfPieces := by decide +kernel
theorem k_X3_sumOfPieces_xabs : Cond.code Lib.Math.abs.name Lib.Math.abs.code 1 (some .int) ∈ wsX3_sumOfPieces := by decide +kernel
theorem k_X3_sumOfPieces_f15 : Cond.fieldLink RX3 15 (TX3 1).1 (TX3 1).2.1 (TX3 1).2.2.1 ∈ wsX3_sumOfPieces := by decide +kernel
set_option maxHeartbeats 4000000 in
set_option maxRecDepth 100000 in
theorem c_X3_sumOfPieces (l : Launch) (g : gT) (po : Nat) (ax : Nat) (ay : Nat) (n : Nat) (fx : Nat → Int32) (fy : Nat → Int32) (X : Nat → Int32) (Y : Nat → Int32) (hn : n ≤ 48) (hX : ∀ k, k < n → fx k = X k) (hY : ∀ k, k < n → fy k = Y k) (h1n : 1 ≤ n) : CtI l g yX3_sumOfPieces wsX3_sumOfPieces rm_X3_sumOfPieces [.ref po] [gO po 3 [.ref ax, .ref ay, .int (nI n)], gI g ax 48 fx, gI g ay 48 fy] (fun (r : Int32) (_ : Unit) => r = lenS X Y (n - 1)) (fun (_ : Unit) => [gO po 3 [.ref ax, .ref ay, .int (nI n)], gI g ax 48 fx, gI g ay 48 fy]) := by
  refine CtI.of (cc := cX3_sumOfPieces) (maxL := 3) (ret := .int) (by decide) rfl (Nat.le_of_ble_eq_true rfl) ?_
  intro p e s m args below meth c A Q hnm F hK hA hP hD hS hret ls hl
  have hx := F.1
  have hb := F.2.1
  have hl : lv_has ls 3 [(0, .ref po)] := hl
  refine lv_iconst (v := 0) hx hb dX3_sumOfPieces_0 (by decide) ?_
  refine lv_istore_n (lv' := [(1, .int 0), (0, .ref po)]) hx hb dX3_sumOfPieces_1 rfl hl (by decide) rfl (fun ls hl => ?_)
  refine lv_iconst (v := 1) hx hb dX3_sumOfPieces_2 (by decide) ?_
  refine lv_istore_n (lv' := [(2, .int 1), (1, .int 0), (0, .ref po)]) hx hb dX3_sumOfPieces_3 rfl hl (by decide) rfl (fun ls hl => ?_)
  have L4 : ∀ (fuel : Nat) (sm : Int32) (j : Nat) (ls : Array Slot) (H : Heap) (locs : List Loc), n - j < fuel → (j + 1 ≤ n) → (sm = lenS X Y j) → lv_has ls 3 [(0, .ref po), (1, .int sm), (2, .int (nI (j + 1)))] → gP g [gO po 3 [.ref ax, .ref ay, .int (nI n)], gI g ax 48 fx, gI g ay 48 fy] H → va_D A [gO po 3 [.ref ax, .ref ay, .int (nI n)], gI g ax 48 fx, gI g ay 48 fy] → va_S A s.heap H locs → W p l e rm_X3_sumOfPieces s m args below meth c H locs 0 0 Q (F0 m 4 ls []) := by
    intro fuel
    induction fuel with
    | zero => intro sm j _ _ _ hk; exact absurd hk (Nat.not_lt_zero _)
    | succ fuel_4 ih_4 =>
      intro sm j ls H locs hk_4 hj hs hl hP hD hS
      refine lv_iload_n hx hb dX3_sumOfPieces_4 rfl (lv_at hl 2 rfl) ?_
      refine lv_aload_n hx hb dX3_sumOfPieces_5 rfl (lv_at hl 0 rfl) ?_
      refine g_get (C := RX3) (T := TX3) (N := 3) F hK hP i_X3_sumOfPieces_X3 0 rfl rfl 2 (by decide) k_X3_sumOfPieces_f18 (v := .int (nI n)) rfl dX3_sumOfPieces_6 ?_
      refine n_icmp_ge (a := j + 1) (b := n) (tgt := 58) hx hb dX3_sumOfPieces_9 (by decide) (by omega) (by omega) (fun c_9 => ?_) (fun c_9 => ?_)
      · refine lv_iload_n hx hb dX3_sumOfPieces_58 rfl (lv_at hl 1 rfl) ?_
        exact hret _ _ _ _ sm () dX3_sumOfPieces_59 rfl (by rw [hs]; congr 1; omega) hP hD hS
      · refine lv_iload_n hx hb dX3_sumOfPieces_12 rfl (lv_at hl 1 rfl) ?_
        refine lv_aload_n hx hb dX3_sumOfPieces_13 rfl (lv_at hl 0 rfl) ?_
        refine g_get (C := RX3) (T := TX3) (N := 3) F hK hP i_X3_sumOfPieces_X3 0 rfl rfl 0 (by decide) k_X3_sumOfPieces_f9 (v := .ref ax) rfl dX3_sumOfPieces_14 ?_
        refine lv_iload_n hx hb dX3_sumOfPieces_17 rfl (lv_at hl 2 rfl) ?_
        refine g_iald (i := j + 1) (v := (X (j + 1))) hx hb hK hP 1 rfl (by decide) (by omega) (hX (j + 1) (by omega)) dX3_sumOfPieces_18 ?_
        refine lv_aload_n hx hb dX3_sumOfPieces_19 rfl (lv_at hl 0 rfl) ?_
        refine g_get (C := RX3) (T := TX3) (N := 3) F hK hP i_X3_sumOfPieces_X3 0 rfl rfl 0 (by decide) k_X3_sumOfPieces_f9 (v := .ref ax) rfl dX3_sumOfPieces_20 ?_
        refine lv_iload_n hx hb dX3_sumOfPieces_23 rfl (lv_at hl 2 rfl) ?_
        refine lv_iconst (v := 1) hx hb dX3_sumOfPieces_24 (by decide) ?_
        refine n_isub (a := j + 1) (b := 1) (d := j) hx hb dX3_sumOfPieces_25 (by omega) (by omega) ?_
        refine g_iald (i := j) (v := (X j)) hx hb hK hP 1 rfl (by decide) (by omega) (hX j (by omega)) dX3_sumOfPieces_26 ?_
        refine lv_isub hx hb dX3_sumOfPieces_27 ?_
        refine g_mabs F hl.1 k_X3_sumOfPieces_m26 k_X3_sumOfPieces_sabs k_X3_sumOfPieces_im k_X3_sumOfPieces_xabs (by decide) (Nat.le_of_ble_eq_true rfl) (Nat.le_of_ble_eq_true rfl) (Nat.le_of_ble_eq_true rfl) dX3_sumOfPieces_28 (v := (g_abs ((X (j + 1)) - (X j)))) (rfl) ?_
        refine lv_aload_n hx hb dX3_sumOfPieces_31 rfl (lv_at hl 0 rfl) ?_
        refine g_get (C := RX3) (T := TX3) (N := 3) F hK hP i_X3_sumOfPieces_X3 0 rfl rfl 1 (by decide) k_X3_sumOfPieces_f15 (v := .ref ay) rfl dX3_sumOfPieces_32 ?_
        refine lv_iload_n hx hb dX3_sumOfPieces_35 rfl (lv_at hl 2 rfl) ?_
        refine g_iald (i := j + 1) (v := (Y (j + 1))) hx hb hK hP 2 rfl (by decide) (by omega) (hY (j + 1) (by omega)) dX3_sumOfPieces_36 ?_
        refine lv_aload_n hx hb dX3_sumOfPieces_37 rfl (lv_at hl 0 rfl) ?_
        refine g_get (C := RX3) (T := TX3) (N := 3) F hK hP i_X3_sumOfPieces_X3 0 rfl rfl 1 (by decide) k_X3_sumOfPieces_f15 (v := .ref ay) rfl dX3_sumOfPieces_38 ?_
        refine lv_iload_n hx hb dX3_sumOfPieces_41 rfl (lv_at hl 2 rfl) ?_
        refine lv_iconst (v := 1) hx hb dX3_sumOfPieces_42 (by decide) ?_
        refine n_isub (a := j + 1) (b := 1) (d := j) hx hb dX3_sumOfPieces_43 (by omega) (by omega) ?_
        refine g_iald (i := j) (v := (Y j)) hx hb hK hP 2 rfl (by decide) (by omega) (hY j (by omega)) dX3_sumOfPieces_44 ?_
        refine lv_isub hx hb dX3_sumOfPieces_45 ?_
        refine g_mabs F hl.1 k_X3_sumOfPieces_m26 k_X3_sumOfPieces_sabs k_X3_sumOfPieces_im k_X3_sumOfPieces_xabs (by decide) (Nat.le_of_ble_eq_true rfl) (Nat.le_of_ble_eq_true rfl) (Nat.le_of_ble_eq_true rfl) dX3_sumOfPieces_46 (v := (g_abs ((Y (j + 1)) - (Y j)))) (rfl) ?_
        refine lv_iadd hx hb dX3_sumOfPieces_49 ?_
        refine lv_iadd hx hb dX3_sumOfPieces_50 ?_
        refine lv_istore_n (lv' := [(1, .int (sm + ((g_abs ((X (j + 1)) - (X j))) + (g_abs ((Y (j + 1)) - (Y j)))))), (0, .ref po), (2, .int (nI (j + 1)))]) hx hb dX3_sumOfPieces_51 rfl hl (by decide) rfl (fun ls hl => ?_)
        refine lv_iinc (v := (nI (j + 2))) (lv' := [(2, .int (nI (j + 2))), (1, .int (sm + ((g_abs ((X (j + 1)) - (X j))) + (g_abs ((Y (j + 1)) - (Y j)))))), (0, .ref po)]) hx hb dX3_sumOfPieces_52 hl (k := 2) rfl (g_inc (j + 1) 1 (by decide)) (by decide) rfl (fun ls hl => ?_)
        refine lv_goto (tgt := 4) hx hb dX3_sumOfPieces_55 (by decide) ?_
        exact ih_4 (sm + ((g_abs ((X (j + 1)) - (X j))) + (g_abs ((Y (j + 1)) - (Y j))))) (j + 1) ls _ _ (by omega) (by omega) (by rw [hs]; rfl) (lv_sub hl [2, 1, 0] rfl) hP hD hS
  exact L4 ((n - 0) + 1) 0 0 ls _ _ (Nat.lt_succ_self _) (by omega) (rfl) (lv_sub hl [2, 1, 0] rfl) hP hD hS

theorem arS_s (X Y : Nat → Int32) {i k : Nat} (h : i ≤ k) : arS X Y i (k - i) + (X k * Y (k + 1) - X (k + 1) * Y k) = arS X Y i (k + 1 - i) := by
  obtain ⟨d, rfl⟩ : ∃ d, k = i + d := ⟨k - i, by omega⟩
  rw [show i + d - i = d by omega, show i + d + 1 - i = d + 1 by omega]
  rfl
abbrev rm_X3_twiceArea : Room := { frames := 1, cells := 0, slots := 0, locals := 21 }
theorem i_X3_twiceArea_X3 : ∀ w ∈ wsX30, w ∈ wsX3_twiceArea := by decide +kernel
theorem k_X3_twiceArea_f9 : Cond.fieldLink RX3 9 (TX3 0).1 (TX3 0).2.1 (TX3 0).2.2.1 ∈ wsX3_twiceArea := by decide +kernel
theorem k_X3_twiceArea_f15 : Cond.fieldLink RX3 15 (TX3 1).1 (TX3 1).2.1 (TX3 1).2.2.1 ∈ wsX3_twiceArea := by decide +kernel
theorem k_X3_twiceArea_m26 : Cond.methodLink RX3 26 Lib.Math.abs.name ∈ wsX3_twiceArea := by decide +kernel
theorem k_X3_twiceArea_sabs : Cond.static Lib.Math.abs.name ∈ wsX3_twiceArea := by decide +kernel
theorem k_X3_twiceArea_im : Cond.initialized "java/lang/Math" ∈ wsX3_twiceArea := by decide +kernel
theorem k_X3_twiceArea_xabs : Cond.code Lib.Math.abs.name Lib.Math.abs.code 1 (some .int) ∈ wsX3_twiceArea := by decide +kernel
set_option maxHeartbeats 4000000 in
set_option maxRecDepth 100000 in
theorem c_X3_twiceArea (l : Launch) (g : gT) (po : Nat) (ax : Nat) (ay : Nat) (n : Nat) (fx : Nat → Int32) (fy : Nat → Int32) (X : Nat → Int32) (Y : Nat → Int32) (i : Nat) (j : Nat) (hn : n ≤ 48) (hX : ∀ k, k < n → fx k = X k) (hY : ∀ k, k < n → fy k = Y k) (hij : i ≤ j) (hj : j < n) : CtI l g yX3_twiceArea wsX3_twiceArea rm_X3_twiceArea [.ref po, .int (nI i), .int (nI j)] [gO po 3 [.ref ax, .ref ay, .int (nI n)], gI g ax 48 fx, gI g ay 48 fy] (fun (r : Int32) (_ : Unit) => r = areaS X Y i j) (fun (_ : Unit) => [gO po 3 [.ref ax, .ref ay, .int (nI n)], gI g ax 48 fx, gI g ay 48 fy]) := by
  refine CtI.of (cc := cX3_twiceArea) (maxL := 5) (ret := .int) (by decide) rfl (Nat.le_of_ble_eq_true rfl) ?_
  intro p e s m args below meth c A Q hnm F hK hA hP hD hS hret ls hl
  have hx := F.1
  have hb := F.2.1
  have hl : lv_has ls 5 [(0, .ref po), (1, .int (nI i)), (2, .int (nI j))] := hl
  refine lv_aload_n hx hb dX3_twiceArea_0 rfl (lv_at hl 0 rfl) ?_
  refine g_get (C := RX3) (T := TX3) (N := 3) F hK hP i_X3_twiceArea_X3 0 rfl rfl 0 (by decide) k_X3_twiceArea_f9 (v := .ref ax) rfl dX3_twiceArea_1 ?_
  refine lv_iload_n hx hb dX3_twiceArea_4 rfl (lv_at hl 2 rfl) ?_
  refine g_iald (i := j) (v := (X j)) hx hb hK hP 1 rfl (by decide) (by omega) (hX j (by omega)) dX3_twiceArea_5 ?_
  refine lv_aload_n hx hb dX3_twiceArea_6 rfl (lv_at hl 0 rfl) ?_
  refine g_get (C := RX3) (T := TX3) (N := 3) F hK hP i_X3_twiceArea_X3 0 rfl rfl 1 (by decide) k_X3_twiceArea_f15 (v := .ref ay) rfl dX3_twiceArea_7 ?_
  refine lv_iload_n hx hb dX3_twiceArea_10 rfl (lv_at hl 1 rfl) ?_
  refine g_iald (i := i) (v := (Y i)) hx hb hK hP 2 rfl (by decide) (by omega) (hY i (by omega)) dX3_twiceArea_11 ?_
  refine lv_imul hx hb dX3_twiceArea_12 ?_
  refine lv_aload_n hx hb dX3_twiceArea_13 rfl (lv_at hl 0 rfl) ?_
  refine g_get (C := RX3) (T := TX3) (N := 3) F hK hP i_X3_twiceArea_X3 0 rfl rfl 0 (by decide) k_X3_twiceArea_f9 (v := .ref ax) rfl dX3_twiceArea_14 ?_
  refine lv_iload_n hx hb dX3_twiceArea_17 rfl (lv_at hl 1 rfl) ?_
  refine g_iald (i := i) (v := (X i)) hx hb hK hP 1 rfl (by decide) (by omega) (hX i (by omega)) dX3_twiceArea_18 ?_
  refine lv_aload_n hx hb dX3_twiceArea_19 rfl (lv_at hl 0 rfl) ?_
  refine g_get (C := RX3) (T := TX3) (N := 3) F hK hP i_X3_twiceArea_X3 0 rfl rfl 1 (by decide) k_X3_twiceArea_f15 (v := .ref ay) rfl dX3_twiceArea_20 ?_
  refine lv_iload_n hx hb dX3_twiceArea_23 rfl (lv_at hl 2 rfl) ?_
  refine g_iald (i := j) (v := (Y j)) hx hb hK hP 2 rfl (by decide) (by omega) (hY j (by omega)) dX3_twiceArea_24 ?_
  refine lv_imul hx hb dX3_twiceArea_25 ?_
  refine lv_isub hx hb dX3_twiceArea_26 ?_
  refine lv_istore_n (lv' := [(3, .int (((X j) * (Y i)) - ((X i) * (Y j)))), (0, .ref po), (1, .int (nI i)), (2, .int (nI j))]) hx hb dX3_twiceArea_27 rfl hl (by decide) rfl (fun ls hl => ?_)
  refine lv_iload_n hx hb dX3_twiceArea_28 rfl (lv_at hl 2 rfl) ?_
  refine lv_istore (lv' := [(4, .int (nI i)), (3, .int (((X j) * (Y i)) - ((X i) * (Y j)))), (0, .ref po), (1, .int (nI i)), (2, .int (nI j))]) hx hb dX3_twiceArea_29 hl (by decide) rfl (fun ls hl => ?_)
  have L31 : ∀ (fuel : Nat) (sm : Int32) (k : Nat) (ls : Array Slot) (H : Heap) (locs : List Loc), j - k < fuel → (i ≤ k) → (k ≤ j) → (sm = X j * Y i - X i * Y j + arS X Y i (k - i)) → lv_has ls 5 [(0, .ref po), (1, .int (nI i)), (2, .int (nI j)), (3, .int sm), (4, .int (nI k))] → gP g [gO po 3 [.ref ax, .ref ay, .int (nI n)], gI g ax 48 fx, gI g ay 48 fy] H → va_D A [gO po 3 [.ref ax, .ref ay, .int (nI n)], gI g ax 48 fx, gI g ay 48 fy] → va_S A s.heap H locs → W p l e rm_X3_twiceArea s m args below meth c H locs 0 0 Q (F0 m 31 ls []) := by
    intro fuel
    induction fuel with
    | zero => intro sm k _ _ _ hk; exact absurd hk (Nat.not_lt_zero _)
    | succ fuel_31 ih_31 =>
      intro sm k ls H locs hk_31 h1 h2 hs hl hP hD hS
      refine lv_iload hx hb dX3_twiceArea_31 (lv_at hl 4 rfl) ?_
      refine lv_iload_n hx hb dX3_twiceArea_33 rfl (lv_at hl 2 rfl) ?_
      refine n_icmp_ge (a := k) (b := j) (tgt := 81) hx hb dX3_twiceArea_34 (by decide) (by omega) (by omega) (fun c_34 => ?_) (fun c_34 => ?_)
      · refine lv_iload_n hx hb dX3_twiceArea_81 rfl (lv_at hl 3 rfl) ?_
        refine g_mabs F hl.1 k_X3_twiceArea_m26 k_X3_twiceArea_sabs k_X3_twiceArea_im k_X3_twiceArea_xabs (by decide) (Nat.le_of_ble_eq_true rfl) (Nat.le_of_ble_eq_true rfl) (Nat.le_of_ble_eq_true rfl) dX3_twiceArea_82 (v := (g_abs sm)) (rfl) ?_
        exact hret _ _ _ _ (g_abs sm) () dX3_twiceArea_85 rfl (by rw [hs, show k = j by omega]; rfl) hP hD hS
      · refine lv_iload_n hx hb dX3_twiceArea_37 rfl (lv_at hl 3 rfl) ?_
        refine lv_aload_n hx hb dX3_twiceArea_38 rfl (lv_at hl 0 rfl) ?_
        refine g_get (C := RX3) (T := TX3) (N := 3) F hK hP i_X3_twiceArea_X3 0 rfl rfl 0 (by decide) k_X3_twiceArea_f9 (v := .ref ax) rfl dX3_twiceArea_39 ?_
        refine lv_iload hx hb dX3_twiceArea_42 (lv_at hl 4 rfl) ?_
        refine g_iald (i := k) (v := (X k)) hx hb hK hP 1 rfl (by decide) (by omega) (hX k (by omega)) dX3_twiceArea_44 ?_
        refine lv_aload_n hx hb dX3_twiceArea_45 rfl (lv_at hl 0 rfl) ?_
        refine g_get (C := RX3) (T := TX3) (N := 3) F hK hP i_X3_twiceArea_X3 0 rfl rfl 1 (by decide) k_X3_twiceArea_f15 (v := .ref ay) rfl dX3_twiceArea_46 ?_
        refine lv_iload hx hb dX3_twiceArea_49 (lv_at hl 4 rfl) ?_
        refine lv_iconst (v := 1) hx hb dX3_twiceArea_51 (by decide) ?_
        refine n_iadd (a := k) (b := 1) (d := k + 1) hx hb dX3_twiceArea_52 (by omega) ?_
        refine g_iald (i := k + 1) (v := (Y (k + 1))) hx hb hK hP 2 rfl (by decide) (by omega) (hY (k + 1) (by omega)) dX3_twiceArea_53 ?_
        refine lv_imul hx hb dX3_twiceArea_54 ?_
        refine lv_aload_n hx hb dX3_twiceArea_55 rfl (lv_at hl 0 rfl) ?_
        refine g_get (C := RX3) (T := TX3) (N := 3) F hK hP i_X3_twiceArea_X3 0 rfl rfl 0 (by decide) k_X3_twiceArea_f9 (v := .ref ax) rfl dX3_twiceArea_56 ?_
        refine lv_iload hx hb dX3_twiceArea_59 (lv_at hl 4 rfl) ?_
        refine lv_iconst (v := 1) hx hb dX3_twiceArea_61 (by decide) ?_
        refine n_iadd (a := k) (b := 1) (d := k + 1) hx hb dX3_twiceArea_62 (by omega) ?_
        refine g_iald (i := k + 1) (v := (X (k + 1))) hx hb hK hP 1 rfl (by decide) (by omega) (hX (k + 1) (by omega)) dX3_twiceArea_63 ?_
        refine lv_aload_n hx hb dX3_twiceArea_64 rfl (lv_at hl 0 rfl) ?_
        refine g_get (C := RX3) (T := TX3) (N := 3) F hK hP i_X3_twiceArea_X3 0 rfl rfl 1 (by decide) k_X3_twiceArea_f15 (v := .ref ay) rfl dX3_twiceArea_65 ?_
        refine lv_iload hx hb dX3_twiceArea_68 (lv_at hl 4 rfl) ?_
        refine g_iald (i := k) (v := (Y k)) hx hb hK hP 2 rfl (by decide) (by omega) (hY k (by omega)) dX3_twiceArea_70 ?_
        refine lv_imul hx hb dX3_twiceArea_71 ?_
        refine lv_isub hx hb dX3_twiceArea_72 ?_
        refine lv_iadd hx hb dX3_twiceArea_73 ?_
        refine lv_istore_n (lv' := [(3, .int (sm + (((X k) * (Y (k + 1))) - ((X (k + 1)) * (Y k))))), (0, .ref po), (1, .int (nI i)), (2, .int (nI j)), (4, .int (nI k))]) hx hb dX3_twiceArea_74 rfl hl (by decide) rfl (fun ls hl => ?_)
        refine lv_iinc (v := (nI (k + 1))) (lv' := [(4, .int (nI (k + 1))), (3, .int (sm + (((X k) * (Y (k + 1))) - ((X (k + 1)) * (Y k))))), (0, .ref po), (1, .int (nI i)), (2, .int (nI j))]) hx hb dX3_twiceArea_75 hl (k := 4) rfl (g_inc k 1 (by decide)) (by decide) rfl (fun ls hl => ?_)
        refine lv_goto (tgt := 31) hx hb dX3_twiceArea_78 (by decide) ?_
        exact ih_31 (sm + (((X k) * (Y (k + 1))) - ((X (k + 1)) * (Y k)))) (k + 1) ls _ _ (by omega) (by omega) (by omega) (by rw [hs, ← arS_s X Y h1, Int32.add_assoc]) (lv_sub hl [2, 3, 4, 1, 0] rfl) hP hD hS
  exact L31 ((j - i) + 1) (((X j) * (Y i)) - ((X i) * (Y j))) i ls _ _ (Nat.lt_succ_self _) (by omega) (by omega) (by rw [Nat.sub_self, show arS X Y i 0 = 0 from rfl, Int32.add_zero]) (lv_sub hl [2, 3, 4, 1, 0] rfl) hP hD hS

