abbrev rm_X5_windOn : Room := { frames := 4, cells := 0, slots := 0, locals := 96 }
theorem i_X5_windOn_X5 : ∀ w ∈ wsX50, w ∈ wsX5_windOn := by decide +kernel
theorem k_X5_windOn_f36 : Cond.fieldLink RX5 36 (TX5 3).1 (TX5 3).2.1 (TX5 3).2.2.1 ∈ wsX5_windOn := by decide +kernel
theorem i_X5_windOn_X6 : ∀ w ∈ wsX60, w ∈ wsX5_windOn := by decide +kernel
theorem k_X5_windOn_f46 : Cond.fieldLink RX5 46 (TX6 5).1 (TX6 5).2.1 (TX6 5).2.2.1 ∈ wsX5_windOn := by decide +kernel
set_option maxHeartbeats 4000000 in
set_option maxRecDepth 100000 in
theorem c_X5_windOn (l : Launch) (g : gT) (ro : Nat) (lo : Nat) (cp : Nat) (sp : Nat) (yr : Nat) (cx : Nat) (cy : Nat) (n : Nat) (fx : Nat → Int32) (fy : Nat → Int32) (X : Nat → Int32) (Y : Nat → Int32) (dx : Nat) (dy : Nat) (n2 : Nat) (gx : Nat → Int32) (gy : Nat → Int32) (so : Nat) (bk : Nat) (rt : Int32) (w0 : Int32) (w1 : Int32) (w2 : Int32) (lg : Int32) (nr : Int32) (fb : Nat → Int32) (B : Nat → Int32) (rate : Int32) (hn : n ≤ 48) (hX : ∀ k, k < n → fx k = X k) (hY : ∀ k, k < n → fy k = Y k) (hB : ∀ k, k < 64 → fb k = B k) (h4n : 4 ≤ n) (hin : ∀ k, k < n → inP (X k) ∧ inP (Y k)) : CtV l g yX5_windOn wsX5_windOn rm_X5_windOn [.ref ro, .ref so, .int rate] [gO ro 5 [.ref lo, .ref cp, .ref sp, .int (nI yr)], gO cp 3 [.ref cx, .ref cy, .int (nI n)], gI g cx 48 fx, gI g cy 48 fy, gO sp 3 [.ref dx, .ref dy, .int (nI n2)], gI g dx 48 gx, gI g dy 48 gy, gO so 6 [.ref bk, .int rt, .int w0, .int w1, .int w2, .int lg, .int nr], gI g bk 64 fb] (fun (u : (Nat → Int32) × (Nat → Int32) × Nat × (Nat → Int32) × (Nat → Int32)) => (∀ k, k < (windL B rate w0 w1 w2 lg (n, X, Y)).1 → u.1 k = (windL B rate w0 w1 w2 lg (n, X, Y)).2.1 k) ∧ (∀ k, k < (windL B rate w0 w1 w2 lg (n, X, Y)).1 → u.2.1 k = (windL B rate w0 w1 w2 lg (n, X, Y)).2.2 k)) (fun (u : (Nat → Int32) × (Nat → Int32) × Nat × (Nat → Int32) × (Nat → Int32)) => [gO ro 5 [.ref lo, .ref sp, .ref cp, .int (nI (yr + 1))], gO sp 3 [.ref dx, .ref dy, .int (nI ((windL B rate w0 w1 w2 lg (n, X, Y)).1))], gI g dx 48 u.1, gI g dy 48 u.2.1, gO cp 3 [.ref cx, .ref cy, .int (nI u.2.2.1)], gI g cx 48 u.2.2.2.1, gI g cy 48 u.2.2.2.2, gO so 6 [.ref bk, .int rt, .int w0, .int w1, .int w2, .int lg, .int nr], gI g bk 64 fb]) := by
  refine CtV.of (cc := cX5_windOn) (maxL := 3) (by decide) rfl (Nat.le_of_ble_eq_true rfl) ?_
  intro p e s m args below meth c A Q hnm F hK hA hP hD hS hret ls hl
  have hx := F.1
  have hb := F.2.1
  have hl : lv_has ls 3 [(0, .ref ro), (1, .ref so), (2, .int rate)] := hl
  refine lv_aload_n hx hb dX5_windOn_0 rfl (lv_at hl 0 rfl) ?_
  refine lv_dup hx hb dX5_windOn_1 rfl ?_
  refine g_get (C := RX5) (T := TX5) (N := 4) F hK hP i_X5_windOn_X5 0 rfl rfl 3 (by decide) k_X5_windOn_f36 (v := .int (nI yr)) rfl dX5_windOn_2 ?_
  refine lv_iconst (v := 1) hx hb dX5_windOn_5 (by decide) ?_
  refine n_iadd (a := yr) (b := 1) (d := yr + 1) hx hb dX5_windOn_6 (by omega) ?_
  refine g_put (C := RX5) (T := TX5) (N := 4) (ws2 := [gO ro 5 [.ref lo, .ref cp, .ref sp, .int (nI (yr + 1))], gO cp 3 [.ref cx, .ref cy, .int (nI n)], gI g cx 48 fx, gI g cy 48 fy, gO sp 3 [.ref dx, .ref dy, .int (nI n2)], gI g dx 48 gx, gI g dy 48 gy, gO so 6 [.ref bk, .int rt, .int w0, .int w1, .int w2, .int lg, .int nr], gI g bk 64 fb]) F hK hP hD hS i_X5_windOn_X5 tyX5 tyX5_ok nmX5 0 rfl rfl 3 (by decide) k_X5_windOn_f36 rfl (v := .int (nI (yr + 1))) rfl rfl (Nat.le_of_ble_eq_true rfl) rfl dX5_windOn_7 (fun H locs hP hD hS => ?_)
  refine lv_aload_n hx hb dX5_windOn_10 rfl (lv_at hl 0 rfl) ?_
  refine lv_aload_n hx hb dX5_windOn_11 rfl (lv_at hl 1 rfl) ?_
  refine lv_iload_n hx hb dX5_windOn_12 rfl (lv_at hl 2 rfl) ?_
  refine g_VV (wr := []) (As := [.ref so, .int rate]) (rest := []) (n := 2) F (c_X5_move l g ro lo cp sp (yr + 1) cx cy n fx fy X Y dx dy n2 gx gy so bk rt w0 w1 w2 lg nr fb B rate (by omega) (hX) (hY) (hB) (by omega) (by omega)) gX5_windOn_X5_move rfl (by decide) ⟨by decide, by decide⟩ 0 5 rfl rfl rfl rfl hl.1 rfl (Nat.le_of_ble_eq_true rfl) dX5_windOn_13 ⟨Nat.le_of_ble_eq_true rfl, Nat.le_of_ble_eq_true rfl⟩ hK hP hD hS hA [0, 1, 2, 3, 4, 5, 6, 7, 8] [] (by decide) rfl rfl (by decide) (by decide) (fun u_13 H locs hw_13 hP hD hS => ?_)
  obtain ⟨gx2_13, gy2_13⟩ := u_13
  have hP : gP g [gO ro 5 [.ref lo, .ref sp, .ref cp, .int (nI (yr + 1))], gO cp 3 [.ref cx, .ref cy, .int (nI n)], gI g cx 48 fx, gI g cy 48 fy, gO sp 3 [.ref dx, .ref dy, .int (nI n)], gI g dx 48 gx2_13, gI g dy 48 gy2_13, gO so 6 [.ref bk, .int rt, .int w0, .int w1, .int w2, .int lg, .int nr], gI g bk 64 fb] H := hP
  have hD : va_D A [gO ro 5 [.ref lo, .ref sp, .ref cp, .int (nI (yr + 1))], gO cp 3 [.ref cx, .ref cy, .int (nI n)], gI g cx 48 fx, gI g cy 48 fy, gO sp 3 [.ref dx, .ref dy, .int (nI n)], gI g dx 48 gx2_13, gI g dy 48 gy2_13, gO so 6 [.ref bk, .int rt, .int w0, .int w1, .int w2, .int lg, .int nr], gI g bk 64 fb] := hD
  try dsimp only at hw_13
  obtain ⟨hX2_13, hY2_13⟩ := hw_13
  refine lv_aload_n hx hb dX5_windOn_16 rfl (lv_at hl 0 rfl) ?_
  refine g_VV (wr := [gO so 6 [.ref bk, .int rt, .int w0, .int w1, .int w2, .int lg, .int nr], gI g bk 64 fb]) (As := []) (rest := []) (n := 0) F (c_X5_leaveOutClose l g ro lo sp cp (yr + 1) dx dy n gx2_13 gy2_13 (mvR X X Y n B rate w0 w1 w2) (mvR Y X Y n B rate w0 w1 w2) cx cy n fx fy (hn) (hX2_13) (hY2_13) (by omega)) gX5_windOn_X5_leaveOutClose rfl (by decide) ⟨by decide, by decide⟩ 0 5 rfl rfl rfl rfl hl.1 rfl (Nat.le_of_ble_eq_true rfl) dX5_windOn_17 ⟨Nat.le_of_ble_eq_true rfl, Nat.le_of_ble_eq_true rfl⟩ hK hP hD hS hA [0, 4, 5, 6, 1, 2, 3] [7, 8] (by decide) rfl rfl (by decide) (by decide) (fun u_17 H locs hw_17 hP hD hS => ?_)
  obtain ⟨gx2_17, gy2_17⟩ := u_17
  have hP : gP g [gO so 6 [.ref bk, .int rt, .int w0, .int w1, .int w2, .int lg, .int nr], gI g bk 64 fb, gO ro 5 [.ref lo, .ref cp, .ref sp, .int (nI (yr + 1))], gO sp 3 [.ref dx, .ref dy, .int (nI n)], gI g dx 48 gx2_13, gI g dy 48 gy2_13, gO cp 3 [.ref cx, .ref cy, .int (nI ((clsS (mvR X X Y n B rate w0 w1 w2) (mvR Y X Y n B rate w0 w1 w2) n n).1))], gI g cx 48 gx2_17, gI g cy 48 gy2_17] H := hP
  have hD : va_D A [gO so 6 [.ref bk, .int rt, .int w0, .int w1, .int w2, .int lg, .int nr], gI g bk 64 fb, gO ro 5 [.ref lo, .ref cp, .ref sp, .int (nI (yr + 1))], gO sp 3 [.ref dx, .ref dy, .int (nI n)], gI g dx 48 gx2_13, gI g dy 48 gy2_13, gO cp 3 [.ref cx, .ref cy, .int (nI ((clsS (mvR X X Y n B rate w0 w1 w2) (mvR Y X Y n B rate w0 w1 w2) n n).1))], gI g cx 48 gx2_17, gI g cy 48 gy2_17] := hD
  try dsimp only at hw_17
  obtain ⟨hX2_17, hY2_17⟩ := hw_17
  have hcv := cls_inv (mvR X X Y n B rate w0 w1 w2) (mvR Y X Y n B rate w0 w1 w2) h4n n (Nat.le_refl _)
  refine lv_aload_n hx hb dX5_windOn_20 rfl (lv_at hl 0 rfl) ?_
  refine lv_aload_n hx hb dX5_windOn_21 rfl (lv_at hl 1 rfl) ?_
  refine g_get (C := RX6) (T := TX6) (N := 7) F hK hP i_X5_windOn_X6 0 rfl rfl 5 (by decide) k_X5_windOn_f46 (v := .int lg) rfl dX5_windOn_22 ?_
  refine g_VV (wr := [gO so 6 [.ref bk, .int rt, .int w0, .int w1, .int w2, .int lg, .int nr], gI g bk 64 fb]) (As := [.int lg]) (rest := []) (n := 1) F (c_X5_fillLong l g ro lo cp sp (yr + 1) cx cy ((clsS (mvR X X Y n B rate w0 w1 w2) (mvR Y X Y n B rate w0 w1 w2) n n).1) gx2_17 gy2_17 ((clsS (mvR X X Y n B rate w0 w1 w2) (mvR Y X Y n B rate w0 w1 w2) n n).2.1) ((clsS (mvR X X Y n B rate w0 w1 w2) (mvR Y X Y n B rate w0 w1 w2) n n).2.2.1) dx dy n gx2_13 gy2_13 lg (by omega) (hX2_17) (hY2_17) (by omega)) gX5_windOn_X5_fillLong rfl (by decide) ⟨by decide, by decide⟩ 2 5 rfl rfl rfl rfl hl.1 rfl (Nat.le_of_ble_eq_true rfl) dX5_windOn_25 ⟨Nat.le_of_ble_eq_true rfl, Nat.le_of_ble_eq_true rfl⟩ hK hP hD hS hA [2, 6, 7, 8, 3, 4, 5] [0, 1] (by decide) rfl rfl (by decide) (by decide) (fun u_25 H locs hw_25 hP hD hS => ?_)
  obtain ⟨gx2_25, gy2_25⟩ := u_25
  have hP : gP g [gO so 6 [.ref bk, .int rt, .int w0, .int w1, .int w2, .int lg, .int nr], gI g bk 64 fb, gO ro 5 [.ref lo, .ref sp, .ref cp, .int (nI (yr + 1))], gO cp 3 [.ref cx, .ref cy, .int (nI ((clsS (mvR X X Y n B rate w0 w1 w2) (mvR Y X Y n B rate w0 w1 w2) n n).1))], gI g cx 48 gx2_17, gI g cy 48 gy2_17, gO sp 3 [.ref dx, .ref dy, .int (nI ((lngS ((clsS (mvR X X Y n B rate w0 w1 w2) (mvR Y X Y n B rate w0 w1 w2) n n).2.1) ((clsS (mvR X X Y n B rate w0 w1 w2) (mvR Y X Y n B rate w0 w1 w2) n n).2.2.1) ((clsS (mvR X X Y n B rate w0 w1 w2) (mvR Y X Y n B rate w0 w1 w2) n n).1) lg ((clsS (mvR X X Y n B rate w0 w1 w2) (mvR Y X Y n B rate w0 w1 w2) n n).1)).1))], gI g dx 48 gx2_25, gI g dy 48 gy2_25] H := hP
  have hD : va_D A [gO so 6 [.ref bk, .int rt, .int w0, .int w1, .int w2, .int lg, .int nr], gI g bk 64 fb, gO ro 5 [.ref lo, .ref sp, .ref cp, .int (nI (yr + 1))], gO cp 3 [.ref cx, .ref cy, .int (nI ((clsS (mvR X X Y n B rate w0 w1 w2) (mvR Y X Y n B rate w0 w1 w2) n n).1))], gI g cx 48 gx2_17, gI g cy 48 gy2_17, gO sp 3 [.ref dx, .ref dy, .int (nI ((lngS ((clsS (mvR X X Y n B rate w0 w1 w2) (mvR Y X Y n B rate w0 w1 w2) n n).2.1) ((clsS (mvR X X Y n B rate w0 w1 w2) (mvR Y X Y n B rate w0 w1 w2) n n).2.2.1) ((clsS (mvR X X Y n B rate w0 w1 w2) (mvR Y X Y n B rate w0 w1 w2) n n).1) lg ((clsS (mvR X X Y n B rate w0 w1 w2) (mvR Y X Y n B rate w0 w1 w2) n n).1)).1))], gI g dx 48 gx2_25, gI g dy 48 gy2_25] := hD
  try dsimp only at hw_25
  obtain ⟨hX2_25, hY2_25⟩ := hw_25
  have hP9 := hP.sub (ws' := [gO ro 5 [.ref lo, .ref sp, .ref cp, .int (nI (yr + 1))], gO sp 3 [.ref dx, .ref dy, .int (nI ((lngS ((clsS (mvR X X Y n B rate w0 w1 w2) (mvR Y X Y n B rate w0 w1 w2) n n).2.1) ((clsS (mvR X X Y n B rate w0 w1 w2) (mvR Y X Y n B rate w0 w1 w2) n n).2.2.1) ((clsS (mvR X X Y n B rate w0 w1 w2) (mvR Y X Y n B rate w0 w1 w2) n n).1) lg ((clsS (mvR X X Y n B rate w0 w1 w2) (mvR Y X Y n B rate w0 w1 w2) n n).1)).1))], gI g dx 48 gx2_25, gI g dy 48 gy2_25, gO cp 3 [.ref cx, .ref cy, .int (nI ((clsS (mvR X X Y n B rate w0 w1 w2) (mvR Y X Y n B rate w0 w1 w2) n n).1))], gI g cx 48 gx2_17, gI g cy 48 gy2_17, gO so 6 [.ref bk, .int rt, .int w0, .int w1, .int w2, .int lg, .int nr], gI g bk 64 fb]) [2, 6, 7, 8, 3, 4, 5, 0, 1] rfl
  have hD9 := hD.sub (ws' := [gO ro 5 [.ref lo, .ref sp, .ref cp, .int (nI (yr + 1))], gO sp 3 [.ref dx, .ref dy, .int (nI ((lngS ((clsS (mvR X X Y n B rate w0 w1 w2) (mvR Y X Y n B rate w0 w1 w2) n n).2.1) ((clsS (mvR X X Y n B rate w0 w1 w2) (mvR Y X Y n B rate w0 w1 w2) n n).2.2.1) ((clsS (mvR X X Y n B rate w0 w1 w2) (mvR Y X Y n B rate w0 w1 w2) n n).1) lg ((clsS (mvR X X Y n B rate w0 w1 w2) (mvR Y X Y n B rate w0 w1 w2) n n).1)).1))], gI g dx 48 gx2_25, gI g dy 48 gy2_25, gO cp 3 [.ref cx, .ref cy, .int (nI ((clsS (mvR X X Y n B rate w0 w1 w2) (mvR Y X Y n B rate w0 w1 w2) n n).1))], gI g cx 48 gx2_17, gI g cy 48 gy2_17, gO so 6 [.ref bk, .int rt, .int w0, .int w1, .int w2, .int lg, .int nr], gI g bk 64 fb]) [2, 6, 7, 8, 3, 4, 5, 0, 1] (by decide) rfl
  exact hret _ _ _ _ (gx2_25, gy2_25, (clsS (mvR X X Y n B rate w0 w1 w2) (mvR Y X Y n B rate w0 w1 w2) n n).1, gx2_17, gy2_17) dX5_windOn_28 (⟨hX2_25, hY2_25⟩) hP9 hD9 hS

abbrev rm_X5_restart : Room := { frames := 2, cells := 0, slots := 0, locals := 44 }
theorem i_X5_restart_X5 : ∀ w ∈ wsX50, w ∈ wsX5_restart := by decide +kernel
theorem k_X5_restart_f21 : Cond.fieldLink RX5 21 (TX5 1).1 (TX5 1).2.1 (TX5 1).2.2.1 ∈ wsX5_restart := by decide +kernel
theorem k_X5_restart_f12 : Cond.fieldLink RX5 12 (TX5 0).1 (TX5 0).2.1 (TX5 0).2.2.1 ∈ wsX5_restart := by decide +kernel
theorem i_X5_restart_X0 : ∀ w ∈ wsX00, w ∈ wsX5_restart := by decide +kernel
theorem k_X5_restart_f32 : Cond.fieldLink RX5 32 (TX0 3).1 (TX0 3).2.1 (TX0 3).2.2.1 ∈ wsX5_restart := by decide +kernel
theorem k_X5_restart_f36 : Cond.fieldLink RX5 36 (TX5 3).1 (TX5 3).2.1 (TX5 3).2.2.1 ∈ wsX5_restart := by decide +kernel
set_option maxHeartbeats 4000000 in
set_option maxRecDepth 100000 in
theorem c_X5_restart (l : Launch) (g : gT) (ro : Nat) (lo : Nat) (cp : Nat) (sp : Nat) (yr : Nat) (ly : Nat) (lp : Nat) (la : Nat) (ln : Nat) (cx : Nat) (cy : Nat) (n : Nat) (fx : Nat → Int32) (fy : Nat → Int32) (to : Nat) (tx : Nat) (ty : Nat) (n2 : Nat) (ux : Nat → Int32) (uy : Nat → Int32) (X : Nat → Int32) (Y : Nat → Int32) (hn2 : n2 ≤ 48) (hX : ∀ k, k < n2 → ux k = X k) (hY : ∀ k, k < n2 → uy k = Y k) : CtV l g yX5_restart wsX5_restart rm_X5_restart [.ref ro, .ref to] [gO ro 5 [.ref lo, .ref cp, .ref sp, .int (nI yr)], gO lo 0 [.ref ly, .ref lp, .ref la, .int (nI ln)], gO cp 3 [.ref cx, .ref cy, .int (nI n)], gI g cx 48 fx, gI g cy 48 fy, gO to 3 [.ref tx, .ref ty, .int (nI n2)], gI g tx 48 ux, gI g ty 48 uy] (fun (u : (Nat → Int32) × (Nat → Int32)) => (∀ k, k < n2 → u.1 k = X k) ∧ (∀ k, k < n2 → u.2 k = Y k)) (fun (u : (Nat → Int32) × (Nat → Int32)) => [gO ro 5 [.ref lo, .ref cp, .ref sp, .int 0], gO lo 0 [.ref ly, .ref lp, .ref la, .int 0], gO cp 3 [.ref cx, .ref cy, .int (nI n2)], gI g cx 48 u.1, gI g cy 48 u.2, gO to 3 [.ref tx, .ref ty, .int (nI n2)], gI g tx 48 ux, gI g ty 48 uy]) := by
  refine CtV.of (cc := cX5_restart) (maxL := 2) (by decide) rfl (Nat.le_of_ble_eq_true rfl) ?_
  intro p e s m args below meth c A Q hnm F hK hA hP hD hS hret ls hl
  have hx := F.1
  have hb := F.2.1
  have hl : lv_has ls 2 [(0, .ref ro), (1, .ref to)] := hl
  refine lv_aload_n hx hb dX5_restart_0 rfl (lv_at hl 0 rfl) ?_
  refine g_get (C := RX5) (T := TX5) (N := 4) F hK hP i_X5_restart_X5 0 rfl rfl 1 (by decide) k_X5_restart_f21 (v := .ref cp) rfl dX5_restart_1 ?_
  refine lv_aload_n hx hb dX5_restart_4 rfl (lv_at hl 1 rfl) ?_
  refine g_VV (wr := [gO ro 5 [.ref lo, .ref cp, .ref sp, .int (nI yr)], gO lo 0 [.ref ly, .ref lp, .ref la, .int (nI ln)]]) (As := [.ref to]) (rest := []) (n := 1) F (c_X3_copyFrom l g cp cx cy n fx fy to tx ty n2 ux uy X Y (by omega) (hX) (hY)) gX5_restart_X3_copyFrom rfl (by decide) ⟨by decide, by decide⟩ 2 3 rfl rfl rfl rfl hl.1 rfl (Nat.le_of_ble_eq_true rfl) dX5_restart_5 ⟨Nat.le_of_ble_eq_true rfl, Nat.le_of_ble_eq_true rfl⟩ hK hP hD hS hA [2, 3, 4, 5, 6, 7] [0, 1] (by decide) rfl rfl (by decide) (by decide) (fun u_5 H locs hw_5 hP hD hS => ?_)
  obtain ⟨fx2_5, fy2_5⟩ := u_5
  have hP : gP g [gO ro 5 [.ref lo, .ref cp, .ref sp, .int (nI yr)], gO lo 0 [.ref ly, .ref lp, .ref la, .int (nI ln)], gO cp 3 [.ref cx, .ref cy, .int (nI n2)], gI g cx 48 fx2_5, gI g cy 48 fy2_5, gO to 3 [.ref tx, .ref ty, .int (nI n2)], gI g tx 48 ux, gI g ty 48 uy] H := hP
  have hD : va_D A [gO ro 5 [.ref lo, .ref cp, .ref sp, .int (nI yr)], gO lo 0 [.ref ly, .ref lp, .ref la, .int (nI ln)], gO cp 3 [.ref cx, .ref cy, .int (nI n2)], gI g cx 48 fx2_5, gI g cy 48 fy2_5, gO to 3 [.ref tx, .ref ty, .int (nI n2)], gI g tx 48 ux, gI g ty 48 uy] := hD
  try dsimp only at hw_5
  obtain ⟨hX2_5, hY2_5⟩ := hw_5
  refine lv_aload_n hx hb dX5_restart_8 rfl (lv_at hl 0 rfl) ?_
  refine g_get (C := RX5) (T := TX5) (N := 4) F hK hP i_X5_restart_X5 0 rfl rfl 0 (by decide) k_X5_restart_f12 (v := .ref lo) rfl dX5_restart_9 ?_
  refine lv_iconst (v := 0) hx hb dX5_restart_12 (by decide) ?_
  refine g_put (C := RX0) (T := TX0) (N := 4) (ws2 := [gO ro 5 [.ref lo, .ref cp, .ref sp, .int (nI yr)], gO lo 0 [.ref ly, .ref lp, .ref la, .int 0], gO cp 3 [.ref cx, .ref cy, .int (nI n2)], gI g cx 48 fx2_5, gI g cy 48 fy2_5, gO to 3 [.ref tx, .ref ty, .int (nI n2)], gI g tx 48 ux, gI g ty 48 uy]) F hK hP hD hS i_X5_restart_X0 tyX0 tyX0_ok nmX0 1 rfl rfl 3 (by decide) k_X5_restart_f32 rfl (v := .int 0) rfl rfl (Nat.le_of_ble_eq_true rfl) rfl dX5_restart_13 (fun H locs hP hD hS => ?_)
  refine lv_aload_n hx hb dX5_restart_16 rfl (lv_at hl 0 rfl) ?_
  refine lv_iconst (v := 0) hx hb dX5_restart_17 (by decide) ?_
  refine g_put (C := RX5) (T := TX5) (N := 4) (ws2 := [gO ro 5 [.ref lo, .ref cp, .ref sp, .int 0], gO lo 0 [.ref ly, .ref lp, .ref la, .int 0], gO cp 3 [.ref cx, .ref cy, .int (nI n2)], gI g cx 48 fx2_5, gI g cy 48 fy2_5, gO to 3 [.ref tx, .ref ty, .int (nI n2)], gI g tx 48 ux, gI g ty 48 uy]) F hK hP hD hS i_X5_restart_X5 tyX5 tyX5_ok nmX5 0 rfl rfl 3 (by decide) k_X5_restart_f36 rfl (v := .int 0) rfl rfl (Nat.le_of_ble_eq_true rfl) rfl dX5_restart_18 (fun H locs hP hD hS => ?_)
  exact hret _ _ _ _ (fx2_5, fy2_5) dX5_restart_21 (⟨hX2_5, hY2_5⟩) hP hD hS

abbrev rm_X5_init : Room := { frames := 2, cells := 10, slots := 292, locals := 40 }
theorem k_X5_init_m3 : Cond.methodLink RX5 3 objectInit ∈ wsX5_init := by decide +kernel
theorem k_X5_init_oi : Cond.instanceMethod objectInit ∈ wsX5_init := by decide +kernel
theorem k_X5_init_oc : Cond.code objectInit ⟨#[0xb1]⟩ 1 none ∈ wsX5_init := by decide +kernel
theorem i_X5_init_X0 : ∀ w ∈ wsX00, w ∈ wsX5_init := by decide +kernel
theorem k_X5_init_c9 : Cond.classLink RX5 9 RX0 ∈ wsX5_init := by decide +kernel
theorem k_X5_init_n9 : Cond.instantiable RX0 4 ∈ wsX5_init := by decide +kernel
theorem k_X5_init_z9 : Cond.initialized RX0 ∈ wsX5_init := by decide +kernel
theorem k_X5_init_z11 : Cond.initialized yX0_init.cls ∈ wsX5_init := by decide +kernel
theorem k_X5_init_j11 : Cond.instanceMethod yX0_init ∈ wsX5_init := by decide +kernel
theorem i_X5_init_X5 : ∀ w ∈ wsX50, w ∈ wsX5_init := by decide +kernel
theorem k_X5_init_f12 : Cond.fieldLink RX5 12 (TX5 0).1 (TX5 0).2.1 (TX5 0).2.2.1 ∈ wsX5_init := by decide +kernel
theorem i_X5_init_X3 : ∀ w ∈ wsX30, w ∈ wsX5_init := by decide +kernel
theorem k_X5_init_c18 : Cond.classLink RX5 18 RX3 ∈ wsX5_init := by decide +kernel
theorem k_X5_init_n18 : Cond.instantiable RX3 3 ∈ wsX5_init := by decide +kernel
theorem k_X5_init_z18 : Cond.initialized RX3 ∈ wsX5_init := by decide +kernel
theorem k_X5_init_z20 : Cond.initialized yX3_init.cls ∈ wsX5_init := by decide +kernel
theorem k_X5_init_j20 : Cond.instanceMethod yX3_init ∈ wsX5_init := by decide +kernel
theorem k_X5_init_f21 : Cond.fieldLink RX5 21 (TX5 1).1 (TX5 1).2.1 (TX5 1).2.2.1 ∈ wsX5_init := by decide +kernel
theorem k_X5_init_f25 : Cond.fieldLink RX5 25 (TX5 2).1 (TX5 2).2.1 (TX5 2).2.2.1 ∈ wsX5_init := by decide +kernel
set_option maxHeartbeats 4000000 in
set_option maxRecDepth 100000 in
theorem c_X5_init (l : Launch) (g : gT) (ro : Nat)  : CtV l g yX5_init wsX5_init rm_X5_init [.ref ro] [gO ro 5 [.null, .null, .null, .int 0]] (fun (u : Nat × Nat × Nat × Nat × Nat × Nat × Nat × Nat × Nat × Nat) => True) (fun (u : Nat × Nat × Nat × Nat × Nat × Nat × Nat × Nat × Nat × Nat) => [gO ro 5 [.ref u.1, .ref u.2.2.2.2.1, .ref u.2.2.2.2.2.2.2.1, .int 0], gO u.1 0 [.ref u.2.1, .ref u.2.2.1, .ref u.2.2.2.1, .int 0], gI g u.2.1 30 (fun _ => 0), gI g u.2.2.1 30 (fun _ => 0), gI g u.2.2.2.1 30 (fun _ => 0), gO u.2.2.2.2.1 3 [.ref u.2.2.2.2.2.1, .ref u.2.2.2.2.2.2.1, .int 0], gI g u.2.2.2.2.2.1 48 (fun _ => 0), gI g u.2.2.2.2.2.2.1 48 (fun _ => 0), gO u.2.2.2.2.2.2.2.1 3 [.ref u.2.2.2.2.2.2.2.2.1, .ref u.2.2.2.2.2.2.2.2.2, .int 0], gI g u.2.2.2.2.2.2.2.2.1 48 (fun _ => 0), gI g u.2.2.2.2.2.2.2.2.2 48 (fun _ => 0)]) := by
  refine CtV.of (cc := cX5_init) (maxL := 1) (by decide) rfl (Nat.le_of_ble_eq_true rfl) ?_
  intro p e s m args below meth c A Q hnm F hK hA hP hD hS hret ls hl
  have hx := F.1
  have hb := F.2.1
  have hl : lv_has ls 1 [(0, .ref ro)] := hl
  refine lv_aload_n hx hb dX5_init_0 rfl (lv_at hl 0 rfl) ?_
  refine W.objInit hx hb F.2.2.2.1 (F.2.2.2.2 _ k_X5_init_m3) (F.2.2.2.2 _ k_X5_init_oi) (F.2.2.2.2 _ k_X5_init_oc) rfl (by rw [F.2.2.1]; exact hl.1) rfl dX5_init_1 (Nat.le_of_ble_eq_true rfl) (Nat.le_of_ble_eq_true rfl) ?_
  refine W.eq (g2 := F0 m 4 ls []) rfl ?_
  refine lv_aload_n hx hb dX5_init_4 rfl (lv_at hl 0 rfl) ?_
  refine g_new (C := RX0) (T := TX0) (N := 4) (ci := 0) (ws2 := fun q_5 => [gO ro 5 [.null, .null, .null, .int 0], gO q_5 0 [.null, .null, .null, .int 0]]) F i_X5_init_X0 tyX0 tyX0_ok k_X5_init_c9 k_X5_init_n9 k_X5_init_z9 hK hP hD hS hA rfl df_X0 (Nat.le_of_ble_eq_true rfl) (Nat.le_of_ble_eq_true rfl) (fun _ => rfl) dX5_init_5 (fun q_5 H hP hD hS => ?_)
  refine W.widen (k := 1) (n := 4) (Nat.le_of_ble_eq_true rfl) (Nat.le_of_ble_eq_true rfl) ?_
  refine lv_dup hx hb dX5_init_8 rfl ?_
  refine g_NN (wr := [gO ro 5 [.null, .null, .null, .int 0]]) (As := []) (rest := [.ref q_5, .ref ro]) (n := 0) F (c_X0_init l g q_5) gX5_init_X0_init_n11 rfl (by decide) k_X5_init_z11 k_X5_init_j11 rfl (by decide) ⟨by decide, by decide⟩ rfl hl.1 rfl (Nat.le_of_ble_eq_true rfl) dX5_init_9 ⟨Nat.le_of_ble_eq_true rfl, Nat.le_of_ble_eq_true rfl⟩ hK hP hD hS hA [1] [0] (by decide) rfl rfl (by decide) (by decide) (fun u_9 H locs hw_9 hP hD hS => ?_)
  refine W.widen (k := 4) (n := 94) (Nat.le_of_ble_eq_true rfl) (Nat.le_of_ble_eq_true rfl) ?_
  obtain ⟨ly_9, lp_9, la_9⟩ := u_9
  have hP : gP g [gO ro 5 [.null, .null, .null, .int 0], gO q_5 0 [.ref ly_9, .ref lp_9, .ref la_9, .int 0], gI g ly_9 30 (fun _ => 0), gI g lp_9 30 (fun _ => 0), gI g la_9 30 (fun _ => 0)] H := hP
  have hD : va_D A [gO ro 5 [.null, .null, .null, .int 0], gO q_5 0 [.ref ly_9, .ref lp_9, .ref la_9, .int 0], gI g ly_9 30 (fun _ => 0), gI g lp_9 30 (fun _ => 0), gI g la_9 30 (fun _ => 0)] := hD
  refine g_putF (C := RX5) (T := TX5) (N := 4) (ws2 := [gO ro 5 [.ref q_5, .null, .null, .int 0], gO q_5 0 [.ref ly_9, .ref lp_9, .ref la_9, .int 0], gI g ly_9 30 (fun _ => 0), gI g lp_9 30 (fun _ => 0), gI g la_9 30 (fun _ => 0)]) F hK hP hD hS i_X5_init_X5 tyX5 tyX5_ok nmX5 0 rfl rfl 0 (by decide) k_X5_init_f12 rfl hnm rfl (v := .ref q_5) rfl rfl (Nat.le_of_ble_eq_true rfl) rfl dX5_init_12 (fun H locs hP hD hS => ?_)
  refine lv_aload_n hx hb dX5_init_15 rfl (lv_at hl 0 rfl) ?_
  refine g_new (C := RX3) (T := TX3) (N := 3) (ci := 3) (ws2 := fun q_16 => [gO ro 5 [.ref q_5, .null, .null, .int 0], gO q_5 0 [.ref ly_9, .ref lp_9, .ref la_9, .int 0], gI g ly_9 30 (fun _ => 0), gI g lp_9 30 (fun _ => 0), gI g la_9 30 (fun _ => 0), gO q_16 3 [.null, .null, .int 0]]) F i_X5_init_X3 tyX3 tyX3_ok k_X5_init_c18 k_X5_init_n18 k_X5_init_z18 hK hP hD hS hA rfl df_X3 (Nat.le_of_ble_eq_true rfl) (Nat.le_of_ble_eq_true rfl) (fun _ => rfl) dX5_init_16 (fun q_16 H hP hD hS => ?_)
  refine W.widen (k := 5) (n := 97) (Nat.le_of_ble_eq_true rfl) (Nat.le_of_ble_eq_true rfl) ?_
  refine lv_dup hx hb dX5_init_19 rfl ?_
  refine g_NN (wr := [gO ro 5 [.ref q_5, .null, .null, .int 0], gO q_5 0 [.ref ly_9, .ref lp_9, .ref la_9, .int 0], gI g ly_9 30 (fun _ => 0), gI g lp_9 30 (fun _ => 0), gI g la_9 30 (fun _ => 0)]) (As := []) (rest := [.ref q_16, .ref ro]) (n := 0) F (c_X3_init l g q_16) gX5_init_X3_init_n20 rfl (by decide) k_X5_init_z20 k_X5_init_j20 rfl (by decide) ⟨by decide, by decide⟩ rfl hl.1 rfl (Nat.le_of_ble_eq_true rfl) dX5_init_20 ⟨Nat.le_of_ble_eq_true rfl, Nat.le_of_ble_eq_true rfl⟩ hK hP hD hS hA [5] [0, 1, 2, 3, 4] (by decide) rfl rfl (by decide) (by decide) (fun u_20 H locs hw_20 hP hD hS => ?_)
  refine W.widen (k := 7) (n := 193) (Nat.le_of_ble_eq_true rfl) (Nat.le_of_ble_eq_true rfl) ?_
  obtain ⟨ax_20, ay_20⟩ := u_20
  have hP : gP g [gO ro 5 [.ref q_5, .null, .null, .int 0], gO q_5 0 [.ref ly_9, .ref lp_9, .ref la_9, .int 0], gI g ly_9 30 (fun _ => 0), gI g lp_9 30 (fun _ => 0), gI g la_9 30 (fun _ => 0), gO q_16 3 [.ref ax_20, .ref ay_20, .int 0], gI g ax_20 48 (fun _ => 0), gI g ay_20 48 (fun _ => 0)] H := hP
  have hD : va_D A [gO ro 5 [.ref q_5, .null, .null, .int 0], gO q_5 0 [.ref ly_9, .ref lp_9, .ref la_9, .int 0], gI g ly_9 30 (fun _ => 0), gI g lp_9 30 (fun _ => 0), gI g la_9 30 (fun _ => 0), gO q_16 3 [.ref ax_20, .ref ay_20, .int 0], gI g ax_20 48 (fun _ => 0), gI g ay_20 48 (fun _ => 0)] := hD
  refine g_put (C := RX5) (T := TX5) (N := 4) (ws2 := [gO ro 5 [.ref q_5, .ref q_16, .null, .int 0], gO q_5 0 [.ref ly_9, .ref lp_9, .ref la_9, .int 0], gI g ly_9 30 (fun _ => 0), gI g lp_9 30 (fun _ => 0), gI g la_9 30 (fun _ => 0), gO q_16 3 [.ref ax_20, .ref ay_20, .int 0], gI g ax_20 48 (fun _ => 0), gI g ay_20 48 (fun _ => 0)]) F hK hP hD hS i_X5_init_X5 tyX5 tyX5_ok nmX5 0 rfl rfl 1 (by decide) k_X5_init_f21 rfl (v := .ref q_16) rfl rfl (Nat.le_of_ble_eq_true rfl) rfl dX5_init_23 (fun H locs hP hD hS => ?_)
  refine lv_aload_n hx hb dX5_init_26 rfl (lv_at hl 0 rfl) ?_
  refine g_new (C := RX3) (T := TX3) (N := 3) (ci := 3) (ws2 := fun q_27 => [gO ro 5 [.ref q_5, .ref q_16, .null, .int 0], gO q_5 0 [.ref ly_9, .ref lp_9, .ref la_9, .int 0], gI g ly_9 30 (fun _ => 0), gI g lp_9 30 (fun _ => 0), gI g la_9 30 (fun _ => 0), gO q_16 3 [.ref ax_20, .ref ay_20, .int 0], gI g ax_20 48 (fun _ => 0), gI g ay_20 48 (fun _ => 0), gO q_27 3 [.null, .null, .int 0]]) F i_X5_init_X3 tyX3 tyX3_ok k_X5_init_c18 k_X5_init_n18 k_X5_init_z18 hK hP hD hS hA rfl df_X3 (Nat.le_of_ble_eq_true rfl) (Nat.le_of_ble_eq_true rfl) (fun _ => rfl) dX5_init_27 (fun q_27 H hP hD hS => ?_)
  refine W.widen (k := 8) (n := 196) (Nat.le_of_ble_eq_true rfl) (Nat.le_of_ble_eq_true rfl) ?_
  refine lv_dup hx hb dX5_init_30 rfl ?_
  refine g_NN (wr := [gO ro 5 [.ref q_5, .ref q_16, .null, .int 0], gO q_5 0 [.ref ly_9, .ref lp_9, .ref la_9, .int 0], gI g ly_9 30 (fun _ => 0), gI g lp_9 30 (fun _ => 0), gI g la_9 30 (fun _ => 0), gO q_16 3 [.ref ax_20, .ref ay_20, .int 0], gI g ax_20 48 (fun _ => 0), gI g ay_20 48 (fun _ => 0)]) (As := []) (rest := [.ref q_27, .ref ro]) (n := 0) F (c_X3_init l g q_27) gX5_init_X3_init_n20 rfl (by decide) k_X5_init_z20 k_X5_init_j20 rfl (by decide) ⟨by decide, by decide⟩ rfl hl.1 rfl (Nat.le_of_ble_eq_true rfl) dX5_init_31 ⟨Nat.le_of_ble_eq_true rfl, Nat.le_of_ble_eq_true rfl⟩ hK hP hD hS hA [8] [0, 1, 2, 3, 4, 5, 6, 7] (by decide) rfl rfl (by decide) (by decide) (fun u_31 H locs hw_31 hP hD hS => ?_)
  refine W.widen (k := 10) (n := 292) (Nat.le_of_ble_eq_true rfl) (Nat.le_of_ble_eq_true rfl) ?_
  obtain ⟨ax_31, ay_31⟩ := u_31
  have hP : gP g [gO ro 5 [.ref q_5, .ref q_16, .null, .int 0], gO q_5 0 [.ref ly_9, .ref lp_9, .ref la_9, .int 0], gI g ly_9 30 (fun _ => 0), gI g lp_9 30 (fun _ => 0), gI g la_9 30 (fun _ => 0), gO q_16 3 [.ref ax_20, .ref ay_20, .int 0], gI g ax_20 48 (fun _ => 0), gI g ay_20 48 (fun _ => 0), gO q_27 3 [.ref ax_31, .ref ay_31, .int 0], gI g ax_31 48 (fun _ => 0), gI g ay_31 48 (fun _ => 0)] H := hP
  have hD : va_D A [gO ro 5 [.ref q_5, .ref q_16, .null, .int 0], gO q_5 0 [.ref ly_9, .ref lp_9, .ref la_9, .int 0], gI g ly_9 30 (fun _ => 0), gI g lp_9 30 (fun _ => 0), gI g la_9 30 (fun _ => 0), gO q_16 3 [.ref ax_20, .ref ay_20, .int 0], gI g ax_20 48 (fun _ => 0), gI g ay_20 48 (fun _ => 0), gO q_27 3 [.ref ax_31, .ref ay_31, .int 0], gI g ax_31 48 (fun _ => 0), gI g ay_31 48 (fun _ => 0)] := hD
  refine g_put (C := RX5) (T := TX5) (N := 4) (ws2 := [gO ro 5 [.ref q_5, .ref q_16, .ref q_27, .int 0], gO q_5 0 [.ref ly_9, .ref lp_9, .ref la_9, .int 0], gI g ly_9 30 (fun _ => 0), gI g lp_9 30 (fun _ => 0), gI g la_9 30 (fun _ => 0), gO q_16 3 [.ref ax_20, .ref ay_20, .int 0], gI g ax_20 48 (fun _ => 0), gI g ay_20 48 (fun _ => 0), gO q_27 3 [.ref ax_31, .ref ay_31, .int 0], gI g ax_31 48 (fun _ => 0), gI g ay_31 48 (fun _ => 0)]) F hK hP hD hS i_X5_init_X5 tyX5 tyX5_ok nmX5 0 rfl rfl 2 (by decide) k_X5_init_f25 rfl (v := .ref q_27) rfl rfl (Nat.le_of_ble_eq_true rfl) rfl dX5_init_34 (fun H locs hP hD hS => ?_)
  have hP9 := hP.sub (ws' := [gO ro 5 [.ref q_5, .ref q_16, .ref q_27, .int 0], gO q_5 0 [.ref ly_9, .ref lp_9, .ref la_9, .int 0], gI g ly_9 30 (fun _ => 0), gI g lp_9 30 (fun _ => 0), gI g la_9 30 (fun _ => 0), gO q_16 3 [.ref ax_20, .ref ay_20, .int 0], gI g ax_20 48 (fun _ => 0), gI g ay_20 48 (fun _ => 0), gO q_27 3 [.ref ax_31, .ref ay_31, .int 0], gI g ax_31 48 (fun _ => 0), gI g ay_31 48 (fun _ => 0)]) [0, 1, 2, 3, 4, 5, 6, 7, 8, 9, 10] rfl
  have hD9 := hD.sub (ws' := [gO ro 5 [.ref q_5, .ref q_16, .ref q_27, .int 0], gO q_5 0 [.ref ly_9, .ref lp_9, .ref la_9, .int 0], gI g ly_9 30 (fun _ => 0), gI g lp_9 30 (fun _ => 0), gI g la_9 30 (fun _ => 0), gO q_16 3 [.ref ax_20, .ref ay_20, .int 0], gI g ax_20 48 (fun _ => 0), gI g ay_20 48 (fun _ => 0), gO q_27 3 [.ref ax_31, .ref ay_31, .int 0], gI g ax_31 48 (fun _ => 0), gI g ay_31 48 (fun _ => 0)]) [0, 1, 2, 3, 4, 5, 6, 7, 8, 9, 10] (by decide) rfl
  exact hret _ _ _ _ (q_5, ly_9, lp_9, la_9, q_16, ax_20, ay_20, q_27, ax_31, ay_31) dX5_init_37 (trivial) hP9 hD9 hS

