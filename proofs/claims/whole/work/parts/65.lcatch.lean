abbrev rm_L_point : Room := { frames := 7, cells := 1, slots := 6, locals := 142 }
set_option maxRecDepth 20000 in
theorem x_L_point_c : Cond.classLink RL 13 gE ∈ wsL_point := by decide +kernel
set_option maxHeartbeats 4000000 in
set_option maxRecDepth 100000 in
theorem c_L_point_a (l : Launch) (g : gT) (mb : Nat) (ta : Nat) (so : Nat) (to : Nat) (ro : Nat) (tr : Nat) (pl : Nat) (mo : Nat) (ra : Nat) (lo : Nat) (cp : Nat) (sp : Nat) (yr : Nat) (cx : Nat) (cy : Nat) (n : Nat) (fx : Nat → Int32) (fy : Nat → Int32) (out : Nat) (f : Nat → Int64) (k v z : Int32) (hct : CtI l g yX8_point wsX8_point rm_X8_point [.ref mb, .int k, .int v] [gO mb 8 [.ref ta, .ref so, .ref to, .ref ro, .ref tr, .ref pl, .ref mo, .ref ra], gO ro 5 [.ref lo, .ref cp, .ref sp, .int (nI yr)], gO cp 3 [.ref cx, .ref cy, .int (nI n)], gI g cx 48 fx, gI g cy 48 fy] (fun (r : Int32) (_ : Unit) => r = z) (fun (_ : Unit) => [gO mb 8 [.ref ta, .ref so, .ref to, .ref ro, .ref tr, .ref pl, .ref mo, .ref ra], gO ro 5 [.ref lo, .ref cp, .ref sp, .int (nI yr)], gO cp 3 [.ref cx, .ref cy, .int (nI n)], gI g cx 48 fx, gI g cy 48 fy])) : CtIX l g yL_point wsL_point rm_L_point [.ref mb, .int k, .int v, .ref out] [gL g out 1 f, gO mb 8 [.ref ta, .ref so, .ref to, .ref ro, .ref tr, .ref pl, .ref mo, .ref ra], gO ro 5 [.ref lo, .ref cp, .ref sp, .int (nI yr)], gO cp 3 [.ref cx, .ref cy, .int (nI n)], gI g cx 48 fx, gI g cy 48 fy] (fun (r : Int32) (_ : Unit) => r = 0) (fun (_ : Unit) => [gL g out 1 (vp_updL f 0 z.toInt64), gO mb 8 [.ref ta, .ref so, .ref to, .ref ro, .ref tr, .ref pl, .ref mo, .ref ra], gO ro 5 [.ref lo, .ref cp, .ref sp, .int (nI yr)], gO cp 3 [.ref cx, .ref cy, .int (nI n)], gI g cx 48 fx, gI g cy 48 fy]) := by
  refine CtIX.of (cc := cL_point) (maxL := 5) (ret := .int) (hh := [(0, 10, 13, 13)]) (by decide) rfl (Nat.le_of_ble_eq_true rfl) ?_
  intro p e s m args below meth c A Q htab F hK hX hA hP hD hS hret ls hl
  have hx := F.1
  have hb := F.2.1
  have hl : lv_has ls 5 [(0, .ref mb), (1, .int k), (2, .int v), (3, .ref out)] := hl
  refine lv_aload_n hx hb dL_point_0 rfl (lv_at hl 3 rfl) ?_
  refine lv_iconst (v := 0) hx hb dL_point_1 (by decide) ?_
  refine lv_aload_n hx hb dL_point_2 rfl (lv_at hl 0 rfl) ?_
  refine lv_iload_n hx hb dL_point_3 rfl (lv_at hl 1 rfl) ?_
  refine lv_iload_n hx hb dL_point_4 rfl (lv_at hl 2 rfl) ?_
  refine g_VI (wr := [gL g out 1 f]) (As := [.int k, .int v]) (rest := [.int 0, .ref out]) (n := 2) F hct gL_point_X8_point rfl (by decide) ⟨by decide, by decide⟩ 1 8 rfl rfl rfl rfl hl.1 rfl (Nat.le_of_ble_eq_true rfl) dL_point_5 ⟨Nat.le_of_ble_eq_true rfl, Nat.le_of_ble_eq_true rfl⟩ hK hP hD hS hA [1, 2, 3, 4, 5] [0] (by decide) rfl rfl (by decide) (by decide) (fun r_5 u_5 H locs hw_5 hP hD hS => ?_)
  have hP : gP g [gL g out 1 f, gO mb 8 [.ref ta, .ref so, .ref to, .ref ro, .ref tr, .ref pl, .ref mo, .ref ra], gO ro 5 [.ref lo, .ref cp, .ref sp, .int (nI yr)], gO cp 3 [.ref cx, .ref cy, .int (nI n)], gI g cx 48 fx, gI g cy 48 fy] H := hP
  have hD : va_D A [gL g out 1 f, gO mb 8 [.ref ta, .ref so, .ref to, .ref ro, .ref tr, .ref pl, .ref mo, .ref ra], gO ro 5 [.ref lo, .ref cp, .ref sp, .int (nI yr)], gO cp 3 [.ref cx, .ref cy, .int (nI n)], gI g cx 48 fx, gI g cy 48 fy] := hD
  obtain rfl := hw_5
  refine lv_i2l (v := r_5.toInt64) hx hb dL_point_8 rfl ?_
  have h00 : (0 : Int32).toNatClampNeg = 0 := by decide
  refine va_last hx hb hK.1 hP hD hS 0 2 rfl rfl (show vp_in (nI 0) 1 from vp_in_nI (by decide) (by decide)) dL_point_9 (fun H locs hP hD hS => ?_)
  rw [h00] at hP hD
  refine lv_goto (tgt := 17) hx hb dL_point_10 (by decide) ?_
  refine lv_iconst (v := 0) hx hb dL_point_17 (by decide) ?_
  exact hret _ _ _ _ 0 () dL_point_18 rfl rfl hP hD hS
set_option maxHeartbeats 4000000 in
set_option maxRecDepth 100000 in
theorem c_L_point_t (l : Launch) (g : gT) (mb : Nat) (ta : Nat) (so : Nat) (to : Nat) (ro : Nat) (tr : Nat) (pl : Nat) (mo : Nat) (ra : Nat) (lo : Nat) (cp : Nat) (sp : Nat) (yr : Nat) (cx : Nat) (cy : Nat) (n : Nat) (fx : Nat → Int32) (fy : Nat → Int32) (out : Nat) (f : Nat → Int64) (k v : Int32) (hct : CtT l g yX8_point wsX8_point rm_X8_point [.ref mb, .int k, .int v] [gO mb 8 [.ref ta, .ref so, .ref to, .ref ro, .ref tr, .ref pl, .ref mo, .ref ra], gO ro 5 [.ref lo, .ref cp, .ref sp, .int (nI yr)], gO cp 3 [.ref cx, .ref cy, .int (nI n)], gI g cx 48 fx, gI g cy 48 fy]) : CtIX l g yL_point wsL_point rm_L_point [.ref mb, .int k, .int v, .ref out] [gL g out 1 f, gO mb 8 [.ref ta, .ref so, .ref to, .ref ro, .ref tr, .ref pl, .ref mo, .ref ra], gO ro 5 [.ref lo, .ref cp, .ref sp, .int (nI yr)], gO cp 3 [.ref cx, .ref cy, .int (nI n)], gI g cx 48 fx, gI g cy 48 fy] (fun (r : Int32) (_ : Unit) => r = 1) (fun (_ : Unit) => [gL g out 1 f, gO mb 8 [.ref ta, .ref so, .ref to, .ref ro, .ref tr, .ref pl, .ref mo, .ref ra], gO ro 5 [.ref lo, .ref cp, .ref sp, .int (nI yr)], gO cp 3 [.ref cx, .ref cy, .int (nI n)], gI g cx 48 fx, gI g cy 48 fy]) := by
  refine CtIX.of (cc := cL_point) (maxL := 5) (ret := .int) (hh := [(0, 10, 13, 13)]) (by decide) rfl (Nat.le_of_ble_eq_true rfl) ?_
  intro p e s m args below meth c A Q htab F hK hX hA hP hD hS hret ls hl
  have hx := F.1
  have hb := F.2.1
  have hl : lv_has ls 5 [(0, .ref mb), (1, .int k), (2, .int v), (3, .ref out)] := hl
  refine lv_aload_n hx hb dL_point_0 rfl (lv_at hl 3 rfl) ?_
  refine lv_iconst (v := 0) hx hb dL_point_1 (by decide) ?_
  refine lv_aload_n hx hb dL_point_2 rfl (lv_at hl 0 rfl) ?_
  refine lv_iload_n hx hb dL_point_3 rfl (lv_at hl 1 rfl) ?_
  refine lv_iload_n hx hb dL_point_4 rfl (lv_at hl 2 rfl) ?_
  refine g_VT (wr := [gL g out 1 f]) (As := [.int k, .int v]) (rest := [.int 0, .ref out]) (n := 2) F hct gL_point_X8_point rfl (by decide) ⟨by decide, by decide⟩ 1 8 rfl rfl rfl rfl hl.1 rfl (Nat.le_of_ble_eq_true rfl) dL_point_5 ⟨Nat.le_of_ble_eq_true rfl, Nat.le_of_ble_eq_true rfl⟩ hK hX hP hD hS hA [1, 2, 3, 4, 5] [0] (by decide) rfl rfl (by decide) (by decide) (fun ce q9 H locs hP hD hS hce hcv hcl => ?_)
  have hP : gP g [gL g out 1 f, gO mb 8 [.ref ta, .ref so, .ref to, .ref ro, .ref tr, .ref pl, .ref mo, .ref ra], gO ro 5 [.ref lo, .ref cp, .ref sp, .int (nI yr)], gO cp 3 [.ref cx, .ref cy, .int (nI n)], gI g cx 48 fx, gI g cy 48 fy] H := hP
  have hD : va_D A [gL g out 1 f, gO mb 8 [.ref ta, .ref so, .ref to, .ref ro, .ref tr, .ref pl, .ref mo, .ref ra], gO ro 5 [.ref lo, .ref cp, .ref sp, .int (nI yr)], gO cp 3 [.ref cx, .ref cy, .int (nI n)], gI g cx 48 fx, gI g cy 48 fy] := hD
  refine vx_catch (own := RL) (name := gE) (E := gE) F.2.2.2.1 [] ⟨0, 10, 13, 13⟩ [] (by rw [htab]; rfl) (fun z hz => nomatch hz) (by decide) (by decide) (F.2.2.2.2 _ x_L_point_c) (va_Nw.use rfl hX.2.1.1) hce hcv hcl ?_
  refine lv_astore (lv' := [(4, .ref q9), (0, .ref mb), (1, .int k), (2, .int v), (3, .ref out)]) hx hb dL_point_13 hl (by decide) rfl (fun ls hl => ?_)
  refine lv_iconst (v := 1) hx hb dL_point_15 (by decide) ?_
  exact hret _ _ _ _ 1 () dL_point_16 rfl rfl hP hD hS
abbrev rm_L_loop : Room := { frames := 7, cells := 1, slots := 6, locals := 142 }
set_option maxRecDepth 20000 in
theorem x_L_loop_c : Cond.classLink RL 13 gE ∈ wsL_loop := by decide +kernel
set_option maxHeartbeats 4000000 in
set_option maxRecDepth 100000 in
theorem c_L_loop_a (l : Launch) (g : gT) (mb : Nat) (ta : Nat) (so : Nat) (to : Nat) (ro : Nat) (tr : Nat) (pl : Nat) (mo : Nat) (ra : Nat) (lo : Nat) (cp : Nat) (sp : Nat) (yr : Nat) (ly : Nat) (lp : Nat) (la : Nat) (ln : Nat) (fy : Nat → Int32) (fp : Nat → Int32) (fa : Nat → Int32) (out : Nat) (f : Nat → Int64) (k v z : Int32) (hct : CtI l g yX8_loop wsX8_loop rm_X8_loop [.ref mb, .int k, .int v] [gO mb 8 [.ref ta, .ref so, .ref to, .ref ro, .ref tr, .ref pl, .ref mo, .ref ra], gO ro 5 [.ref lo, .ref cp, .ref sp, .int (nI yr)], gO lo 0 [.ref ly, .ref lp, .ref la, .int (nI ln)], gI g ly 30 fy, gI g lp 30 fp, gI g la 30 fa] (fun (r : Int32) (_ : Unit) => r = z) (fun (_ : Unit) => [gO mb 8 [.ref ta, .ref so, .ref to, .ref ro, .ref tr, .ref pl, .ref mo, .ref ra], gO ro 5 [.ref lo, .ref cp, .ref sp, .int (nI yr)], gO lo 0 [.ref ly, .ref lp, .ref la, .int (nI ln)], gI g ly 30 fy, gI g lp 30 fp, gI g la 30 fa])) : CtIX l g yL_loop wsL_loop rm_L_loop [.ref mb, .int k, .int v, .ref out] [gL g out 1 f, gO mb 8 [.ref ta, .ref so, .ref to, .ref ro, .ref tr, .ref pl, .ref mo, .ref ra], gO ro 5 [.ref lo, .ref cp, .ref sp, .int (nI yr)], gO lo 0 [.ref ly, .ref lp, .ref la, .int (nI ln)], gI g ly 30 fy, gI g lp 30 fp, gI g la 30 fa] (fun (r : Int32) (_ : Unit) => r = 0) (fun (_ : Unit) => [gL g out 1 (vp_updL f 0 z.toInt64), gO mb 8 [.ref ta, .ref so, .ref to, .ref ro, .ref tr, .ref pl, .ref mo, .ref ra], gO ro 5 [.ref lo, .ref cp, .ref sp, .int (nI yr)], gO lo 0 [.ref ly, .ref lp, .ref la, .int (nI ln)], gI g ly 30 fy, gI g lp 30 fp, gI g la 30 fa]) := by
  refine CtIX.of (cc := cL_loop) (maxL := 5) (ret := .int) (hh := [(0, 10, 13, 13)]) (by decide) rfl (Nat.le_of_ble_eq_true rfl) ?_
  intro p e s m args below meth c A Q htab F hK hX hA hP hD hS hret ls hl
  have hx := F.1
  have hb := F.2.1
  have hl : lv_has ls 5 [(0, .ref mb), (1, .int k), (2, .int v), (3, .ref out)] := hl
  refine lv_aload_n hx hb dL_loop_0 rfl (lv_at hl 3 rfl) ?_
  refine lv_iconst (v := 0) hx hb dL_loop_1 (by decide) ?_
  refine lv_aload_n hx hb dL_loop_2 rfl (lv_at hl 0 rfl) ?_
  refine lv_iload_n hx hb dL_loop_3 rfl (lv_at hl 1 rfl) ?_
  refine lv_iload_n hx hb dL_loop_4 rfl (lv_at hl 2 rfl) ?_
  refine g_VI (wr := [gL g out 1 f]) (As := [.int k, .int v]) (rest := [.int 0, .ref out]) (n := 2) F hct gL_loop_X8_loop rfl (by decide) ⟨by decide, by decide⟩ 1 8 rfl rfl rfl rfl hl.1 rfl (Nat.le_of_ble_eq_true rfl) dL_loop_5 ⟨Nat.le_of_ble_eq_true rfl, Nat.le_of_ble_eq_true rfl⟩ hK hP hD hS hA [1, 2, 3, 4, 5, 6] [0] (by decide) rfl rfl (by decide) (by decide) (fun r_5 u_5 H locs hw_5 hP hD hS => ?_)
  have hP : gP g [gL g out 1 f, gO mb 8 [.ref ta, .ref so, .ref to, .ref ro, .ref tr, .ref pl, .ref mo, .ref ra], gO ro 5 [.ref lo, .ref cp, .ref sp, .int (nI yr)], gO lo 0 [.ref ly, .ref lp, .ref la, .int (nI ln)], gI g ly 30 fy, gI g lp 30 fp, gI g la 30 fa] H := hP
  have hD : va_D A [gL g out 1 f, gO mb 8 [.ref ta, .ref so, .ref to, .ref ro, .ref tr, .ref pl, .ref mo, .ref ra], gO ro 5 [.ref lo, .ref cp, .ref sp, .int (nI yr)], gO lo 0 [.ref ly, .ref lp, .ref la, .int (nI ln)], gI g ly 30 fy, gI g lp 30 fp, gI g la 30 fa] := hD
  obtain rfl := hw_5
  refine lv_i2l (v := r_5.toInt64) hx hb dL_loop_8 rfl ?_
  have h00 : (0 : Int32).toNatClampNeg = 0 := by decide
  refine va_last hx hb hK.1 hP hD hS 0 2 rfl rfl (show vp_in (nI 0) 1 from vp_in_nI (by decide) (by decide)) dL_loop_9 (fun H locs hP hD hS => ?_)
  rw [h00] at hP hD
  refine lv_goto (tgt := 17) hx hb dL_loop_10 (by decide) ?_
  refine lv_iconst (v := 0) hx hb dL_loop_17 (by decide) ?_
  exact hret _ _ _ _ 0 () dL_loop_18 rfl rfl hP hD hS
set_option maxHeartbeats 4000000 in
set_option maxRecDepth 100000 in
theorem c_L_loop_t (l : Launch) (g : gT) (mb : Nat) (ta : Nat) (so : Nat) (to : Nat) (ro : Nat) (tr : Nat) (pl : Nat) (mo : Nat) (ra : Nat) (lo : Nat) (cp : Nat) (sp : Nat) (yr : Nat) (ly : Nat) (lp : Nat) (la : Nat) (ln : Nat) (fy : Nat → Int32) (fp : Nat → Int32) (fa : Nat → Int32) (out : Nat) (f : Nat → Int64) (k v : Int32) (hct : CtT l g yX8_loop wsX8_loop rm_X8_loop [.ref mb, .int k, .int v] [gO mb 8 [.ref ta, .ref so, .ref to, .ref ro, .ref tr, .ref pl, .ref mo, .ref ra], gO ro 5 [.ref lo, .ref cp, .ref sp, .int (nI yr)], gO lo 0 [.ref ly, .ref lp, .ref la, .int (nI ln)], gI g ly 30 fy, gI g lp 30 fp, gI g la 30 fa]) : CtIX l g yL_loop wsL_loop rm_L_loop [.ref mb, .int k, .int v, .ref out] [gL g out 1 f, gO mb 8 [.ref ta, .ref so, .ref to, .ref ro, .ref tr, .ref pl, .ref mo, .ref ra], gO ro 5 [.ref lo, .ref cp, .ref sp, .int (nI yr)], gO lo 0 [.ref ly, .ref lp, .ref la, .int (nI ln)], gI g ly 30 fy, gI g lp 30 fp, gI g la 30 fa] (fun (r : Int32) (_ : Unit) => r = 1) (fun (_ : Unit) => [gL g out 1 f, gO mb 8 [.ref ta, .ref so, .ref to, .ref ro, .ref tr, .ref pl, .ref mo, .ref ra], gO ro 5 [.ref lo, .ref cp, .ref sp, .int (nI yr)], gO lo 0 [.ref ly, .ref lp, .ref la, .int (nI ln)], gI g ly 30 fy, gI g lp 30 fp, gI g la 30 fa]) := by
  refine CtIX.of (cc := cL_loop) (maxL := 5) (ret := .int) (hh := [(0, 10, 13, 13)]) (by decide) rfl (Nat.le_of_ble_eq_true rfl) ?_
  intro p e s m args below meth c A Q htab F hK hX hA hP hD hS hret ls hl
  have hx := F.1
  have hb := F.2.1
  have hl : lv_has ls 5 [(0, .ref mb), (1, .int k), (2, .int v), (3, .ref out)] := hl
  refine lv_aload_n hx hb dL_loop_0 rfl (lv_at hl 3 rfl) ?_
  refine lv_iconst (v := 0) hx hb dL_loop_1 (by decide) ?_
  refine lv_aload_n hx hb dL_loop_2 rfl (lv_at hl 0 rfl) ?_
  refine lv_iload_n hx hb dL_loop_3 rfl (lv_at hl 1 rfl) ?_
  refine lv_iload_n hx hb dL_loop_4 rfl (lv_at hl 2 rfl) ?_
  refine g_VT (wr := [gL g out 1 f]) (As := [.int k, .int v]) (rest := [.int 0, .ref out]) (n := 2) F hct gL_loop_X8_loop rfl (by decide) ⟨by decide, by decide⟩ 1 8 rfl rfl rfl rfl hl.1 rfl (Nat.le_of_ble_eq_true rfl) dL_loop_5 ⟨Nat.le_of_ble_eq_true rfl, Nat.le_of_ble_eq_true rfl⟩ hK hX hP hD hS hA [1, 2, 3, 4, 5, 6] [0] (by decide) rfl rfl (by decide) (by decide) (fun ce q9 H locs hP hD hS hce hcv hcl => ?_)
  have hP : gP g [gL g out 1 f, gO mb 8 [.ref ta, .ref so, .ref to, .ref ro, .ref tr, .ref pl, .ref mo, .ref ra], gO ro 5 [.ref lo, .ref cp, .ref sp, .int (nI yr)], gO lo 0 [.ref ly, .ref lp, .ref la, .int (nI ln)], gI g ly 30 fy, gI g lp 30 fp, gI g la 30 fa] H := hP
  have hD : va_D A [gL g out 1 f, gO mb 8 [.ref ta, .ref so, .ref to, .ref ro, .ref tr, .ref pl, .ref mo, .ref ra], gO ro 5 [.ref lo, .ref cp, .ref sp, .int (nI yr)], gO lo 0 [.ref ly, .ref lp, .ref la, .int (nI ln)], gI g ly 30 fy, gI g lp 30 fp, gI g la 30 fa] := hD
  refine vx_catch (own := RL) (name := gE) (E := gE) F.2.2.2.1 [] ⟨0, 10, 13, 13⟩ [] (by rw [htab]; rfl) (fun z hz => nomatch hz) (by decide) (by decide) (F.2.2.2.2 _ x_L_loop_c) (va_Nw.use rfl hX.2.1.1) hce hcv hcl ?_
  refine lv_astore (lv' := [(4, .ref q9), (0, .ref mb), (1, .int k), (2, .int v), (3, .ref out)]) hx hb dL_loop_13 hl (by decide) rfl (fun ls hl => ?_)
  refine lv_iconst (v := 1) hx hb dL_loop_15 (by decide) ?_
  exact hret _ _ _ _ 1 () dL_loop_16 rfl rfl hP hD hS
abbrev rm_L_owner : Room := { frames := 7, cells := 1, slots := 6, locals := 142 }
set_option maxRecDepth 20000 in
theorem x_L_owner_c : Cond.classLink RL 13 gE ∈ wsL_owner := by decide +kernel
set_option maxHeartbeats 4000000 in
set_option maxRecDepth 100000 in
theorem c_L_owner_a (l : Launch) (g : gT) (mb : Nat) (ta : Nat) (so : Nat) (to : Nat) (ro : Nat) (tr : Nat) (pl : Nat) (mo : Nat) (ra : Nat) (px : Nat) (py : Nat) (pw : Nat) (pc_ : Nat) (pb : Nat) (pn : Nat) (ex : Nat → Int32) (ey : Nat → Int32) (ew : Nat → Int32) (ec : Nat → Int32) (eb : Nat → Int32) (lo : Nat) (cp : Nat) (sp : Nat) (yr : Nat) (cx : Nat) (cy : Nat) (n : Nat) (fx : Nat → Int32) (fy : Nat → Int32) (out : Nat) (f : Nat → Int64) (k v z : Int32) (hct : CtI l g yX8_owner wsX8_owner rm_X8_owner [.ref mb, .int k, .int v] [gO mb 8 [.ref ta, .ref so, .ref to, .ref ro, .ref tr, .ref pl, .ref mo, .ref ra], gO pl 2 [.ref px, .ref py, .ref pw, .ref pc_, .ref pb, .int (nI pn)], gI g px 20 ex, gI g py 20 ey, gI g pw 20 ew, gI g pc_ 20 ec, gI g pb 20 eb, gO ro 5 [.ref lo, .ref cp, .ref sp, .int (nI yr)], gO cp 3 [.ref cx, .ref cy, .int (nI n)], gI g cx 48 fx, gI g cy 48 fy] (fun (r : Int32) (_ : Unit) => r = z) (fun (_ : Unit) => [gO mb 8 [.ref ta, .ref so, .ref to, .ref ro, .ref tr, .ref pl, .ref mo, .ref ra], gO pl 2 [.ref px, .ref py, .ref pw, .ref pc_, .ref pb, .int (nI pn)], gI g px 20 ex, gI g py 20 ey, gI g pw 20 ew, gI g pc_ 20 ec, gI g pb 20 eb, gO ro 5 [.ref lo, .ref cp, .ref sp, .int (nI yr)], gO cp 3 [.ref cx, .ref cy, .int (nI n)], gI g cx 48 fx, gI g cy 48 fy])) : CtIX l g yL_owner wsL_owner rm_L_owner [.ref mb, .int k, .int v, .ref out] [gL g out 1 f, gO mb 8 [.ref ta, .ref so, .ref to, .ref ro, .ref tr, .ref pl, .ref mo, .ref ra], gO pl 2 [.ref px, .ref py, .ref pw, .ref pc_, .ref pb, .int (nI pn)], gI g px 20 ex, gI g py 20 ey, gI g pw 20 ew, gI g pc_ 20 ec, gI g pb 20 eb, gO ro 5 [.ref lo, .ref cp, .ref sp, .int (nI yr)], gO cp 3 [.ref cx, .ref cy, .int (nI n)], gI g cx 48 fx, gI g cy 48 fy] (fun (r : Int32) (_ : Unit) => r = 0) (fun (_ : Unit) => [gL g out 1 (vp_updL f 0 z.toInt64), gO mb 8 [.ref ta, .ref so, .ref to, .ref ro, .ref tr, .ref pl, .ref mo, .ref ra], gO pl 2 [.ref px, .ref py, .ref pw, .ref pc_, .ref pb, .int (nI pn)], gI g px 20 ex, gI g py 20 ey, gI g pw 20 ew, gI g pc_ 20 ec, gI g pb 20 eb, gO ro 5 [.ref lo, .ref cp, .ref sp, .int (nI yr)], gO cp 3 [.ref cx, .ref cy, .int (nI n)], gI g cx 48 fx, gI g cy 48 fy]) := by
  refine CtIX.of (cc := cL_owner) (maxL := 5) (ret := .int) (hh := [(0, 10, 13, 13)]) (by decide) rfl (Nat.le_of_ble_eq_true rfl) ?_
  intro p e s m args below meth c A Q htab F hK hX hA hP hD hS hret ls hl
  have hx := F.1
  have hb := F.2.1
  have hl : lv_has ls 5 [(0, .ref mb), (1, .int k), (2, .int v), (3, .ref out)] := hl
  refine lv_aload_n hx hb dL_owner_0 rfl (lv_at hl 3 rfl) ?_
  refine lv_iconst (v := 0) hx hb dL_owner_1 (by decide) ?_
  refine lv_aload_n hx hb dL_owner_2 rfl (lv_at hl 0 rfl) ?_
  refine lv_iload_n hx hb dL_owner_3 rfl (lv_at hl 1 rfl) ?_
  refine lv_iload_n hx hb dL_owner_4 rfl (lv_at hl 2 rfl) ?_
  refine g_VI (wr := [gL g out 1 f]) (As := [.int k, .int v]) (rest := [.int 0, .ref out]) (n := 2) F hct gL_owner_X8_owner rfl (by decide) ⟨by decide, by decide⟩ 1 8 rfl rfl rfl rfl hl.1 rfl (Nat.le_of_ble_eq_true rfl) dL_owner_5 ⟨Nat.le_of_ble_eq_true rfl, Nat.le_of_ble_eq_true rfl⟩ hK hP hD hS hA [1, 2, 3, 4, 5, 6, 7, 8, 9, 10, 11] [0] (by decide) rfl rfl (by decide) (by decide) (fun r_5 u_5 H locs hw_5 hP hD hS => ?_)
  have hP : gP g [gL g out 1 f, gO mb 8 [.ref ta, .ref so, .ref to, .ref ro, .ref tr, .ref pl, .ref mo, .ref ra], gO pl 2 [.ref px, .ref py, .ref pw, .ref pc_, .ref pb, .int (nI pn)], gI g px 20 ex, gI g py 20 ey, gI g pw 20 ew, gI g pc_ 20 ec, gI g pb 20 eb, gO ro 5 [.ref lo, .ref cp, .ref sp, .int (nI yr)], gO cp 3 [.ref cx, .ref cy, .int (nI n)], gI g cx 48 fx, gI g cy 48 fy] H := hP
  have hD : va_D A [gL g out 1 f, gO mb 8 [.ref ta, .ref so, .ref to, .ref ro, .ref tr, .ref pl, .ref mo, .ref ra], gO pl 2 [.ref px, .ref py, .ref pw, .ref pc_, .ref pb, .int (nI pn)], gI g px 20 ex, gI g py 20 ey, gI g pw 20 ew, gI g pc_ 20 ec, gI g pb 20 eb, gO ro 5 [.ref lo, .ref cp, .ref sp, .int (nI yr)], gO cp 3 [.ref cx, .ref cy, .int (nI n)], gI g cx 48 fx, gI g cy 48 fy] := hD
  obtain rfl := hw_5
  refine lv_i2l (v := r_5.toInt64) hx hb dL_owner_8 rfl ?_
  have h00 : (0 : Int32).toNatClampNeg = 0 := by decide
  refine va_last hx hb hK.1 hP hD hS 0 2 rfl rfl (show vp_in (nI 0) 1 from vp_in_nI (by decide) (by decide)) dL_owner_9 (fun H locs hP hD hS => ?_)
  rw [h00] at hP hD
  refine lv_goto (tgt := 17) hx hb dL_owner_10 (by decide) ?_
  refine lv_iconst (v := 0) hx hb dL_owner_17 (by decide) ?_
  exact hret _ _ _ _ 0 () dL_owner_18 rfl rfl hP hD hS
set_option maxHeartbeats 4000000 in
set_option maxRecDepth 100000 in
theorem c_L_owner_t (l : Launch) (g : gT) (mb : Nat) (ta : Nat) (so : Nat) (to : Nat) (ro : Nat) (tr : Nat) (pl : Nat) (mo : Nat) (ra : Nat) (px : Nat) (py : Nat) (pw : Nat) (pc_ : Nat) (pb : Nat) (pn : Nat) (ex : Nat → Int32) (ey : Nat → Int32) (ew : Nat → Int32) (ec : Nat → Int32) (eb : Nat → Int32) (lo : Nat) (cp : Nat) (sp : Nat) (yr : Nat) (cx : Nat) (cy : Nat) (n : Nat) (fx : Nat → Int32) (fy : Nat → Int32) (out : Nat) (f : Nat → Int64) (k v : Int32) (hct : CtT l g yX8_owner wsX8_owner rm_X8_owner [.ref mb, .int k, .int v] [gO mb 8 [.ref ta, .ref so, .ref to, .ref ro, .ref tr, .ref pl, .ref mo, .ref ra], gO pl 2 [.ref px, .ref py, .ref pw, .ref pc_, .ref pb, .int (nI pn)], gI g px 20 ex, gI g py 20 ey, gI g pw 20 ew, gI g pc_ 20 ec, gI g pb 20 eb, gO ro 5 [.ref lo, .ref cp, .ref sp, .int (nI yr)], gO cp 3 [.ref cx, .ref cy, .int (nI n)], gI g cx 48 fx, gI g cy 48 fy]) : CtIX l g yL_owner wsL_owner rm_L_owner [.ref mb, .int k, .int v, .ref out] [gL g out 1 f, gO mb 8 [.ref ta, .ref so, .ref to, .ref ro, .ref tr, .ref pl, .ref mo, .ref ra], gO pl 2 [.ref px, .ref py, .ref pw, .ref pc_, .ref pb, .int (nI pn)], gI g px 20 ex, gI g py 20 ey, gI g pw 20 ew, gI g pc_ 20 ec, gI g pb 20 eb, gO ro 5 [.ref lo, .ref cp, .ref sp, .int (nI yr)], gO cp 3 [.ref cx, .ref cy, .int (nI n)], gI g cx 48 fx, gI g cy 48 fy] (fun (r : Int32) (_ : Unit) => r = 1) (fun (_ : Unit) => [gL g out 1 f, gO mb 8 [.ref ta, .ref so, .ref to, .ref ro, .ref tr, .ref pl, .ref mo, .ref ra], gO pl 2 [.ref px, .ref py, .ref pw, .ref pc_, .ref pb, .int (nI pn)], gI g px 20 ex, gI g py 20 ey, gI g pw 20 ew, gI g pc_ 20 ec, gI g pb 20 eb, gO ro 5 [.ref lo, .ref cp, .ref sp, .int (nI yr)], gO cp 3 [.ref cx, .ref cy, .int (nI n)], gI g cx 48 fx, gI g cy 48 fy]) := by
  refine CtIX.of (cc := cL_owner) (maxL := 5) (ret := .int) (hh := [(0, 10, 13, 13)]) (by decide) rfl (Nat.le_of_ble_eq_true rfl) ?_
  intro p e s m args below meth c A Q htab F hK hX hA hP hD hS hret ls hl
  have hx := F.1
  have hb := F.2.1
  have hl : lv_has ls 5 [(0, .ref mb), (1, .int k), (2, .int v), (3, .ref out)] := hl
  refine lv_aload_n hx hb dL_owner_0 rfl (lv_at hl 3 rfl) ?_
  refine lv_iconst (v := 0) hx hb dL_owner_1 (by decide) ?_
  refine lv_aload_n hx hb dL_owner_2 rfl (lv_at hl 0 rfl) ?_
  refine lv_iload_n hx hb dL_owner_3 rfl (lv_at hl 1 rfl) ?_
  refine lv_iload_n hx hb dL_owner_4 rfl (lv_at hl 2 rfl) ?_
  refine g_VT (wr := [gL g out 1 f]) (As := [.int k, .int v]) (rest := [.int 0, .ref out]) (n := 2) F hct gL_owner_X8_owner rfl (by decide) ⟨by decide, by decide⟩ 1 8 rfl rfl rfl rfl hl.1 rfl (Nat.le_of_ble_eq_true rfl) dL_owner_5 ⟨Nat.le_of_ble_eq_true rfl, Nat.le_of_ble_eq_true rfl⟩ hK hX hP hD hS hA [1, 2, 3, 4, 5, 6, 7, 8, 9, 10, 11] [0] (by decide) rfl rfl (by decide) (by decide) (fun ce q9 H locs hP hD hS hce hcv hcl => ?_)
  have hP : gP g [gL g out 1 f, gO mb 8 [.ref ta, .ref so, .ref to, .ref ro, .ref tr, .ref pl, .ref mo, .ref ra], gO pl 2 [.ref px, .ref py, .ref pw, .ref pc_, .ref pb, .int (nI pn)], gI g px 20 ex, gI g py 20 ey, gI g pw 20 ew, gI g pc_ 20 ec, gI g pb 20 eb, gO ro 5 [.ref lo, .ref cp, .ref sp, .int (nI yr)], gO cp 3 [.ref cx, .ref cy, .int (nI n)], gI g cx 48 fx, gI g cy 48 fy] H := hP
  have hD : va_D A [gL g out 1 f, gO mb 8 [.ref ta, .ref so, .ref to, .ref ro, .ref tr, .ref pl, .ref mo, .ref ra], gO pl 2 [.ref px, .ref py, .ref pw, .ref pc_, .ref pb, .int (nI pn)], gI g px 20 ex, gI g py 20 ey, gI g pw 20 ew, gI g pc_ 20 ec, gI g pb 20 eb, gO ro 5 [.ref lo, .ref cp, .ref sp, .int (nI yr)], gO cp 3 [.ref cx, .ref cy, .int (nI n)], gI g cx 48 fx, gI g cy 48 fy] := hD
  refine vx_catch (own := RL) (name := gE) (E := gE) F.2.2.2.1 [] ⟨0, 10, 13, 13⟩ [] (by rw [htab]; rfl) (fun z hz => nomatch hz) (by decide) (by decide) (F.2.2.2.2 _ x_L_owner_c) (va_Nw.use rfl hX.2.1.1) hce hcv hcl ?_
  refine lv_astore (lv' := [(4, .ref q9), (0, .ref mb), (1, .int k), (2, .int v), (3, .ref out)]) hx hb dL_owner_13 hl (by decide) rfl (fun ls hl => ?_)
  refine lv_iconst (v := 1) hx hb dL_owner_15 (by decide) ?_
  exact hret _ _ _ _ 1 () dL_owner_16 rfl rfl hP hD hS
