def app20 (T : Nat → Nat) (n : Nat) (a b c d e : Int32) : Nat → Nat := app4 (app4 (app4 (app4 (app4 T n a) (n + 4) b) (n + 8) c) (n + 12) d) (n + 16) e
theorem app20_lt {T : Nat → Nat} (h : ∀ k, T k < 256) (n : Nat) (a b c d e : Int32) : ∀ k, app20 T n a b c d e k < 256 := app4_lt (app4_lt (app4_lt (app4_lt (app4_lt h _ _) _ _) _ _) _ _) _ _
abbrev rm_X8_feed : Room := { frames := 1, cells := 0, slots := 0, locals := 22 }
theorem i_X8_feed_X8 : ∀ w ∈ wsX80, w ∈ wsX8_feed := by decide +kernel
theorem k_X8_feed_f10 : Cond.fieldLink RX8 10 (TX8 0).1 (TX8 0).2.1 (TX8 0).2.2.1 ∈ wsX8_feed := by decide +kernel
theorem i_X8_feed_X7 : ∀ w ∈ wsX70, w ∈ wsX8_feed := by decide +kernel
theorem k_X8_feed_f69 : Cond.fieldLink RX8 69 (TX7 1).1 (TX7 1).2.1 (TX7 1).2.2.1 ∈ wsX8_feed := by decide +kernel
set_option maxHeartbeats 4000000 in
set_option maxRecDepth 100000 in
theorem c_X8_feed_n (l : Launch) (g : gT) (mb : Nat) (ta : Nat) (so : Nat) (to : Nat) (ro : Nat) (tr : Nat) (pl : Nat) (mo : Nat) (ra : Nat) (tb : Nat) (tn : Nat) (ft : Nat → Int32) (T : Nat → Nat) (a1 : Int32) (a2 : Int32) (a3 : Int32) (a4 : Int32) (a5 : Int32) (htn : tn ≤ 200) (hT : ∀ k, k < tn → ft k = nI (T k)) (h256 : ∀ k, T k < 256) (h : 180 < tn) : CtI l g yX8_feed wsX8_feed rm_X8_feed [.ref mb, .int a1, .int a2, .int a3, .int a4, .int a5] [gO mb 8 [.ref ta, .ref so, .ref to, .ref ro, .ref tr, .ref pl, .ref mo, .ref ra], gO ta 7 [.ref tb, .int (nI tn)], gI g tb 200 ft] (fun (r : Int32) (_ : Unit) => r = -1) (fun (_ : Unit) => [gO mb 8 [.ref ta, .ref so, .ref to, .ref ro, .ref tr, .ref pl, .ref mo, .ref ra], gO ta 7 [.ref tb, .int (nI tn)], gI g tb 200 ft]) := by
  refine CtI.of (cc := cX8_feed) (maxL := 6) (ret := .int) (by decide) rfl (Nat.le_of_ble_eq_true rfl) ?_
  intro p e s m args below meth c A Q hnm F hK hA hP hD hS hret ls hl
  have hx := F.1
  have hb := F.2.1
  have hl : lv_has ls 6 [(0, .ref mb), (1, .int a1), (2, .int a2), (3, .int a3), (4, .int a4), (5, .int a5)] := hl
  refine lv_aload_n hx hb dX8_feed_0 rfl (lv_at hl 0 rfl) ?_
  refine g_get (C := RX8) (T := TX8) (N := 8) F hK hP i_X8_feed_X8 0 rfl rfl 0 (by decide) k_X8_feed_f10 (v := .ref ta) rfl dX8_feed_1 ?_
  refine g_get (C := RX7) (T := TX7) (N := 2) F hK hP i_X8_feed_X7 1 rfl rfl 1 (by decide) k_X8_feed_f69 (v := .int (nI tn)) rfl dX8_feed_4 ?_
  refine lv_sipush (v := 180) hx hb dX8_feed_7 (by decide) ?_
  refine n_icmp_le (a := tn) (b := 180) (tgt := 15) hx hb dX8_feed_10 (by decide) (by omega) (by omega) (fun h => absurd h (by omega)) (fun c_10 => ?_)
  refine lv_iconst (v := (-1)) hx hb dX8_feed_13 (by decide) ?_
  exact hret _ _ _ _ (-1) () dX8_feed_14 rfl (rfl) hP hD hS

set_option maxHeartbeats 4000000 in
set_option maxRecDepth 100000 in
theorem c_X8_feed_y (l : Launch) (g : gT) (mb : Nat) (ta : Nat) (so : Nat) (to : Nat) (ro : Nat) (tr : Nat) (pl : Nat) (mo : Nat) (ra : Nat) (tb : Nat) (tn : Nat) (ft : Nat → Int32) (T : Nat → Nat) (a1 : Int32) (a2 : Int32) (a3 : Int32) (a4 : Int32) (a5 : Int32) (htn : tn ≤ 200) (hT : ∀ k, k < tn → ft k = nI (T k)) (h256 : ∀ k, T k < 256) (h : tn ≤ 180) : CtI l g yX8_feed wsX8_feed rm_X8_feed [.ref mb, .int a1, .int a2, .int a3, .int a4, .int a5] [gO mb 8 [.ref ta, .ref so, .ref to, .ref ro, .ref tr, .ref pl, .ref mo, .ref ra], gO ta 7 [.ref tb, .int (nI tn)], gI g tb 200 ft] (fun (r : Int32) (ft2 : (Nat → Int32)) => r = nI (tn + 20) ∧ (∀ k, k < tn + 20 → ft2 k = nI (app20 T tn a1 a2 a3 a4 a5 k))) (fun (ft2 : (Nat → Int32)) => [gO mb 8 [.ref ta, .ref so, .ref to, .ref ro, .ref tr, .ref pl, .ref mo, .ref ra], gO ta 7 [.ref tb, .int (nI (tn + 20))], gI g tb 200 ft2]) := by
  refine CtI.of (cc := cX8_feed) (maxL := 6) (ret := .int) (by decide) rfl (Nat.le_of_ble_eq_true rfl) ?_
  intro p e s m args below meth c A Q hnm F hK hA hP hD hS hret ls hl
  have hx := F.1
  have hb := F.2.1
  have hl : lv_has ls 6 [(0, .ref mb), (1, .int a1), (2, .int a2), (3, .int a3), (4, .int a4), (5, .int a5)] := hl
  refine lv_aload_n hx hb dX8_feed_0 rfl (lv_at hl 0 rfl) ?_
  refine g_get (C := RX8) (T := TX8) (N := 8) F hK hP i_X8_feed_X8 0 rfl rfl 0 (by decide) k_X8_feed_f10 (v := .ref ta) rfl dX8_feed_1 ?_
  refine g_get (C := RX7) (T := TX7) (N := 2) F hK hP i_X8_feed_X7 1 rfl rfl 1 (by decide) k_X8_feed_f69 (v := .int (nI tn)) rfl dX8_feed_4 ?_
  refine lv_sipush (v := 180) hx hb dX8_feed_7 (by decide) ?_
  refine n_icmp_le (a := tn) (b := 180) (tgt := 15) hx hb dX8_feed_10 (by decide) (by omega) (by omega) (fun c_10 => ?_) (fun h => absurd h (by omega))
  refine lv_aload_n hx hb dX8_feed_15 rfl (lv_at hl 0 rfl) ?_
  refine g_get (C := RX8) (T := TX8) (N := 8) F hK hP i_X8_feed_X8 0 rfl rfl 0 (by decide) k_X8_feed_f10 (v := .ref ta) rfl dX8_feed_16 ?_
  refine lv_iload_n hx hb dX8_feed_19 rfl (lv_at hl 1 rfl) ?_
  refine g_VV (wr := [gO mb 8 [.ref ta, .ref so, .ref to, .ref ro, .ref tr, .ref pl, .ref mo, .ref ra]]) (As := [.int a1]) (rest := []) (n := 1) F (c_X7_append l g ta tb tn ft T a1 (by omega) (hT)) gX8_feed_X7_append rfl (by decide) ⟨by decide, by decide⟩ 1 7 rfl rfl rfl rfl hl.1 rfl (Nat.le_of_ble_eq_true rfl) dX8_feed_20 ⟨Nat.le_of_ble_eq_true rfl, Nat.le_of_ble_eq_true rfl⟩ hK hP hD hS hA [1, 2] [0] (by decide) rfl rfl (by decide) (by decide) (fun u_20 H locs hw_20 hP hD hS => ?_)
  obtain ⟨ft2_20, rfl⟩ : ∃ z, z = u_20 := ⟨_, rfl⟩
  have hP : gP g [gO mb 8 [.ref ta, .ref so, .ref to, .ref ro, .ref tr, .ref pl, .ref mo, .ref ra], gO ta 7 [.ref tb, .int (nI (tn + 4))], gI g tb 200 ft2_20] H := hP
  have hD : va_D A [gO mb 8 [.ref ta, .ref so, .ref to, .ref ro, .ref tr, .ref pl, .ref mo, .ref ra], gO ta 7 [.ref tb, .int (nI (tn + 4))], gI g tb 200 ft2_20] := hD
  try dsimp only at hw_20
  have hT2_20 := hw_20
  refine lv_aload_n hx hb dX8_feed_23 rfl (lv_at hl 0 rfl) ?_
  refine g_get (C := RX8) (T := TX8) (N := 8) F hK hP i_X8_feed_X8 0 rfl rfl 0 (by decide) k_X8_feed_f10 (v := .ref ta) rfl dX8_feed_24 ?_
  refine lv_iload_n hx hb dX8_feed_27 rfl (lv_at hl 2 rfl) ?_
  refine g_VV (wr := [gO mb 8 [.ref ta, .ref so, .ref to, .ref ro, .ref tr, .ref pl, .ref mo, .ref ra]]) (As := [.int a2]) (rest := []) (n := 1) F (c_X7_append l g ta tb (tn + 4) ft2_20 (app4 T tn a1) a2 (by omega) (hT2_20)) gX8_feed_X7_append rfl (by decide) ⟨by decide, by decide⟩ 1 7 rfl rfl rfl rfl hl.1 rfl (Nat.le_of_ble_eq_true rfl) dX8_feed_28 ⟨Nat.le_of_ble_eq_true rfl, Nat.le_of_ble_eq_true rfl⟩ hK hP hD hS hA [1, 2] [0] (by decide) rfl rfl (by decide) (by decide) (fun u_28 H locs hw_28 hP hD hS => ?_)
  obtain ⟨ft2_28, rfl⟩ : ∃ z, z = u_28 := ⟨_, rfl⟩
  have hP : gP g [gO mb 8 [.ref ta, .ref so, .ref to, .ref ro, .ref tr, .ref pl, .ref mo, .ref ra], gO ta 7 [.ref tb, .int (nI ((tn + 4) + 4))], gI g tb 200 ft2_28] H := hP
  have hD : va_D A [gO mb 8 [.ref ta, .ref so, .ref to, .ref ro, .ref tr, .ref pl, .ref mo, .ref ra], gO ta 7 [.ref tb, .int (nI ((tn + 4) + 4))], gI g tb 200 ft2_28] := hD
  try dsimp only at hw_28
  have hT2_28 := hw_28
  refine lv_aload_n hx hb dX8_feed_31 rfl (lv_at hl 0 rfl) ?_
  refine g_get (C := RX8) (T := TX8) (N := 8) F hK hP i_X8_feed_X8 0 rfl rfl 0 (by decide) k_X8_feed_f10 (v := .ref ta) rfl dX8_feed_32 ?_
  refine lv_iload_n hx hb dX8_feed_35 rfl (lv_at hl 3 rfl) ?_
  refine g_VV (wr := [gO mb 8 [.ref ta, .ref so, .ref to, .ref ro, .ref tr, .ref pl, .ref mo, .ref ra]]) (As := [.int a3]) (rest := []) (n := 1) F (c_X7_append l g ta tb ((tn + 4) + 4) ft2_28 (app4 (app4 T tn a1) (tn + 4) a2) a3 (by omega) (hT2_28)) gX8_feed_X7_append rfl (by decide) ⟨by decide, by decide⟩ 1 7 rfl rfl rfl rfl hl.1 rfl (Nat.le_of_ble_eq_true rfl) dX8_feed_36 ⟨Nat.le_of_ble_eq_true rfl, Nat.le_of_ble_eq_true rfl⟩ hK hP hD hS hA [1, 2] [0] (by decide) rfl rfl (by decide) (by decide) (fun u_36 H locs hw_36 hP hD hS => ?_)
  obtain ⟨ft2_36, rfl⟩ : ∃ z, z = u_36 := ⟨_, rfl⟩
  have hP : gP g [gO mb 8 [.ref ta, .ref so, .ref to, .ref ro, .ref tr, .ref pl, .ref mo, .ref ra], gO ta 7 [.ref tb, .int (nI (((tn + 4) + 4) + 4))], gI g tb 200 ft2_36] H := hP
  have hD : va_D A [gO mb 8 [.ref ta, .ref so, .ref to, .ref ro, .ref tr, .ref pl, .ref mo, .ref ra], gO ta 7 [.ref tb, .int (nI (((tn + 4) + 4) + 4))], gI g tb 200 ft2_36] := hD
  try dsimp only at hw_36
  have hT2_36 := hw_36
  refine lv_aload_n hx hb dX8_feed_39 rfl (lv_at hl 0 rfl) ?_
  refine g_get (C := RX8) (T := TX8) (N := 8) F hK hP i_X8_feed_X8 0 rfl rfl 0 (by decide) k_X8_feed_f10 (v := .ref ta) rfl dX8_feed_40 ?_
  refine lv_iload hx hb dX8_feed_43 (lv_at hl 4 rfl) ?_
  refine g_VV (wr := [gO mb 8 [.ref ta, .ref so, .ref to, .ref ro, .ref tr, .ref pl, .ref mo, .ref ra]]) (As := [.int a4]) (rest := []) (n := 1) F (c_X7_append l g ta tb (((tn + 4) + 4) + 4) ft2_36 (app4 (app4 (app4 T tn a1) (tn + 4) a2) ((tn + 4) + 4) a3) a4 (by omega) (hT2_36)) gX8_feed_X7_append rfl (by decide) ⟨by decide, by decide⟩ 1 7 rfl rfl rfl rfl hl.1 rfl (Nat.le_of_ble_eq_true rfl) dX8_feed_45 ⟨Nat.le_of_ble_eq_true rfl, Nat.le_of_ble_eq_true rfl⟩ hK hP hD hS hA [1, 2] [0] (by decide) rfl rfl (by decide) (by decide) (fun u_45 H locs hw_45 hP hD hS => ?_)
  obtain ⟨ft2_45, rfl⟩ : ∃ z, z = u_45 := ⟨_, rfl⟩
  have hP : gP g [gO mb 8 [.ref ta, .ref so, .ref to, .ref ro, .ref tr, .ref pl, .ref mo, .ref ra], gO ta 7 [.ref tb, .int (nI ((((tn + 4) + 4) + 4) + 4))], gI g tb 200 ft2_45] H := hP
  have hD : va_D A [gO mb 8 [.ref ta, .ref so, .ref to, .ref ro, .ref tr, .ref pl, .ref mo, .ref ra], gO ta 7 [.ref tb, .int (nI ((((tn + 4) + 4) + 4) + 4))], gI g tb 200 ft2_45] := hD
  try dsimp only at hw_45
  have hT2_45 := hw_45
  refine lv_aload_n hx hb dX8_feed_48 rfl (lv_at hl 0 rfl) ?_
  refine g_get (C := RX8) (T := TX8) (N := 8) F hK hP i_X8_feed_X8 0 rfl rfl 0 (by decide) k_X8_feed_f10 (v := .ref ta) rfl dX8_feed_49 ?_
  refine lv_iload hx hb dX8_feed_52 (lv_at hl 5 rfl) ?_
  refine g_VV (wr := [gO mb 8 [.ref ta, .ref so, .ref to, .ref ro, .ref tr, .ref pl, .ref mo, .ref ra]]) (As := [.int a5]) (rest := []) (n := 1) F (c_X7_append l g ta tb ((((tn + 4) + 4) + 4) + 4) ft2_45 (app4 (app4 (app4 (app4 T tn a1) (tn + 4) a2) ((tn + 4) + 4) a3) (((tn + 4) + 4) + 4) a4) a5 (by omega) (hT2_45)) gX8_feed_X7_append rfl (by decide) ⟨by decide, by decide⟩ 1 7 rfl rfl rfl rfl hl.1 rfl (Nat.le_of_ble_eq_true rfl) dX8_feed_54 ⟨Nat.le_of_ble_eq_true rfl, Nat.le_of_ble_eq_true rfl⟩ hK hP hD hS hA [1, 2] [0] (by decide) rfl rfl (by decide) (by decide) (fun u_54 H locs hw_54 hP hD hS => ?_)
  obtain ⟨ft2_54, rfl⟩ : ∃ z, z = u_54 := ⟨_, rfl⟩
  have hP : gP g [gO mb 8 [.ref ta, .ref so, .ref to, .ref ro, .ref tr, .ref pl, .ref mo, .ref ra], gO ta 7 [.ref tb, .int (nI (((((tn + 4) + 4) + 4) + 4) + 4))], gI g tb 200 ft2_54] H := hP
  have hD : va_D A [gO mb 8 [.ref ta, .ref so, .ref to, .ref ro, .ref tr, .ref pl, .ref mo, .ref ra], gO ta 7 [.ref tb, .int (nI (((((tn + 4) + 4) + 4) + 4) + 4))], gI g tb 200 ft2_54] := hD
  try dsimp only at hw_54
  have hT2_54 := hw_54
  refine lv_aload_n hx hb dX8_feed_57 rfl (lv_at hl 0 rfl) ?_
  refine g_get (C := RX8) (T := TX8) (N := 8) F hK hP i_X8_feed_X8 0 rfl rfl 0 (by decide) k_X8_feed_f10 (v := .ref ta) rfl dX8_feed_58 ?_
  refine g_get (C := RX7) (T := TX7) (N := 2) F hK hP i_X8_feed_X7 1 rfl rfl 1 (by decide) k_X8_feed_f69 (v := .int (nI (((((tn + 4) + 4) + 4) + 4) + 4))) rfl dX8_feed_61 ?_
  exact hret _ _ _ _ (nI (((((tn + 4) + 4) + 4) + 4) + 4)) ft2_54 dX8_feed_64 rfl (⟨rfl, hT2_54⟩) hP hD hS

abbrev rm_X8_end : Room := { frames := 1, cells := 0, slots := 0, locals := 22 }
theorem i_X8_end_X8 : ∀ w ∈ wsX80, w ∈ wsX8_end := by decide +kernel
theorem k_X8_end_f10 : Cond.fieldLink RX8 10 (TX8 0).1 (TX8 0).2.1 (TX8 0).2.2.1 ∈ wsX8_end := by decide +kernel
theorem i_X8_end_X7 : ∀ w ∈ wsX70, w ∈ wsX8_end := by decide +kernel
theorem k_X8_end_f69 : Cond.fieldLink RX8 69 (TX7 1).1 (TX7 1).2.1 (TX7 1).2.2.1 ∈ wsX8_end := by decide +kernel
set_option maxHeartbeats 4000000 in
set_option maxRecDepth 100000 in
theorem c_X8_end_n (l : Launch) (g : gT) (mb : Nat) (ta : Nat) (so : Nat) (to : Nat) (ro : Nat) (tr : Nat) (pl : Nat) (mo : Nat) (ra : Nat) (tb : Nat) (tn : Nat) (ft : Nat → Int32) (T : Nat → Nat) (v : Int32) (h : ¬ isW 0 (nI tn) v) : CtI l g yX8_end wsX8_end rm_X8_end [.ref mb, .int v] [gO mb 8 [.ref ta, .ref so, .ref to, .ref ro, .ref tr, .ref pl, .ref mo, .ref ra], gO ta 7 [.ref tb, .int (nI tn)]] (fun (r : Int32) (_ : Unit) => r = 0) (fun (_ : Unit) => [gO mb 8 [.ref ta, .ref so, .ref to, .ref ro, .ref tr, .ref pl, .ref mo, .ref ra], gO ta 7 [.ref tb, .int (nI tn)]]) := by
  refine CtI.of (cc := cX8_end) (maxL := 2) (ret := .boolean) (by decide) rfl (Nat.le_of_ble_eq_true rfl) ?_
  intro p e s m args below meth c A Q hnm F hK hA hP hD hS hret ls hl
  have hx := F.1
  have hb := F.2.1
  have hl : lv_has ls 2 [(0, .ref mb), (1, .int v)] := hl
  refine lv_iload_n hx hb dX8_end_0 rfl (lv_at hl 1 rfl) ?_
  refine lv_iconst (v := 0) hx hb dX8_end_1 (by decide) ?_
  refine lv_aload_n hx hb dX8_end_2 rfl (lv_at hl 0 rfl) ?_
  refine g_get (C := RX8) (T := TX8) (N := 8) F hK hP i_X8_end_X8 0 rfl rfl 0 (by decide) k_X8_end_f10 (v := .ref ta) rfl dX8_end_3 ?_
  refine g_get (C := RX7) (T := TX7) (N := 2) F hK hP i_X8_end_X7 1 rfl rfl 1 (by decide) k_X8_end_f69 (v := .int (nI tn)) rfl dX8_end_6 ?_
  refine g_SI (wr := [gO mb 8 [.ref ta, .ref so, .ref to, .ref ro, .ref tr, .ref pl, .ref mo, .ref ra], gO ta 7 [.ref tb, .int (nI tn)]]) (As := [.int v, .int 0, .int (nI tn)]) (rest := []) (n := 3) F (c_X8_isWithin l g v 0 (nI tn)) gX8_end_X8_isWithin rfl (by decide) ⟨by decide, by decide⟩ rfl hl.1 rfl (Nat.le_of_ble_eq_true rfl) dX8_end_9 ⟨Nat.le_of_ble_eq_true rfl, Nat.le_of_ble_eq_true rfl⟩ hK hP hD hS hA [] [0, 1] (by decide) rfl rfl (by decide) (by decide) (fun r_9 u_9 H locs hw_9 hP hD hS => ?_)
  have hP : gP g [gO mb 8 [.ref ta, .ref so, .ref to, .ref ro, .ref tr, .ref pl, .ref mo, .ref ra], gO ta 7 [.ref tb, .int (nI tn)]] H := hP
  have hD : va_D A [gO mb 8 [.ref ta, .ref so, .ref to, .ref ro, .ref tr, .ref pl, .ref mo, .ref ra], gO ta 7 [.ref tb, .int (nI tn)]] := hD
  rcases hw_9 with ⟨rfl, b_9⟩ | ⟨rfl, b_9⟩
  · exact absurd b_9 h
  · refine lv_if_ne (tgt := 17) hx hb dX8_end_12 (by decide) (fun h => absurd (by decide) h) (fun _ => ?_)
    refine lv_iconst (v := 0) hx hb dX8_end_15 (by decide) ?_
    exact hret _ _ _ _ 0 () dX8_end_16 rfl (rfl) hP hD hS

set_option maxHeartbeats 4000000 in
set_option maxRecDepth 100000 in
theorem c_X8_end_y (l : Launch) (g : gT) (mb : Nat) (ta : Nat) (so : Nat) (to : Nat) (ro : Nat) (tr : Nat) (pl : Nat) (mo : Nat) (ra : Nat) (tb : Nat) (tn : Nat) (ft : Nat → Int32) (T : Nat → Nat) (j : Nat) (htn : tn ≤ 200) (h : j ≤ tn) : CtI l g yX8_end wsX8_end rm_X8_end [.ref mb, .int (nI j)] [gO mb 8 [.ref ta, .ref so, .ref to, .ref ro, .ref tr, .ref pl, .ref mo, .ref ra], gO ta 7 [.ref tb, .int (nI tn)]] (fun (r : Int32) (_ : Unit) => r = 1) (fun (_ : Unit) => [gO mb 8 [.ref ta, .ref so, .ref to, .ref ro, .ref tr, .ref pl, .ref mo, .ref ra], gO ta 7 [.ref tb, .int (nI j)]]) := by
  refine CtI.of (cc := cX8_end) (maxL := 2) (ret := .boolean) (by decide) rfl (Nat.le_of_ble_eq_true rfl) ?_
  intro p e s m args below meth c A Q hnm F hK hA hP hD hS hret ls hl
  have hx := F.1
  have hb := F.2.1
  have hl : lv_has ls 2 [(0, .ref mb), (1, .int (nI j))] := hl
  refine lv_iload_n hx hb dX8_end_0 rfl (lv_at hl 1 rfl) ?_
  refine lv_iconst (v := 0) hx hb dX8_end_1 (by decide) ?_
  refine lv_aload_n hx hb dX8_end_2 rfl (lv_at hl 0 rfl) ?_
  refine g_get (C := RX8) (T := TX8) (N := 8) F hK hP i_X8_end_X8 0 rfl rfl 0 (by decide) k_X8_end_f10 (v := .ref ta) rfl dX8_end_3 ?_
  refine g_get (C := RX7) (T := TX7) (N := 2) F hK hP i_X8_end_X7 1 rfl rfl 1 (by decide) k_X8_end_f69 (v := .int (nI tn)) rfl dX8_end_6 ?_
  refine g_SI (wr := [gO mb 8 [.ref ta, .ref so, .ref to, .ref ro, .ref tr, .ref pl, .ref mo, .ref ra], gO ta 7 [.ref tb, .int (nI tn)]]) (As := [.int (nI j), .int 0, .int (nI tn)]) (rest := []) (n := 3) F (c_X8_isWithin l g (nI j) 0 (nI tn)) gX8_end_X8_isWithin rfl (by decide) ⟨by decide, by decide⟩ rfl hl.1 rfl (Nat.le_of_ble_eq_true rfl) dX8_end_9 ⟨Nat.le_of_ble_eq_true rfl, Nat.le_of_ble_eq_true rfl⟩ hK hP hD hS hA [] [0, 1] (by decide) rfl rfl (by decide) (by decide) (fun r_9 u_9 H locs hw_9 hP hD hS => ?_)
  have hP : gP g [gO mb 8 [.ref ta, .ref so, .ref to, .ref ro, .ref tr, .ref pl, .ref mo, .ref ra], gO ta 7 [.ref tb, .int (nI tn)]] H := hP
  have hD : va_D A [gO mb 8 [.ref ta, .ref so, .ref to, .ref ro, .ref tr, .ref pl, .ref mo, .ref ra], gO ta 7 [.ref tb, .int (nI tn)]] := hD
  rcases hw_9 with ⟨rfl, b_9⟩ | ⟨rfl, b_9⟩
  · refine lv_if_ne (tgt := 17) hx hb dX8_end_12 (by decide) (fun _ => ?_) (fun h => absurd h (by decide))
    refine lv_aload_n hx hb dX8_end_17 rfl (lv_at hl 0 rfl) ?_
    refine g_get (C := RX8) (T := TX8) (N := 8) F hK hP i_X8_end_X8 0 rfl rfl 0 (by decide) k_X8_end_f10 (v := .ref ta) rfl dX8_end_18 ?_
    refine lv_iload_n hx hb dX8_end_21 rfl (lv_at hl 1 rfl) ?_
    refine g_put (C := RX7) (T := TX7) (N := 2) (ws2 := [gO mb 8 [.ref ta, .ref so, .ref to, .ref ro, .ref tr, .ref pl, .ref mo, .ref ra], gO ta 7 [.ref tb, .int (nI j)]]) F hK hP hD hS i_X8_end_X7 tyX7 tyX7_ok nmX7 1 rfl rfl 1 (by decide) k_X8_end_f69 rfl (v := .int (nI j)) rfl rfl (Nat.le_of_ble_eq_true rfl) rfl dX8_end_22 (fun H locs hP hD hS => ?_)
    refine lv_iconst (v := 1) hx hb dX8_end_25 (by decide) ?_
    exact hret _ _ _ _ 1 () dX8_end_26 rfl (rfl) hP hD hS
  · exact absurd ((isW_n (a := 0) (by decide) (by omega) (by omega)).mpr ⟨Nat.zero_le _, h⟩) b_9

abbrev rm_X8_banks : Room := { frames := 1, cells := 0, slots := 0, locals := 22 }
theorem i_X8_banks_X8 : ∀ w ∈ wsX80, w ∈ wsX8_banks := by decide +kernel
theorem k_X8_banks_f10 : Cond.fieldLink RX8 10 (TX8 0).1 (TX8 0).2.1 (TX8 0).2.2.1 ∈ wsX8_banks := by decide +kernel
theorem i_X8_banks_X7 : ∀ w ∈ wsX70, w ∈ wsX8_banks := by decide +kernel
theorem k_X8_banks_f69 : Cond.fieldLink RX8 69 (TX7 1).1 (TX7 1).2.1 (TX7 1).2.2.1 ∈ wsX8_banks := by decide +kernel
set_option maxHeartbeats 4000000 in
set_option maxRecDepth 100000 in
theorem c_X8_banks_n (l : Launch) (g : gT) (mb : Nat) (ta : Nat) (so : Nat) (to : Nat) (ro : Nat) (tr : Nat) (pl : Nat) (mo : Nat) (ra : Nat) (tb : Nat) (tn : Nat) (ft : Nat → Int32) (T : Nat → Nat) (htn : tn ≤ 200) (hT : ∀ k, k < tn → ft k = nI (T k)) (h256 : ∀ k, T k < 256) (h : ¬ bnkP T tn) : CtI l g yX8_banks wsX8_banks rm_X8_banks [.ref mb] [gO mb 8 [.ref ta, .ref so, .ref to, .ref ro, .ref tr, .ref pl, .ref mo, .ref ra], gO ta 7 [.ref tb, .int (nI tn)], gI g tb 200 ft] (fun (r : Int32) (_ : Unit) => r = 0) (fun (_ : Unit) => [gO mb 8 [.ref ta, .ref so, .ref to, .ref ro, .ref tr, .ref pl, .ref mo, .ref ra], gO ta 7 [.ref tb, .int 0], gI g tb 200 ft]) := by
  refine CtI.of (cc := cX8_banks) (maxL := 2) (ret := .boolean) (by decide) rfl (Nat.le_of_ble_eq_true rfl) ?_
  intro p e s m args below meth c A Q hnm F hK hA hP hD hS hret ls hl
  have hx := F.1
  have hb := F.2.1
  have hl : lv_has ls 2 [(0, .ref mb)] := hl
  refine lv_aload_n hx hb dX8_banks_0 rfl (lv_at hl 0 rfl) ?_
  refine g_get (C := RX8) (T := TX8) (N := 8) F hK hP i_X8_banks_X8 0 rfl rfl 0 (by decide) k_X8_banks_f10 (v := .ref ta) rfl dX8_banks_1 ?_
  refine g_VI (wr := [gO mb 8 [.ref ta, .ref so, .ref to, .ref ro, .ref tr, .ref pl, .ref mo, .ref ra]]) (As := []) (rest := []) (n := 0) F (c_X7_holdsBanks l g ta tb tn ft T (by omega) (hT) (by omega)) gX8_banks_X7_holdsBanks rfl (by decide) ⟨by decide, by decide⟩ 1 7 rfl rfl rfl rfl hl.1 rfl (Nat.le_of_ble_eq_true rfl) dX8_banks_4 ⟨Nat.le_of_ble_eq_true rfl, Nat.le_of_ble_eq_true rfl⟩ hK hP hD hS hA [1, 2] [0] (by decide) rfl rfl (by decide) (by decide) (fun r_4 u_4 H locs hw_4 hP hD hS => ?_)
  have hP : gP g [gO mb 8 [.ref ta, .ref so, .ref to, .ref ro, .ref tr, .ref pl, .ref mo, .ref ra], gO ta 7 [.ref tb, .int (nI tn)], gI g tb 200 ft] H := hP
  have hD : va_D A [gO mb 8 [.ref ta, .ref so, .ref to, .ref ro, .ref tr, .ref pl, .ref mo, .ref ra], gO ta 7 [.ref tb, .int (nI tn)], gI g tb 200 ft] := hD
  rcases hw_4 with ⟨rfl, b_4⟩ | ⟨rfl, b_4⟩
  · exact absurd b_4 h
  · refine lv_istore_n (lv' := [(1, .int 0), (0, .ref mb)]) hx hb dX8_banks_7 rfl hl (by decide) rfl (fun ls hl => ?_)
    refine lv_iload_n hx hb dX8_banks_8 rfl (lv_at hl 0 rfl) ?_
    refine lv_if_eq (tgt := 26) hx hb dX8_banks_9 (by decide) (fun _ => ?_) (fun h => absurd (by decide) h)
    refine lv_aload_n hx hb dX8_banks_26 rfl (lv_at hl 1 rfl) ?_
    refine g_get (C := RX8) (T := TX8) (N := 8) F hK hP i_X8_banks_X8 0 rfl rfl 0 (by decide) k_X8_banks_f10 (v := .ref ta) rfl dX8_banks_27 ?_
    refine lv_iconst (v := 0) hx hb dX8_banks_30 (by decide) ?_
    refine g_put (C := RX7) (T := TX7) (N := 2) (ws2 := [gO mb 8 [.ref ta, .ref so, .ref to, .ref ro, .ref tr, .ref pl, .ref mo, .ref ra], gO ta 7 [.ref tb, .int 0], gI g tb 200 ft]) F hK hP hD hS i_X8_banks_X7 tyX7 tyX7_ok nmX7 1 rfl rfl 1 (by decide) k_X8_banks_f69 rfl (v := .int 0) rfl rfl (Nat.le_of_ble_eq_true rfl) rfl dX8_banks_31 (fun H locs hP hD hS => ?_)
    refine lv_iload_n hx hb dX8_banks_34 rfl (lv_at hl 0 rfl) ?_
    exact hret _ _ _ _ 0 () dX8_banks_35 rfl (rfl) hP hD hS

theorem k_X8_banks_f19 : Cond.fieldLink RX8 19 (TX8 1).1 (TX8 1).2.1 (TX8 1).2.2.1 ∈ wsX8_banks := by decide +kernel
theorem i_X8_banks_X6 : ∀ w ∈ wsX60, w ∈ wsX8_banks := by decide +kernel
theorem k_X8_banks_f97 : Cond.fieldLink RX8 97 (TX6 0).1 (TX6 0).2.1 (TX6 0).2.2.1 ∈ wsX8_banks := by decide +kernel
set_option maxHeartbeats 4000000 in
set_option maxRecDepth 100000 in
theorem c_X8_banks_y (l : Launch) (g : gT) (mb : Nat) (ta : Nat) (so : Nat) (to : Nat) (ro : Nat) (tr : Nat) (pl : Nat) (mo : Nat) (ra : Nat) (tb : Nat) (tn : Nat) (ft : Nat → Int32) (T : Nat → Nat) (bk : Nat) (rt : Int32) (w0 : Int32) (w1 : Int32) (w2 : Int32) (lg : Int32) (nr : Int32) (fb : Nat → Int32) (htn : tn ≤ 200) (hT : ∀ k, k < tn → ft k = nI (T k)) (h256 : ∀ k, T k < 256) (h : bnkP T tn) : CtI l g yX8_banks wsX8_banks rm_X8_banks [.ref mb] [gO mb 8 [.ref ta, .ref so, .ref to, .ref ro, .ref tr, .ref pl, .ref mo, .ref ra], gO ta 7 [.ref tb, .int (nI tn)], gI g tb 200 ft, gO so 6 [.ref bk, .int rt, .int w0, .int w1, .int w2, .int lg, .int nr], gI g bk 64 fb] (fun (r : Int32) (fb2 : (Nat → Int32)) => r = 1 ∧ (∀ k, k < 64 → fb2 k = nI (T k))) (fun (fb2 : (Nat → Int32)) => [gO mb 8 [.ref ta, .ref so, .ref to, .ref ro, .ref tr, .ref pl, .ref mo, .ref ra], gO ta 7 [.ref tb, .int 0], gI g tb 200 ft, gO so 6 [.ref bk, .int rt, .int w0, .int w1, .int w2, .int lg, .int nr], gI g bk 64 fb2]) := by
  refine CtI.of (cc := cX8_banks) (maxL := 2) (ret := .boolean) (by decide) rfl (Nat.le_of_ble_eq_true rfl) ?_
  intro p e s m args below meth c A Q hnm F hK hA hP hD hS hret ls hl
  have hx := F.1
  have hb := F.2.1
  have hl : lv_has ls 2 [(0, .ref mb)] := hl
  refine lv_aload_n hx hb dX8_banks_0 rfl (lv_at hl 0 rfl) ?_
  refine g_get (C := RX8) (T := TX8) (N := 8) F hK hP i_X8_banks_X8 0 rfl rfl 0 (by decide) k_X8_banks_f10 (v := .ref ta) rfl dX8_banks_1 ?_
  refine g_VI (wr := [gO mb 8 [.ref ta, .ref so, .ref to, .ref ro, .ref tr, .ref pl, .ref mo, .ref ra], gO so 6 [.ref bk, .int rt, .int w0, .int w1, .int w2, .int lg, .int nr], gI g bk 64 fb]) (As := []) (rest := []) (n := 0) F (c_X7_holdsBanks l g ta tb tn ft T (by omega) (hT) (by omega)) gX8_banks_X7_holdsBanks rfl (by decide) ⟨by decide, by decide⟩ 1 7 rfl rfl rfl rfl hl.1 rfl (Nat.le_of_ble_eq_true rfl) dX8_banks_4 ⟨Nat.le_of_ble_eq_true rfl, Nat.le_of_ble_eq_true rfl⟩ hK hP hD hS hA [1, 2] [0, 3, 4] (by decide) rfl rfl (by decide) (by decide) (fun r_4 u_4 H locs hw_4 hP hD hS => ?_)
  have hP : gP g [gO mb 8 [.ref ta, .ref so, .ref to, .ref ro, .ref tr, .ref pl, .ref mo, .ref ra], gO so 6 [.ref bk, .int rt, .int w0, .int w1, .int w2, .int lg, .int nr], gI g bk 64 fb, gO ta 7 [.ref tb, .int (nI tn)], gI g tb 200 ft] H := hP
  have hD : va_D A [gO mb 8 [.ref ta, .ref so, .ref to, .ref ro, .ref tr, .ref pl, .ref mo, .ref ra], gO so 6 [.ref bk, .int rt, .int w0, .int w1, .int w2, .int lg, .int nr], gI g bk 64 fb, gO ta 7 [.ref tb, .int (nI tn)], gI g tb 200 ft] := hD
  rcases hw_4 with ⟨rfl, b_4⟩ | ⟨rfl, b_4⟩
  · refine lv_istore_n (lv' := [(1, .int 1), (0, .ref mb)]) hx hb dX8_banks_7 rfl hl (by decide) rfl (fun ls hl => ?_)
    refine lv_iload_n hx hb dX8_banks_8 rfl (lv_at hl 0 rfl) ?_
    refine lv_if_eq (tgt := 26) hx hb dX8_banks_9 (by decide) (fun h => absurd h (by decide)) (fun _ => ?_)
    refine lv_aload_n hx hb dX8_banks_12 rfl (lv_at hl 1 rfl) ?_
    refine g_get (C := RX8) (T := TX8) (N := 8) F hK hP i_X8_banks_X8 0 rfl rfl 0 (by decide) k_X8_banks_f10 (v := .ref ta) rfl dX8_banks_13 ?_
    refine lv_aload_n hx hb dX8_banks_16 rfl (lv_at hl 1 rfl) ?_
    refine g_get (C := RX8) (T := TX8) (N := 8) F hK hP i_X8_banks_X8 0 rfl rfl 1 (by decide) k_X8_banks_f19 (v := .ref so) rfl dX8_banks_17 ?_
    refine g_get (C := RX6) (T := TX6) (N := 7) F hK hP i_X8_banks_X6 1 rfl rfl 0 (by decide) k_X8_banks_f97 (v := .ref bk) rfl dX8_banks_20 ?_
    refine g_VV (wr := [gO mb 8 [.ref ta, .ref so, .ref to, .ref ro, .ref tr, .ref pl, .ref mo, .ref ra], gO so 6 [.ref bk, .int rt, .int w0, .int w1, .int w2, .int lg, .int nr]]) (As := [.ref bk]) (rest := []) (n := 1) F (c_X7_copyBanksTo l g ta tb tn ft T bk fb (by omega) (hT) (by omega) (h.1)) gX8_banks_X7_copyBanksTo rfl (by decide) ⟨by decide, by decide⟩ 3 7 rfl rfl rfl rfl hl.1 rfl (Nat.le_of_ble_eq_true rfl) dX8_banks_23 ⟨Nat.le_of_ble_eq_true rfl, Nat.le_of_ble_eq_true rfl⟩ hK hP hD hS hA [3, 4, 2] [0, 1] (by decide) rfl rfl (by decide) (by decide) (fun u_23 H locs hw_23 hP hD hS => ?_)
    obtain ⟨fb2_23, rfl⟩ : ∃ z, z = u_23 := ⟨_, rfl⟩
    have hP : gP g [gO mb 8 [.ref ta, .ref so, .ref to, .ref ro, .ref tr, .ref pl, .ref mo, .ref ra], gO so 6 [.ref bk, .int rt, .int w0, .int w1, .int w2, .int lg, .int nr], gO ta 7 [.ref tb, .int (nI tn)], gI g tb 200 ft, gI g bk 64 fb2_23] H := hP
    have hD : va_D A [gO mb 8 [.ref ta, .ref so, .ref to, .ref ro, .ref tr, .ref pl, .ref mo, .ref ra], gO so 6 [.ref bk, .int rt, .int w0, .int w1, .int w2, .int lg, .int nr], gO ta 7 [.ref tb, .int (nI tn)], gI g tb 200 ft, gI g bk 64 fb2_23] := hD
    try dsimp only at hw_23
    have hB2_23 := hw_23
    refine lv_aload_n hx hb dX8_banks_26 rfl (lv_at hl 1 rfl) ?_
    refine g_get (C := RX8) (T := TX8) (N := 8) F hK hP i_X8_banks_X8 0 rfl rfl 0 (by decide) k_X8_banks_f10 (v := .ref ta) rfl dX8_banks_27 ?_
    refine lv_iconst (v := 0) hx hb dX8_banks_30 (by decide) ?_
    refine g_put (C := RX7) (T := TX7) (N := 2) (ws2 := [gO mb 8 [.ref ta, .ref so, .ref to, .ref ro, .ref tr, .ref pl, .ref mo, .ref ra], gO so 6 [.ref bk, .int rt, .int w0, .int w1, .int w2, .int lg, .int nr], gO ta 7 [.ref tb, .int 0], gI g tb 200 ft, gI g bk 64 fb2_23]) F hK hP hD hS i_X8_banks_X7 tyX7 tyX7_ok nmX7 2 rfl rfl 1 (by decide) k_X8_banks_f69 rfl (v := .int 0) rfl rfl (Nat.le_of_ble_eq_true rfl) rfl dX8_banks_31 (fun H locs hP hD hS => ?_)
    refine lv_iload_n hx hb dX8_banks_34 rfl (lv_at hl 0 rfl) ?_
    have hP9 := hP.sub (ws' := [gO mb 8 [.ref ta, .ref so, .ref to, .ref ro, .ref tr, .ref pl, .ref mo, .ref ra], gO ta 7 [.ref tb, .int 0], gI g tb 200 ft, gO so 6 [.ref bk, .int rt, .int w0, .int w1, .int w2, .int lg, .int nr], gI g bk 64 fb2_23]) [0, 2, 3, 1, 4] rfl
    have hD9 := hD.sub (ws' := [gO mb 8 [.ref ta, .ref so, .ref to, .ref ro, .ref tr, .ref pl, .ref mo, .ref ra], gO ta 7 [.ref tb, .int 0], gI g tb 200 ft, gO so 6 [.ref bk, .int rt, .int w0, .int w1, .int w2, .int lg, .int nr], gI g bk 64 fb2_23]) [0, 2, 3, 1, 4] (by decide) rfl
    exact hret _ _ _ _ 1 fb2_23 dX8_banks_35 rfl (⟨rfl, hB2_23⟩) hP9 hD9 hS
  · exact absurd h b_4

def setP (b1 b2 b3 b4 b5 b6 : Int32) : Prop := isW 0 200 b1 ∧ isW 0 9 b2 ∧ isW 0 9 b3 ∧ isW 0 9 b4 ∧ isW 8 64 b5 ∧ isW 1 32 b6
abbrev rm_X8_set : Room := { frames := 1, cells := 0, slots := 0, locals := 22 }
set_option maxHeartbeats 4000000 in
set_option maxRecDepth 100000 in
theorem c_X8_set_n (l : Launch) (g : gT) (mb : Nat) (ta : Nat) (so : Nat) (to : Nat) (ro : Nat) (tr : Nat) (pl : Nat) (mo : Nat) (ra : Nat) (bk : Nat) (rt : Int32) (w0 : Int32) (w1 : Int32) (w2 : Int32) (lg : Int32) (nr : Int32) (b1 : Int32) (b2 : Int32) (b3 : Int32) (b4 : Int32) (b5 : Int32) (b6 : Int32) (h : ¬ setP b1 b2 b3 b4 b5 b6) : CtI l g yX8_set wsX8_set rm_X8_set [.ref mb, .int b1, .int b2, .int b3, .int b4, .int b5, .int b6] [gO mb 8 [.ref ta, .ref so, .ref to, .ref ro, .ref tr, .ref pl, .ref mo, .ref ra], gO so 6 [.ref bk, .int rt, .int w0, .int w1, .int w2, .int lg, .int nr]] (fun (r : Int32) (_ : Unit) => r = 0) (fun (_ : Unit) => [gO mb 8 [.ref ta, .ref so, .ref to, .ref ro, .ref tr, .ref pl, .ref mo, .ref ra], gO so 6 [.ref bk, .int rt, .int w0, .int w1, .int w2, .int lg, .int nr]]) := by
  refine CtI.of (cc := cX8_set) (maxL := 8) (ret := .boolean) (by decide) rfl (Nat.le_of_ble_eq_true rfl) ?_
  intro p e s m args below meth c A Q hnm F hK hA hP hD hS hret ls hl
  have hx := F.1
  have hb := F.2.1
  have hl : lv_has ls 8 [(0, .ref mb), (1, .int b1), (2, .int b2), (3, .int b3), (4, .int b4), (5, .int b5), (6, .int b6)] := hl
  refine lv_iload_n hx hb dX8_set_0 rfl (lv_at hl 1 rfl) ?_
  refine lv_iconst (v := 0) hx hb dX8_set_1 (by decide) ?_
  refine lv_sipush (v := 200) hx hb dX8_set_2 (by decide) ?_
  refine g_SI (wr := [gO mb 8 [.ref ta, .ref so, .ref to, .ref ro, .ref tr, .ref pl, .ref mo, .ref ra], gO so 6 [.ref bk, .int rt, .int w0, .int w1, .int w2, .int lg, .int nr]]) (As := [.int b1, .int 0, .int 200]) (rest := []) (n := 3) F (c_X8_isWithin l g b1 0 200) gX8_set_X8_isWithin rfl (by decide) ⟨by decide, by decide⟩ rfl hl.1 rfl (Nat.le_of_ble_eq_true rfl) dX8_set_5 ⟨Nat.le_of_ble_eq_true rfl, Nat.le_of_ble_eq_true rfl⟩ hK hP hD hS hA [] [0, 1] (by decide) rfl rfl (by decide) (by decide) (fun r_5 u_5 H locs hw_5 hP hD hS => ?_)
  have hP : gP g [gO mb 8 [.ref ta, .ref so, .ref to, .ref ro, .ref tr, .ref pl, .ref mo, .ref ra], gO so 6 [.ref bk, .int rt, .int w0, .int w1, .int w2, .int lg, .int nr]] H := hP
  have hD : va_D A [gO mb 8 [.ref ta, .ref so, .ref to, .ref ro, .ref tr, .ref pl, .ref mo, .ref ra], gO so 6 [.ref bk, .int rt, .int w0, .int w1, .int w2, .int lg, .int nr]] := hD
  rcases hw_5 with ⟨rfl, b_5⟩ | ⟨rfl, b_5⟩
  · refine lv_if_eq (tgt := 69) hx hb dX8_set_8 (by decide) (fun h => absurd h (by decide)) (fun _ => ?_)
    refine lv_iload_n hx hb dX8_set_11 rfl (lv_at hl 2 rfl) ?_
    refine lv_iconst (v := 0) hx hb dX8_set_12 (by decide) ?_
    refine lv_bipush (v := 9) hx hb dX8_set_13 (by decide) ?_
    refine g_SI (wr := [gO mb 8 [.ref ta, .ref so, .ref to, .ref ro, .ref tr, .ref pl, .ref mo, .ref ra], gO so 6 [.ref bk, .int rt, .int w0, .int w1, .int w2, .int lg, .int nr]]) (As := [.int b2, .int 0, .int 9]) (rest := []) (n := 3) F (c_X8_isWithin l g b2 0 9) gX8_set_X8_isWithin rfl (by decide) ⟨by decide, by decide⟩ rfl hl.1 rfl (Nat.le_of_ble_eq_true rfl) dX8_set_15 ⟨Nat.le_of_ble_eq_true rfl, Nat.le_of_ble_eq_true rfl⟩ hK hP hD hS hA [] [0, 1] (by decide) rfl rfl (by decide) (by decide) (fun r_15 u_15 H locs hw_15 hP hD hS => ?_)
    have hP : gP g [gO mb 8 [.ref ta, .ref so, .ref to, .ref ro, .ref tr, .ref pl, .ref mo, .ref ra], gO so 6 [.ref bk, .int rt, .int w0, .int w1, .int w2, .int lg, .int nr]] H := hP
    have hD : va_D A [gO mb 8 [.ref ta, .ref so, .ref to, .ref ro, .ref tr, .ref pl, .ref mo, .ref ra], gO so 6 [.ref bk, .int rt, .int w0, .int w1, .int w2, .int lg, .int nr]] := hD
    rcases hw_15 with ⟨rfl, b_15⟩ | ⟨rfl, b_15⟩
    · refine lv_if_eq (tgt := 69) hx hb dX8_set_18 (by decide) (fun h => absurd h (by decide)) (fun _ => ?_)
      refine lv_iload_n hx hb dX8_set_21 rfl (lv_at hl 3 rfl) ?_
      refine lv_iconst (v := 0) hx hb dX8_set_22 (by decide) ?_
      refine lv_bipush (v := 9) hx hb dX8_set_23 (by decide) ?_
      refine g_SI (wr := [gO mb 8 [.ref ta, .ref so, .ref to, .ref ro, .ref tr, .ref pl, .ref mo, .ref ra], gO so 6 [.ref bk, .int rt, .int w0, .int w1, .int w2, .int lg, .int nr]]) (As := [.int b3, .int 0, .int 9]) (rest := []) (n := 3) F (c_X8_isWithin l g b3 0 9) gX8_set_X8_isWithin rfl (by decide) ⟨by decide, by decide⟩ rfl hl.1 rfl (Nat.le_of_ble_eq_true rfl) dX8_set_25 ⟨Nat.le_of_ble_eq_true rfl, Nat.le_of_ble_eq_true rfl⟩ hK hP hD hS hA [] [0, 1] (by decide) rfl rfl (by decide) (by decide) (fun r_25 u_25 H locs hw_25 hP hD hS => ?_)
      have hP : gP g [gO mb 8 [.ref ta, .ref so, .ref to, .ref ro, .ref tr, .ref pl, .ref mo, .ref ra], gO so 6 [.ref bk, .int rt, .int w0, .int w1, .int w2, .int lg, .int nr]] H := hP
      have hD : va_D A [gO mb 8 [.ref ta, .ref so, .ref to, .ref ro, .ref tr, .ref pl, .ref mo, .ref ra], gO so 6 [.ref bk, .int rt, .int w0, .int w1, .int w2, .int lg, .int nr]] := hD
      rcases hw_25 with ⟨rfl, b_25⟩ | ⟨rfl, b_25⟩
      · refine lv_if_eq (tgt := 69) hx hb dX8_set_28 (by decide) (fun h => absurd h (by decide)) (fun _ => ?_)
        refine lv_iload hx hb dX8_set_31 (lv_at hl 4 rfl) ?_
        refine lv_iconst (v := 0) hx hb dX8_set_33 (by decide) ?_
        refine lv_bipush (v := 9) hx hb dX8_set_34 (by decide) ?_
        refine g_SI (wr := [gO mb 8 [.ref ta, .ref so, .ref to, .ref ro, .ref tr, .ref pl, .ref mo, .ref ra], gO so 6 [.ref bk, .int rt, .int w0, .int w1, .int w2, .int lg, .int nr]]) (As := [.int b4, .int 0, .int 9]) (rest := []) (n := 3) F (c_X8_isWithin l g b4 0 9) gX8_set_X8_isWithin rfl (by decide) ⟨by decide, by decide⟩ rfl hl.1 rfl (Nat.le_of_ble_eq_true rfl) dX8_set_36 ⟨Nat.le_of_ble_eq_true rfl, Nat.le_of_ble_eq_true rfl⟩ hK hP hD hS hA [] [0, 1] (by decide) rfl rfl (by decide) (by decide) (fun r_36 u_36 H locs hw_36 hP hD hS => ?_)
        have hP : gP g [gO mb 8 [.ref ta, .ref so, .ref to, .ref ro, .ref tr, .ref pl, .ref mo, .ref ra], gO so 6 [.ref bk, .int rt, .int w0, .int w1, .int w2, .int lg, .int nr]] H := hP
        have hD : va_D A [gO mb 8 [.ref ta, .ref so, .ref to, .ref ro, .ref tr, .ref pl, .ref mo, .ref ra], gO so 6 [.ref bk, .int rt, .int w0, .int w1, .int w2, .int lg, .int nr]] := hD
        rcases hw_36 with ⟨rfl, b_36⟩ | ⟨rfl, b_36⟩
        · refine lv_if_eq (tgt := 69) hx hb dX8_set_39 (by decide) (fun h => absurd h (by decide)) (fun _ => ?_)
          refine lv_iload hx hb dX8_set_42 (lv_at hl 5 rfl) ?_
          refine lv_bipush (v := 8) hx hb dX8_set_44 (by decide) ?_
          refine lv_bipush (v := 64) hx hb dX8_set_46 (by decide) ?_
          refine g_SI (wr := [gO mb 8 [.ref ta, .ref so, .ref to, .ref ro, .ref tr, .ref pl, .ref mo, .ref ra], gO so 6 [.ref bk, .int rt, .int w0, .int w1, .int w2, .int lg, .int nr]]) (As := [.int b5, .int 8, .int 64]) (rest := []) (n := 3) F (c_X8_isWithin l g b5 8 64) gX8_set_X8_isWithin rfl (by decide) ⟨by decide, by decide⟩ rfl hl.1 rfl (Nat.le_of_ble_eq_true rfl) dX8_set_48 ⟨Nat.le_of_ble_eq_true rfl, Nat.le_of_ble_eq_true rfl⟩ hK hP hD hS hA [] [0, 1] (by decide) rfl rfl (by decide) (by decide) (fun r_48 u_48 H locs hw_48 hP hD hS => ?_)
          have hP : gP g [gO mb 8 [.ref ta, .ref so, .ref to, .ref ro, .ref tr, .ref pl, .ref mo, .ref ra], gO so 6 [.ref bk, .int rt, .int w0, .int w1, .int w2, .int lg, .int nr]] H := hP
          have hD : va_D A [gO mb 8 [.ref ta, .ref so, .ref to, .ref ro, .ref tr, .ref pl, .ref mo, .ref ra], gO so 6 [.ref bk, .int rt, .int w0, .int w1, .int w2, .int lg, .int nr]] := hD
          rcases hw_48 with ⟨rfl, b_48⟩ | ⟨rfl, b_48⟩
          · refine lv_if_eq (tgt := 69) hx hb dX8_set_51 (by decide) (fun h => absurd h (by decide)) (fun _ => ?_)
            refine lv_iload hx hb dX8_set_54 (lv_at hl 6 rfl) ?_
            refine lv_iconst (v := 1) hx hb dX8_set_56 (by decide) ?_
            refine lv_bipush (v := 32) hx hb dX8_set_57 (by decide) ?_
            refine g_SI (wr := [gO mb 8 [.ref ta, .ref so, .ref to, .ref ro, .ref tr, .ref pl, .ref mo, .ref ra], gO so 6 [.ref bk, .int rt, .int w0, .int w1, .int w2, .int lg, .int nr]]) (As := [.int b6, .int 1, .int 32]) (rest := []) (n := 3) F (c_X8_isWithin l g b6 1 32) gX8_set_X8_isWithin rfl (by decide) ⟨by decide, by decide⟩ rfl hl.1 rfl (Nat.le_of_ble_eq_true rfl) dX8_set_59 ⟨Nat.le_of_ble_eq_true rfl, Nat.le_of_ble_eq_true rfl⟩ hK hP hD hS hA [] [0, 1] (by decide) rfl rfl (by decide) (by decide) (fun r_59 u_59 H locs hw_59 hP hD hS => ?_)
            have hP : gP g [gO mb 8 [.ref ta, .ref so, .ref to, .ref ro, .ref tr, .ref pl, .ref mo, .ref ra], gO so 6 [.ref bk, .int rt, .int w0, .int w1, .int w2, .int lg, .int nr]] H := hP
            have hD : va_D A [gO mb 8 [.ref ta, .ref so, .ref to, .ref ro, .ref tr, .ref pl, .ref mo, .ref ra], gO so 6 [.ref bk, .int rt, .int w0, .int w1, .int w2, .int lg, .int nr]] := hD
            rcases hw_59 with ⟨rfl, b_59⟩ | ⟨rfl, b_59⟩
            · refine lv_if_eq (tgt := 69) hx hb dX8_set_62 (by decide) (fun h => absurd h (by decide)) (fun _ => ?_)
              exact absurd ⟨b_5, b_15, b_25, b_36, b_48, b_59⟩ h
            · refine lv_if_eq (tgt := 69) hx hb dX8_set_62 (by decide) (fun _ => ?_) (fun h => absurd (by decide) h)
              refine lv_iconst (v := 0) hx hb dX8_set_69 (by decide) ?_
              refine lv_istore (lv' := [(7, .int 0), (0, .ref mb), (1, .int b1), (2, .int b2), (3, .int b3), (4, .int b4), (5, .int b5), (6, .int b6)]) hx hb dX8_set_70 hl (by decide) rfl (fun ls hl => ?_)
              refine lv_iload hx hb dX8_set_72 (lv_at hl 0 rfl) ?_
              refine lv_if_eq (tgt := 128) hx hb dX8_set_74 (by decide) (fun _ => ?_) (fun h => absurd (by decide) h)
              refine lv_iload hx hb dX8_set_128 (lv_at hl 0 rfl) ?_
              exact hret _ _ _ _ 0 () dX8_set_130 rfl (rfl) hP hD hS
          · refine lv_if_eq (tgt := 69) hx hb dX8_set_51 (by decide) (fun _ => ?_) (fun h => absurd (by decide) h)
            refine lv_iconst (v := 0) hx hb dX8_set_69 (by decide) ?_
            refine lv_istore (lv' := [(7, .int 0), (0, .ref mb), (1, .int b1), (2, .int b2), (3, .int b3), (4, .int b4), (5, .int b5), (6, .int b6)]) hx hb dX8_set_70 hl (by decide) rfl (fun ls hl => ?_)
            refine lv_iload hx hb dX8_set_72 (lv_at hl 0 rfl) ?_
            refine lv_if_eq (tgt := 128) hx hb dX8_set_74 (by decide) (fun _ => ?_) (fun h => absurd (by decide) h)
            refine lv_iload hx hb dX8_set_128 (lv_at hl 0 rfl) ?_
            exact hret _ _ _ _ 0 () dX8_set_130 rfl (rfl) hP hD hS
        · refine lv_if_eq (tgt := 69) hx hb dX8_set_39 (by decide) (fun _ => ?_) (fun h => absurd (by decide) h)
          refine lv_iconst (v := 0) hx hb dX8_set_69 (by decide) ?_
          refine lv_istore (lv' := [(7, .int 0), (0, .ref mb), (1, .int b1), (2, .int b2), (3, .int b3), (4, .int b4), (5, .int b5), (6, .int b6)]) hx hb dX8_set_70 hl (by decide) rfl (fun ls hl => ?_)
          refine lv_iload hx hb dX8_set_72 (lv_at hl 0 rfl) ?_
          refine lv_if_eq (tgt := 128) hx hb dX8_set_74 (by decide) (fun _ => ?_) (fun h => absurd (by decide) h)
          refine lv_iload hx hb dX8_set_128 (lv_at hl 0 rfl) ?_
          exact hret _ _ _ _ 0 () dX8_set_130 rfl (rfl) hP hD hS
      · refine lv_if_eq (tgt := 69) hx hb dX8_set_28 (by decide) (fun _ => ?_) (fun h => absurd (by decide) h)
        refine lv_iconst (v := 0) hx hb dX8_set_69 (by decide) ?_
        refine lv_istore (lv' := [(7, .int 0), (0, .ref mb), (1, .int b1), (2, .int b2), (3, .int b3), (4, .int b4), (5, .int b5), (6, .int b6)]) hx hb dX8_set_70 hl (by decide) rfl (fun ls hl => ?_)
        refine lv_iload hx hb dX8_set_72 (lv_at hl 0 rfl) ?_
        refine lv_if_eq (tgt := 128) hx hb dX8_set_74 (by decide) (fun _ => ?_) (fun h => absurd (by decide) h)
        refine lv_iload hx hb dX8_set_128 (lv_at hl 0 rfl) ?_
        exact hret _ _ _ _ 0 () dX8_set_130 rfl (rfl) hP hD hS
    · refine lv_if_eq (tgt := 69) hx hb dX8_set_18 (by decide) (fun _ => ?_) (fun h => absurd (by decide) h)
      refine lv_iconst (v := 0) hx hb dX8_set_69 (by decide) ?_
      refine lv_istore (lv' := [(7, .int 0), (0, .ref mb), (1, .int b1), (2, .int b2), (3, .int b3), (4, .int b4), (5, .int b5), (6, .int b6)]) hx hb dX8_set_70 hl (by decide) rfl (fun ls hl => ?_)
      refine lv_iload hx hb dX8_set_72 (lv_at hl 0 rfl) ?_
      refine lv_if_eq (tgt := 128) hx hb dX8_set_74 (by decide) (fun _ => ?_) (fun h => absurd (by decide) h)
      refine lv_iload hx hb dX8_set_128 (lv_at hl 0 rfl) ?_
      exact hret _ _ _ _ 0 () dX8_set_130 rfl (rfl) hP hD hS
  · refine lv_if_eq (tgt := 69) hx hb dX8_set_8 (by decide) (fun _ => ?_) (fun h => absurd (by decide) h)
    refine lv_iconst (v := 0) hx hb dX8_set_69 (by decide) ?_
    refine lv_istore (lv' := [(7, .int 0), (0, .ref mb), (1, .int b1), (2, .int b2), (3, .int b3), (4, .int b4), (5, .int b5), (6, .int b6)]) hx hb dX8_set_70 hl (by decide) rfl (fun ls hl => ?_)
    refine lv_iload hx hb dX8_set_72 (lv_at hl 0 rfl) ?_
    refine lv_if_eq (tgt := 128) hx hb dX8_set_74 (by decide) (fun _ => ?_) (fun h => absurd (by decide) h)
    refine lv_iload hx hb dX8_set_128 (lv_at hl 0 rfl) ?_
    exact hret _ _ _ _ 0 () dX8_set_130 rfl (rfl) hP hD hS

theorem i_X8_set_X8 : ∀ w ∈ wsX80, w ∈ wsX8_set := by decide +kernel
theorem k_X8_set_f19 : Cond.fieldLink RX8 19 (TX8 1).1 (TX8 1).2.1 (TX8 1).2.2.1 ∈ wsX8_set := by decide +kernel
theorem i_X8_set_X6 : ∀ w ∈ wsX60, w ∈ wsX8_set := by decide +kernel
theorem k_X8_set_f105 : Cond.fieldLink RX8 105 (TX6 1).1 (TX6 1).2.1 (TX6 1).2.2.1 ∈ wsX8_set := by decide +kernel
theorem k_X8_set_f108 : Cond.fieldLink RX8 108 (TX6 2).1 (TX6 2).2.1 (TX6 2).2.2.1 ∈ wsX8_set := by decide +kernel
theorem k_X8_set_f111 : Cond.fieldLink RX8 111 (TX6 3).1 (TX6 3).2.1 (TX6 3).2.2.1 ∈ wsX8_set := by decide +kernel
theorem k_X8_set_f114 : Cond.fieldLink RX8 114 (TX6 4).1 (TX6 4).2.1 (TX6 4).2.2.1 ∈ wsX8_set := by decide +kernel
theorem k_X8_set_f117 : Cond.fieldLink RX8 117 (TX6 5).1 (TX6 5).2.1 (TX6 5).2.2.1 ∈ wsX8_set := by decide +kernel
theorem k_X8_set_f120 : Cond.fieldLink RX8 120 (TX6 6).1 (TX6 6).2.1 (TX6 6).2.2.1 ∈ wsX8_set := by decide +kernel
set_option maxHeartbeats 4000000 in
set_option maxRecDepth 100000 in
theorem c_X8_set_y (l : Launch) (g : gT) (mb : Nat) (ta : Nat) (so : Nat) (to : Nat) (ro : Nat) (tr : Nat) (pl : Nat) (mo : Nat) (ra : Nat) (bk : Nat) (rt : Int32) (w0 : Int32) (w1 : Int32) (w2 : Int32) (lg : Int32) (nr : Int32) (b1 : Int32) (b2 : Int32) (b3 : Int32) (b4 : Int32) (b5 : Int32) (b6 : Int32) (h : setP b1 b2 b3 b4 b5 b6) : CtI l g yX8_set wsX8_set rm_X8_set [.ref mb, .int b1, .int b2, .int b3, .int b4, .int b5, .int b6] [gO mb 8 [.ref ta, .ref so, .ref to, .ref ro, .ref tr, .ref pl, .ref mo, .ref ra], gO so 6 [.ref bk, .int rt, .int w0, .int w1, .int w2, .int lg, .int nr]] (fun (r : Int32) (_ : Unit) => r = 1) (fun (_ : Unit) => [gO mb 8 [.ref ta, .ref so, .ref to, .ref ro, .ref tr, .ref pl, .ref mo, .ref ra], gO so 6 [.ref bk, .int b1, .int b2, .int b3, .int b4, .int b5, .int b6]]) := by
  refine CtI.of (cc := cX8_set) (maxL := 8) (ret := .boolean) (by decide) rfl (Nat.le_of_ble_eq_true rfl) ?_
  intro p e s m args below meth c A Q hnm F hK hA hP hD hS hret ls hl
  have hx := F.1
  have hb := F.2.1
  have hl : lv_has ls 8 [(0, .ref mb), (1, .int b1), (2, .int b2), (3, .int b3), (4, .int b4), (5, .int b5), (6, .int b6)] := hl
  refine lv_iload_n hx hb dX8_set_0 rfl (lv_at hl 1 rfl) ?_
  refine lv_iconst (v := 0) hx hb dX8_set_1 (by decide) ?_
  refine lv_sipush (v := 200) hx hb dX8_set_2 (by decide) ?_
  refine g_SI (wr := [gO mb 8 [.ref ta, .ref so, .ref to, .ref ro, .ref tr, .ref pl, .ref mo, .ref ra], gO so 6 [.ref bk, .int rt, .int w0, .int w1, .int w2, .int lg, .int nr]]) (As := [.int b1, .int 0, .int 200]) (rest := []) (n := 3) F (c_X8_isWithin l g b1 0 200) gX8_set_X8_isWithin rfl (by decide) ⟨by decide, by decide⟩ rfl hl.1 rfl (Nat.le_of_ble_eq_true rfl) dX8_set_5 ⟨Nat.le_of_ble_eq_true rfl, Nat.le_of_ble_eq_true rfl⟩ hK hP hD hS hA [] [0, 1] (by decide) rfl rfl (by decide) (by decide) (fun r_5 u_5 H locs hw_5 hP hD hS => ?_)
  have hP : gP g [gO mb 8 [.ref ta, .ref so, .ref to, .ref ro, .ref tr, .ref pl, .ref mo, .ref ra], gO so 6 [.ref bk, .int rt, .int w0, .int w1, .int w2, .int lg, .int nr]] H := hP
  have hD : va_D A [gO mb 8 [.ref ta, .ref so, .ref to, .ref ro, .ref tr, .ref pl, .ref mo, .ref ra], gO so 6 [.ref bk, .int rt, .int w0, .int w1, .int w2, .int lg, .int nr]] := hD
  rcases hw_5 with ⟨rfl, b_5⟩ | ⟨rfl, b_5⟩
  · refine lv_if_eq (tgt := 69) hx hb dX8_set_8 (by decide) (fun h => absurd h (by decide)) (fun _ => ?_)
    refine lv_iload_n hx hb dX8_set_11 rfl (lv_at hl 2 rfl) ?_
    refine lv_iconst (v := 0) hx hb dX8_set_12 (by decide) ?_
    refine lv_bipush (v := 9) hx hb dX8_set_13 (by decide) ?_
    refine g_SI (wr := [gO mb 8 [.ref ta, .ref so, .ref to, .ref ro, .ref tr, .ref pl, .ref mo, .ref ra], gO so 6 [.ref bk, .int rt, .int w0, .int w1, .int w2, .int lg, .int nr]]) (As := [.int b2, .int 0, .int 9]) (rest := []) (n := 3) F (c_X8_isWithin l g b2 0 9) gX8_set_X8_isWithin rfl (by decide) ⟨by decide, by decide⟩ rfl hl.1 rfl (Nat.le_of_ble_eq_true rfl) dX8_set_15 ⟨Nat.le_of_ble_eq_true rfl, Nat.le_of_ble_eq_true rfl⟩ hK hP hD hS hA [] [0, 1] (by decide) rfl rfl (by decide) (by decide) (fun r_15 u_15 H locs hw_15 hP hD hS => ?_)
    have hP : gP g [gO mb 8 [.ref ta, .ref so, .ref to, .ref ro, .ref tr, .ref pl, .ref mo, .ref ra], gO so 6 [.ref bk, .int rt, .int w0, .int w1, .int w2, .int lg, .int nr]] H := hP
    have hD : va_D A [gO mb 8 [.ref ta, .ref so, .ref to, .ref ro, .ref tr, .ref pl, .ref mo, .ref ra], gO so 6 [.ref bk, .int rt, .int w0, .int w1, .int w2, .int lg, .int nr]] := hD
    rcases hw_15 with ⟨rfl, b_15⟩ | ⟨rfl, b_15⟩
    · refine lv_if_eq (tgt := 69) hx hb dX8_set_18 (by decide) (fun h => absurd h (by decide)) (fun _ => ?_)
      refine lv_iload_n hx hb dX8_set_21 rfl (lv_at hl 3 rfl) ?_
      refine lv_iconst (v := 0) hx hb dX8_set_22 (by decide) ?_
      refine lv_bipush (v := 9) hx hb dX8_set_23 (by decide) ?_
      refine g_SI (wr := [gO mb 8 [.ref ta, .ref so, .ref to, .ref ro, .ref tr, .ref pl, .ref mo, .ref ra], gO so 6 [.ref bk, .int rt, .int w0, .int w1, .int w2, .int lg, .int nr]]) (As := [.int b3, .int 0, .int 9]) (rest := []) (n := 3) F (c_X8_isWithin l g b3 0 9) gX8_set_X8_isWithin rfl (by decide) ⟨by decide, by decide⟩ rfl hl.1 rfl (Nat.le_of_ble_eq_true rfl) dX8_set_25 ⟨Nat.le_of_ble_eq_true rfl, Nat.le_of_ble_eq_true rfl⟩ hK hP hD hS hA [] [0, 1] (by decide) rfl rfl (by decide) (by decide) (fun r_25 u_25 H locs hw_25 hP hD hS => ?_)
      have hP : gP g [gO mb 8 [.ref ta, .ref so, .ref to, .ref ro, .ref tr, .ref pl, .ref mo, .ref ra], gO so 6 [.ref bk, .int rt, .int w0, .int w1, .int w2, .int lg, .int nr]] H := hP
      have hD : va_D A [gO mb 8 [.ref ta, .ref so, .ref to, .ref ro, .ref tr, .ref pl, .ref mo, .ref ra], gO so 6 [.ref bk, .int rt, .int w0, .int w1, .int w2, .int lg, .int nr]] := hD
      rcases hw_25 with ⟨rfl, b_25⟩ | ⟨rfl, b_25⟩
      · refine lv_if_eq (tgt := 69) hx hb dX8_set_28 (by decide) (fun h => absurd h (by decide)) (fun _ => ?_)
        refine lv_iload hx hb dX8_set_31 (lv_at hl 4 rfl) ?_
        refine lv_iconst (v := 0) hx hb dX8_set_33 (by decide) ?_
        refine lv_bipush (v := 9) hx hb dX8_set_34 (by decide) ?_
        refine g_SI (wr := [gO mb 8 [.ref ta, .ref so, .ref to, .ref ro, .ref tr, .ref pl, .ref mo, .ref ra], gO so 6 [.ref bk, .int rt, .int w0, .int w1, .int w2, .int lg, .int nr]]) (As := [.int b4, .int 0, .int 9]) (rest := []) (n := 3) F (c_X8_isWithin l g b4 0 9) gX8_set_X8_isWithin rfl (by decide) ⟨by decide, by decide⟩ rfl hl.1 rfl (Nat.le_of_ble_eq_true rfl) dX8_set_36 ⟨Nat.le_of_ble_eq_true rfl, Nat.le_of_ble_eq_true rfl⟩ hK hP hD hS hA [] [0, 1] (by decide) rfl rfl (by decide) (by decide) (fun r_36 u_36 H locs hw_36 hP hD hS => ?_)
        have hP : gP g [gO mb 8 [.ref ta, .ref so, .ref to, .ref ro, .ref tr, .ref pl, .ref mo, .ref ra], gO so 6 [.ref bk, .int rt, .int w0, .int w1, .int w2, .int lg, .int nr]] H := hP
        have hD : va_D A [gO mb 8 [.ref ta, .ref so, .ref to, .ref ro, .ref tr, .ref pl, .ref mo, .ref ra], gO so 6 [.ref bk, .int rt, .int w0, .int w1, .int w2, .int lg, .int nr]] := hD
        rcases hw_36 with ⟨rfl, b_36⟩ | ⟨rfl, b_36⟩
        · refine lv_if_eq (tgt := 69) hx hb dX8_set_39 (by decide) (fun h => absurd h (by decide)) (fun _ => ?_)
          refine lv_iload hx hb dX8_set_42 (lv_at hl 5 rfl) ?_
          refine lv_bipush (v := 8) hx hb dX8_set_44 (by decide) ?_
          refine lv_bipush (v := 64) hx hb dX8_set_46 (by decide) ?_
          refine g_SI (wr := [gO mb 8 [.ref ta, .ref so, .ref to, .ref ro, .ref tr, .ref pl, .ref mo, .ref ra], gO so 6 [.ref bk, .int rt, .int w0, .int w1, .int w2, .int lg, .int nr]]) (As := [.int b5, .int 8, .int 64]) (rest := []) (n := 3) F (c_X8_isWithin l g b5 8 64) gX8_set_X8_isWithin rfl (by decide) ⟨by decide, by decide⟩ rfl hl.1 rfl (Nat.le_of_ble_eq_true rfl) dX8_set_48 ⟨Nat.le_of_ble_eq_true rfl, Nat.le_of_ble_eq_true rfl⟩ hK hP hD hS hA [] [0, 1] (by decide) rfl rfl (by decide) (by decide) (fun r_48 u_48 H locs hw_48 hP hD hS => ?_)
          have hP : gP g [gO mb 8 [.ref ta, .ref so, .ref to, .ref ro, .ref tr, .ref pl, .ref mo, .ref ra], gO so 6 [.ref bk, .int rt, .int w0, .int w1, .int w2, .int lg, .int nr]] H := hP
          have hD : va_D A [gO mb 8 [.ref ta, .ref so, .ref to, .ref ro, .ref tr, .ref pl, .ref mo, .ref ra], gO so 6 [.ref bk, .int rt, .int w0, .int w1, .int w2, .int lg, .int nr]] := hD
          rcases hw_48 with ⟨rfl, b_48⟩ | ⟨rfl, b_48⟩
          · refine lv_if_eq (tgt := 69) hx hb dX8_set_51 (by decide) (fun h => absurd h (by decide)) (fun _ => ?_)
            refine lv_iload hx hb dX8_set_54 (lv_at hl 6 rfl) ?_
            refine lv_iconst (v := 1) hx hb dX8_set_56 (by decide) ?_
            refine lv_bipush (v := 32) hx hb dX8_set_57 (by decide) ?_
            refine g_SI (wr := [gO mb 8 [.ref ta, .ref so, .ref to, .ref ro, .ref tr, .ref pl, .ref mo, .ref ra], gO so 6 [.ref bk, .int rt, .int w0, .int w1, .int w2, .int lg, .int nr]]) (As := [.int b6, .int 1, .int 32]) (rest := []) (n := 3) F (c_X8_isWithin l g b6 1 32) gX8_set_X8_isWithin rfl (by decide) ⟨by decide, by decide⟩ rfl hl.1 rfl (Nat.le_of_ble_eq_true rfl) dX8_set_59 ⟨Nat.le_of_ble_eq_true rfl, Nat.le_of_ble_eq_true rfl⟩ hK hP hD hS hA [] [0, 1] (by decide) rfl rfl (by decide) (by decide) (fun r_59 u_59 H locs hw_59 hP hD hS => ?_)
            have hP : gP g [gO mb 8 [.ref ta, .ref so, .ref to, .ref ro, .ref tr, .ref pl, .ref mo, .ref ra], gO so 6 [.ref bk, .int rt, .int w0, .int w1, .int w2, .int lg, .int nr]] H := hP
            have hD : va_D A [gO mb 8 [.ref ta, .ref so, .ref to, .ref ro, .ref tr, .ref pl, .ref mo, .ref ra], gO so 6 [.ref bk, .int rt, .int w0, .int w1, .int w2, .int lg, .int nr]] := hD
            rcases hw_59 with ⟨rfl, b_59⟩ | ⟨rfl, b_59⟩
            · refine lv_if_eq (tgt := 69) hx hb dX8_set_62 (by decide) (fun h => absurd h (by decide)) (fun _ => ?_)
              refine lv_iconst (v := 1) hx hb dX8_set_65 (by decide) ?_
              refine lv_goto (tgt := 70) hx hb dX8_set_66 (by decide) ?_
              refine lv_istore (lv' := [(7, .int 1), (0, .ref mb), (1, .int b1), (2, .int b2), (3, .int b3), (4, .int b4), (5, .int b5), (6, .int b6)]) hx hb dX8_set_70 hl (by decide) rfl (fun ls hl => ?_)
              refine lv_iload hx hb dX8_set_72 (lv_at hl 0 rfl) ?_
              refine lv_if_eq (tgt := 128) hx hb dX8_set_74 (by decide) (fun h => absurd h (by decide)) (fun _ => ?_)
              refine lv_aload_n hx hb dX8_set_77 rfl (lv_at hl 1 rfl) ?_
              refine g_get (C := RX8) (T := TX8) (N := 8) F hK hP i_X8_set_X8 0 rfl rfl 1 (by decide) k_X8_set_f19 (v := .ref so) rfl dX8_set_78 ?_
              refine lv_iload_n hx hb dX8_set_81 rfl (lv_at hl 2 rfl) ?_
              refine g_put (C := RX6) (T := TX6) (N := 7) (ws2 := [gO mb 8 [.ref ta, .ref so, .ref to, .ref ro, .ref tr, .ref pl, .ref mo, .ref ra], gO so 6 [.ref bk, .int b1, .int w0, .int w1, .int w2, .int lg, .int nr]]) F hK hP hD hS i_X8_set_X6 tyX6 tyX6_ok nmX6 1 rfl rfl 1 (by decide) k_X8_set_f105 rfl (v := .int b1) rfl rfl (Nat.le_of_ble_eq_true rfl) rfl dX8_set_82 (fun H locs hP hD hS => ?_)
              refine lv_aload_n hx hb dX8_set_85 rfl (lv_at hl 1 rfl) ?_
              refine g_get (C := RX8) (T := TX8) (N := 8) F hK hP i_X8_set_X8 0 rfl rfl 1 (by decide) k_X8_set_f19 (v := .ref so) rfl dX8_set_86 ?_
              refine lv_iload_n hx hb dX8_set_89 rfl (lv_at hl 3 rfl) ?_
              refine g_put (C := RX6) (T := TX6) (N := 7) (ws2 := [gO mb 8 [.ref ta, .ref so, .ref to, .ref ro, .ref tr, .ref pl, .ref mo, .ref ra], gO so 6 [.ref bk, .int b1, .int b2, .int w1, .int w2, .int lg, .int nr]]) F hK hP hD hS i_X8_set_X6 tyX6 tyX6_ok nmX6 1 rfl rfl 2 (by decide) k_X8_set_f108 rfl (v := .int b2) rfl rfl (Nat.le_of_ble_eq_true rfl) rfl dX8_set_90 (fun H locs hP hD hS => ?_)
              refine lv_aload_n hx hb dX8_set_93 rfl (lv_at hl 1 rfl) ?_
              refine g_get (C := RX8) (T := TX8) (N := 8) F hK hP i_X8_set_X8 0 rfl rfl 1 (by decide) k_X8_set_f19 (v := .ref so) rfl dX8_set_94 ?_
              refine lv_iload_n hx hb dX8_set_97 rfl (lv_at hl 4 rfl) ?_
              refine g_put (C := RX6) (T := TX6) (N := 7) (ws2 := [gO mb 8 [.ref ta, .ref so, .ref to, .ref ro, .ref tr, .ref pl, .ref mo, .ref ra], gO so 6 [.ref bk, .int b1, .int b2, .int b3, .int w2, .int lg, .int nr]]) F hK hP hD hS i_X8_set_X6 tyX6 tyX6_ok nmX6 1 rfl rfl 3 (by decide) k_X8_set_f111 rfl (v := .int b3) rfl rfl (Nat.le_of_ble_eq_true rfl) rfl dX8_set_98 (fun H locs hP hD hS => ?_)
              refine lv_aload_n hx hb dX8_set_101 rfl (lv_at hl 1 rfl) ?_
              refine g_get (C := RX8) (T := TX8) (N := 8) F hK hP i_X8_set_X8 0 rfl rfl 1 (by decide) k_X8_set_f19 (v := .ref so) rfl dX8_set_102 ?_
              refine lv_iload hx hb dX8_set_105 (lv_at hl 5 rfl) ?_
              refine g_put (C := RX6) (T := TX6) (N := 7) (ws2 := [gO mb 8 [.ref ta, .ref so, .ref to, .ref ro, .ref tr, .ref pl, .ref mo, .ref ra], gO so 6 [.ref bk, .int b1, .int b2, .int b3, .int b4, .int lg, .int nr]]) F hK hP hD hS i_X8_set_X6 tyX6 tyX6_ok nmX6 1 rfl rfl 4 (by decide) k_X8_set_f114 rfl (v := .int b4) rfl rfl (Nat.le_of_ble_eq_true rfl) rfl dX8_set_107 (fun H locs hP hD hS => ?_)
              refine lv_aload_n hx hb dX8_set_110 rfl (lv_at hl 1 rfl) ?_
              refine g_get (C := RX8) (T := TX8) (N := 8) F hK hP i_X8_set_X8 0 rfl rfl 1 (by decide) k_X8_set_f19 (v := .ref so) rfl dX8_set_111 ?_
              refine lv_iload hx hb dX8_set_114 (lv_at hl 6 rfl) ?_
              refine g_put (C := RX6) (T := TX6) (N := 7) (ws2 := [gO mb 8 [.ref ta, .ref so, .ref to, .ref ro, .ref tr, .ref pl, .ref mo, .ref ra], gO so 6 [.ref bk, .int b1, .int b2, .int b3, .int b4, .int b5, .int nr]]) F hK hP hD hS i_X8_set_X6 tyX6 tyX6_ok nmX6 1 rfl rfl 5 (by decide) k_X8_set_f117 rfl (v := .int b5) rfl rfl (Nat.le_of_ble_eq_true rfl) rfl dX8_set_116 (fun H locs hP hD hS => ?_)
              refine lv_aload_n hx hb dX8_set_119 rfl (lv_at hl 1 rfl) ?_
              refine g_get (C := RX8) (T := TX8) (N := 8) F hK hP i_X8_set_X8 0 rfl rfl 1 (by decide) k_X8_set_f19 (v := .ref so) rfl dX8_set_120 ?_
              refine lv_iload hx hb dX8_set_123 (lv_at hl 7 rfl) ?_
              refine g_put (C := RX6) (T := TX6) (N := 7) (ws2 := [gO mb 8 [.ref ta, .ref so, .ref to, .ref ro, .ref tr, .ref pl, .ref mo, .ref ra], gO so 6 [.ref bk, .int b1, .int b2, .int b3, .int b4, .int b5, .int b6]]) F hK hP hD hS i_X8_set_X6 tyX6 tyX6_ok nmX6 1 rfl rfl 6 (by decide) k_X8_set_f120 rfl (v := .int b6) rfl rfl (Nat.le_of_ble_eq_true rfl) rfl dX8_set_125 (fun H locs hP hD hS => ?_)
              refine lv_iload hx hb dX8_set_128 (lv_at hl 0 rfl) ?_
              exact hret _ _ _ _ 1 () dX8_set_130 rfl (rfl) hP hD hS
            · refine lv_if_eq (tgt := 69) hx hb dX8_set_62 (by decide) (fun _ => ?_) (fun h => absurd (by decide) h)
              exact absurd h.2.2.2.2.2 b_59
          · refine lv_if_eq (tgt := 69) hx hb dX8_set_51 (by decide) (fun _ => ?_) (fun h => absurd (by decide) h)
            exact absurd h.2.2.2.2.1 b_48
        · refine lv_if_eq (tgt := 69) hx hb dX8_set_39 (by decide) (fun _ => ?_) (fun h => absurd (by decide) h)
          exact absurd h.2.2.2.1 b_36
      · refine lv_if_eq (tgt := 69) hx hb dX8_set_28 (by decide) (fun _ => ?_) (fun h => absurd (by decide) h)
        exact absurd h.2.2.1 b_25
    · refine lv_if_eq (tgt := 69) hx hb dX8_set_18 (by decide) (fun _ => ?_) (fun h => absurd (by decide) h)
      exact absurd h.2.1 b_15
  · refine lv_if_eq (tgt := 69) hx hb dX8_set_8 (by decide) (fun _ => ?_) (fun h => absurd (by decide) h)
    exact absurd h.1 b_5

abbrev rm_X8_side : Room := { frames := 2, cells := 0, slots := 0, locals := 50 }
set_option maxHeartbeats 4000000 in
set_option maxRecDepth 100000 in
theorem c_X8_side_n (l : Launch) (g : gT) (mb : Nat) (ta : Nat) (so : Nat) (to : Nat) (ro : Nat) (tr : Nat) (pl : Nat) (mo : Nat) (ra : Nat) (x : Int32) (y : Int32) (h : ¬ hasSideP x y) : CtI l g yX8_side wsX8_side rm_X8_side [.ref mb, .int x, .int y] [gO mb 8 [.ref ta, .ref so, .ref to, .ref ro, .ref tr, .ref pl, .ref mo, .ref ra]] (fun (r : Int32) (_ : Unit) => r = -1) (fun (_ : Unit) => [gO mb 8 [.ref ta, .ref so, .ref to, .ref ro, .ref tr, .ref pl, .ref mo, .ref ra]]) := by
  refine CtI.of (cc := cX8_side) (maxL := 3) (ret := .int) (by decide) rfl (Nat.le_of_ble_eq_true rfl) ?_
  intro p e s m args below meth c A Q hnm F hK hA hP hD hS hret ls hl
  have hx := F.1
  have hb := F.2.1
  have hl : lv_has ls 3 [(0, .ref mb), (1, .int x), (2, .int y)] := hl
  refine lv_iload_n hx hb dX8_side_0 rfl (lv_at hl 1 rfl) ?_
  refine lv_iload_n hx hb dX8_side_1 rfl (lv_at hl 2 rfl) ?_
  refine g_SI (wr := [gO mb 8 [.ref ta, .ref so, .ref to, .ref ro, .ref tr, .ref pl, .ref mo, .ref ra]]) (As := [.int x, .int y]) (rest := []) (n := 2) F (c_X8_hasSide l g x y) gX8_side_X8_hasSide rfl (by decide) ⟨by decide, by decide⟩ rfl hl.1 rfl (Nat.le_of_ble_eq_true rfl) dX8_side_2 ⟨Nat.le_of_ble_eq_true rfl, Nat.le_of_ble_eq_true rfl⟩ hK hP hD hS hA [] [0] (by decide) rfl rfl (by decide) (by decide) (fun r_2 u_2 H locs hw_2 hP hD hS => ?_)
  have hP : gP g [gO mb 8 [.ref ta, .ref so, .ref to, .ref ro, .ref tr, .ref pl, .ref mo, .ref ra]] H := hP
  have hD : va_D A [gO mb 8 [.ref ta, .ref so, .ref to, .ref ro, .ref tr, .ref pl, .ref mo, .ref ra]] := hD
  rcases hw_2 with ⟨rfl, b_2⟩ | ⟨rfl, b_2⟩
  · exact absurd b_2 h
  · refine lv_if_ne (tgt := 10) hx hb dX8_side_5 (by decide) (fun h => absurd (by decide) h) (fun _ => ?_)
    refine lv_iconst (v := (-1)) hx hb dX8_side_8 (by decide) ?_
    exact hret _ _ _ _ (-1) () dX8_side_9 rfl (rfl) hP hD hS

theorem i_X8_side_X8 : ∀ w ∈ wsX80, w ∈ wsX8_side := by decide +kernel
theorem k_X8_side_f33 : Cond.fieldLink RX8 33 (TX8 3).1 (TX8 3).2.1 (TX8 3).2.2.1 ∈ wsX8_side := by decide +kernel
theorem i_X8_side_X5 : ∀ w ∈ wsX50, w ∈ wsX8_side := by decide +kernel
theorem k_X8_side_f88 : Cond.fieldLink RX8 88 (TX5 1).1 (TX5 1).2.1 (TX5 1).2.2.1 ∈ wsX8_side := by decide +kernel
set_option maxHeartbeats 4000000 in
set_option maxRecDepth 100000 in
theorem c_X8_side_y (l : Launch) (g : gT) (mb : Nat) (ta : Nat) (so : Nat) (to : Nat) (ro : Nat) (tr : Nat) (pl : Nat) (mo : Nat) (ra : Nat) (lo : Nat) (cp : Nat) (sp : Nat) (yr : Nat) (cx : Nat) (cy : Nat) (n : Nat) (fx : Nat → Int32) (fy : Nat → Int32) (X : Nat → Int32) (Y : Nat → Int32) (x : Int32) (y : Int32) (hn : n ≤ 48) (hX : ∀ k, k < n → fx k = X k) (hY : ∀ k, k < n → fy k = Y k) (h1n : 1 ≤ n) (h : hasSideP x y) : CtI l g yX8_side wsX8_side rm_X8_side [.ref mb, .int x, .int y] [gO mb 8 [.ref ta, .ref so, .ref to, .ref ro, .ref tr, .ref pl, .ref mo, .ref ra], gO ro 5 [.ref lo, .ref cp, .ref sp, .int (nI yr)], gO cp 3 [.ref cx, .ref cy, .int (nI n)], gI g cx 48 fx, gI g cy 48 fy] (fun (r : Int32) (_ : Unit) => r = nI (sideS X Y n x y)) (fun (_ : Unit) => [gO mb 8 [.ref ta, .ref so, .ref to, .ref ro, .ref tr, .ref pl, .ref mo, .ref ra], gO ro 5 [.ref lo, .ref cp, .ref sp, .int (nI yr)], gO cp 3 [.ref cx, .ref cy, .int (nI n)], gI g cx 48 fx, gI g cy 48 fy]) := by
  refine CtI.of (cc := cX8_side) (maxL := 3) (ret := .int) (by decide) rfl (Nat.le_of_ble_eq_true rfl) ?_
  intro p e s m args below meth c A Q hnm F hK hA hP hD hS hret ls hl
  have hx := F.1
  have hb := F.2.1
  have hl : lv_has ls 3 [(0, .ref mb), (1, .int x), (2, .int y)] := hl
  refine lv_iload_n hx hb dX8_side_0 rfl (lv_at hl 1 rfl) ?_
  refine lv_iload_n hx hb dX8_side_1 rfl (lv_at hl 2 rfl) ?_
  refine g_SI (wr := [gO mb 8 [.ref ta, .ref so, .ref to, .ref ro, .ref tr, .ref pl, .ref mo, .ref ra], gO ro 5 [.ref lo, .ref cp, .ref sp, .int (nI yr)], gO cp 3 [.ref cx, .ref cy, .int (nI n)], gI g cx 48 fx, gI g cy 48 fy]) (As := [.int x, .int y]) (rest := []) (n := 2) F (c_X8_hasSide l g x y) gX8_side_X8_hasSide rfl (by decide) ⟨by decide, by decide⟩ rfl hl.1 rfl (Nat.le_of_ble_eq_true rfl) dX8_side_2 ⟨Nat.le_of_ble_eq_true rfl, Nat.le_of_ble_eq_true rfl⟩ hK hP hD hS hA [] [0, 1, 2, 3, 4] (by decide) rfl rfl (by decide) (by decide) (fun r_2 u_2 H locs hw_2 hP hD hS => ?_)
  have hP : gP g [gO mb 8 [.ref ta, .ref so, .ref to, .ref ro, .ref tr, .ref pl, .ref mo, .ref ra], gO ro 5 [.ref lo, .ref cp, .ref sp, .int (nI yr)], gO cp 3 [.ref cx, .ref cy, .int (nI n)], gI g cx 48 fx, gI g cy 48 fy] H := hP
  have hD : va_D A [gO mb 8 [.ref ta, .ref so, .ref to, .ref ro, .ref tr, .ref pl, .ref mo, .ref ra], gO ro 5 [.ref lo, .ref cp, .ref sp, .int (nI yr)], gO cp 3 [.ref cx, .ref cy, .int (nI n)], gI g cx 48 fx, gI g cy 48 fy] := hD
  rcases hw_2 with ⟨rfl, b_2⟩ | ⟨rfl, b_2⟩
  · refine lv_if_ne (tgt := 10) hx hb dX8_side_5 (by decide) (fun _ => ?_) (fun h => absurd h (by decide))
    refine lv_aload_n hx hb dX8_side_10 rfl (lv_at hl 0 rfl) ?_
    refine g_get (C := RX8) (T := TX8) (N := 8) F hK hP i_X8_side_X8 0 rfl rfl 3 (by decide) k_X8_side_f33 (v := .ref ro) rfl dX8_side_11 ?_
    refine g_get (C := RX5) (T := TX5) (N := 4) F hK hP i_X8_side_X5 1 rfl rfl 1 (by decide) k_X8_side_f88 (v := .ref cp) rfl dX8_side_14 ?_
    refine lv_iload_n hx hb dX8_side_17 rfl (lv_at hl 1 rfl) ?_
    refine lv_iload_n hx hb dX8_side_18 rfl (lv_at hl 2 rfl) ?_
    refine g_VI (wr := [gO mb 8 [.ref ta, .ref so, .ref to, .ref ro, .ref tr, .ref pl, .ref mo, .ref ra], gO ro 5 [.ref lo, .ref cp, .ref sp, .int (nI yr)]]) (As := [.int x, .int y]) (rest := []) (n := 2) F (c_X3_sideOf l g cp cx cy n fx fy X Y x y (by omega) (hX) (hY) (by omega)) gX8_side_X3_sideOf rfl (by decide) ⟨by decide, by decide⟩ 2 3 rfl rfl rfl rfl hl.1 rfl (Nat.le_of_ble_eq_true rfl) dX8_side_19 ⟨Nat.le_of_ble_eq_true rfl, Nat.le_of_ble_eq_true rfl⟩ hK hP hD hS hA [2, 3, 4] [0, 1] (by decide) rfl rfl (by decide) (by decide) (fun r_19 u_19 H locs hw_19 hP hD hS => ?_)
    have hP : gP g [gO mb 8 [.ref ta, .ref so, .ref to, .ref ro, .ref tr, .ref pl, .ref mo, .ref ra], gO ro 5 [.ref lo, .ref cp, .ref sp, .int (nI yr)], gO cp 3 [.ref cx, .ref cy, .int (nI n)], gI g cx 48 fx, gI g cy 48 fy] H := hP
    have hD : va_D A [gO mb 8 [.ref ta, .ref so, .ref to, .ref ro, .ref tr, .ref pl, .ref mo, .ref ra], gO ro 5 [.ref lo, .ref cp, .ref sp, .int (nI yr)], gO cp 3 [.ref cx, .ref cy, .int (nI n)], gI g cx 48 fx, gI g cy 48 fy] := hD
    obtain rfl := hw_19
    exact hret _ _ _ _ (nI (sideS X Y n x y)) () dX8_side_22 rfl (rfl) hP hD hS
  · exact absurd h b_2

abbrev rm_X8_crossings : Room := { frames := 5, cells := 0, slots := 0, locals := 112 }
theorem i_X8_crossings_X8 : ∀ w ∈ wsX80, w ∈ wsX8_crossings := by decide +kernel
theorem k_X8_crossings_f33 : Cond.fieldLink RX8 33 (TX8 3).1 (TX8 3).2.1 (TX8 3).2.2.1 ∈ wsX8_crossings := by decide +kernel
theorem i_X8_crossings_X5 : ∀ w ∈ wsX50, w ∈ wsX8_crossings := by decide +kernel
theorem k_X8_crossings_f88 : Cond.fieldLink RX8 88 (TX5 1).1 (TX5 1).2.1 (TX5 1).2.2.1 ∈ wsX8_crossings := by decide +kernel
set_option maxHeartbeats 4000000 in
set_option maxRecDepth 100000 in
theorem c_X8_crossings (l : Launch) (g : gT) (mb : Nat) (ta : Nat) (so : Nat) (to : Nat) (ro : Nat) (tr : Nat) (pl : Nat) (mo : Nat) (ra : Nat) (lo : Nat) (cp : Nat) (sp : Nat) (yr : Nat) (cx : Nat) (cy : Nat) (n : Nat) (fx : Nat → Int32) (fy : Nat → Int32) (X : Nat → Int32) (Y : Nat → Int32) (hn : n ≤ 48) (hX : ∀ k, k < n → fx k = X k) (hY : ∀ k, k < n → fy k = Y k) (h1n : 1 ≤ n) : CtI l g yX8_crossings wsX8_crossings rm_X8_crossings [.ref mb] [gO mb 8 [.ref ta, .ref so, .ref to, .ref ro, .ref tr, .ref pl, .ref mo, .ref ra], gO ro 5 [.ref lo, .ref cp, .ref sp, .int (nI yr)], gO cp 3 [.ref cx, .ref cy, .int (nI n)], gI g cx 48 fx, gI g cy 48 fy] (fun (r : Int32) (_ : Unit) => r = nI (crossS X Y n (n - 1))) (fun (_ : Unit) => [gO mb 8 [.ref ta, .ref so, .ref to, .ref ro, .ref tr, .ref pl, .ref mo, .ref ra], gO ro 5 [.ref lo, .ref cp, .ref sp, .int (nI yr)], gO cp 3 [.ref cx, .ref cy, .int (nI n)], gI g cx 48 fx, gI g cy 48 fy]) := by
  refine CtI.of (cc := cX8_crossings) (maxL := 1) (ret := .int) (by decide) rfl (Nat.le_of_ble_eq_true rfl) ?_
  intro p e s m args below meth c A Q hnm F hK hA hP hD hS hret ls hl
  have hx := F.1
  have hb := F.2.1
  have hl : lv_has ls 1 [(0, .ref mb)] := hl
  refine lv_aload_n hx hb dX8_crossings_0 rfl (lv_at hl 0 rfl) ?_
  refine g_get (C := RX8) (T := TX8) (N := 8) F hK hP i_X8_crossings_X8 0 rfl rfl 3 (by decide) k_X8_crossings_f33 (v := .ref ro) rfl dX8_crossings_1 ?_
  refine g_get (C := RX5) (T := TX5) (N := 4) F hK hP i_X8_crossings_X5 1 rfl rfl 1 (by decide) k_X8_crossings_f88 (v := .ref cp) rfl dX8_crossings_4 ?_
  refine g_VI (wr := [gO mb 8 [.ref ta, .ref so, .ref to, .ref ro, .ref tr, .ref pl, .ref mo, .ref ra], gO ro 5 [.ref lo, .ref cp, .ref sp, .int (nI yr)]]) (As := []) (rest := []) (n := 0) F (c_X3_countCrossings l g cp cx cy n fx fy X Y (by omega) (hX) (hY) (by omega)) gX8_crossings_X3_countCrossings rfl (by decide) ⟨by decide, by decide⟩ 2 3 rfl rfl rfl rfl hl.1 rfl (Nat.le_of_ble_eq_true rfl) dX8_crossings_7 ⟨Nat.le_of_ble_eq_true rfl, Nat.le_of_ble_eq_true rfl⟩ hK hP hD hS hA [2, 3, 4] [0, 1] (by decide) rfl rfl (by decide) (by decide) (fun r_7 u_7 H locs hw_7 hP hD hS => ?_)
  have hP : gP g [gO mb 8 [.ref ta, .ref so, .ref to, .ref ro, .ref tr, .ref pl, .ref mo, .ref ra], gO ro 5 [.ref lo, .ref cp, .ref sp, .int (nI yr)], gO cp 3 [.ref cx, .ref cy, .int (nI n)], gI g cx 48 fx, gI g cy 48 fy] H := hP
  have hD : va_D A [gO mb 8 [.ref ta, .ref so, .ref to, .ref ro, .ref tr, .ref pl, .ref mo, .ref ra], gO ro 5 [.ref lo, .ref cp, .ref sp, .int (nI yr)], gO cp 3 [.ref cx, .ref cy, .int (nI n)], gI g cx 48 fx, gI g cy 48 fy] := hD
  obtain rfl := hw_7
  exact hret _ _ _ _ (nI (crossS X Y n (n - 1))) () dX8_crossings_10 rfl (rfl) hP hD hS

abbrev rm_X8_plot : Room := { frames := 2, cells := 0, slots := 0, locals := 50 }
set_option maxHeartbeats 4000000 in
set_option maxRecDepth 100000 in
theorem c_X8_plot_n (l : Launch) (g : gT) (mb : Nat) (ta : Nat) (so : Nat) (to : Nat) (ro : Nat) (tr : Nat) (pl : Nat) (mo : Nat) (ra : Nat) (x : Int32) (y : Int32) (h : ¬ hasSideP x y) : CtI l g yX8_plot wsX8_plot rm_X8_plot [.ref mb, .int x, .int y] [gO mb 8 [.ref ta, .ref so, .ref to, .ref ro, .ref tr, .ref pl, .ref mo, .ref ra]] (fun (r : Int32) (_ : Unit) => r = -1) (fun (_ : Unit) => [gO mb 8 [.ref ta, .ref so, .ref to, .ref ro, .ref tr, .ref pl, .ref mo, .ref ra]]) := by
  refine CtI.of (cc := cX8_plot) (maxL := 3) (ret := .int) (by decide) rfl (Nat.le_of_ble_eq_true rfl) ?_
  intro p e s m args below meth c A Q hnm F hK hA hP hD hS hret ls hl
  have hx := F.1
  have hb := F.2.1
  have hl : lv_has ls 3 [(0, .ref mb), (1, .int x), (2, .int y)] := hl
  refine lv_iload_n hx hb dX8_plot_0 rfl (lv_at hl 1 rfl) ?_
  refine lv_iload_n hx hb dX8_plot_1 rfl (lv_at hl 2 rfl) ?_
  refine g_SI (wr := [gO mb 8 [.ref ta, .ref so, .ref to, .ref ro, .ref tr, .ref pl, .ref mo, .ref ra]]) (As := [.int x, .int y]) (rest := []) (n := 2) F (c_X8_hasSide l g x y) gX8_plot_X8_hasSide rfl (by decide) ⟨by decide, by decide⟩ rfl hl.1 rfl (Nat.le_of_ble_eq_true rfl) dX8_plot_2 ⟨Nat.le_of_ble_eq_true rfl, Nat.le_of_ble_eq_true rfl⟩ hK hP hD hS hA [] [0] (by decide) rfl rfl (by decide) (by decide) (fun r_2 u_2 H locs hw_2 hP hD hS => ?_)
  have hP : gP g [gO mb 8 [.ref ta, .ref so, .ref to, .ref ro, .ref tr, .ref pl, .ref mo, .ref ra]] H := hP
  have hD : va_D A [gO mb 8 [.ref ta, .ref so, .ref to, .ref ro, .ref tr, .ref pl, .ref mo, .ref ra]] := hD
  rcases hw_2 with ⟨rfl, b_2⟩ | ⟨rfl, b_2⟩
  · exact absurd b_2 h
  · refine lv_if_ne (tgt := 10) hx hb dX8_plot_5 (by decide) (fun h => absurd (by decide) h) (fun _ => ?_)
    refine lv_iconst (v := (-1)) hx hb dX8_plot_8 (by decide) ?_
    exact hret _ _ _ _ (-1) () dX8_plot_9 rfl (rfl) hP hD hS

theorem i_X8_plot_X8 : ∀ w ∈ wsX80, w ∈ wsX8_plot := by decide +kernel
theorem k_X8_plot_f43 : Cond.fieldLink RX8 43 (TX8 5).1 (TX8 5).2.1 (TX8 5).2.2.1 ∈ wsX8_plot := by decide +kernel
theorem k_X8_plot_f33 : Cond.fieldLink RX8 33 (TX8 3).1 (TX8 3).2.1 (TX8 3).2.2.1 ∈ wsX8_plot := by decide +kernel
theorem i_X8_plot_X5 : ∀ w ∈ wsX50, w ∈ wsX8_plot := by decide +kernel
theorem k_X8_plot_f88 : Cond.fieldLink RX8 88 (TX5 1).1 (TX5 1).2.1 (TX5 1).2.2.1 ∈ wsX8_plot := by decide +kernel
set_option maxHeartbeats 4000000 in
set_option maxRecDepth 100000 in
theorem c_X8_plot_y (l : Launch) (g : gT) (mb : Nat) (ta : Nat) (so : Nat) (to : Nat) (ro : Nat) (tr : Nat) (pl : Nat) (mo : Nat) (ra : Nat) (lo : Nat) (cp : Nat) (sp : Nat) (yr : Nat) (cx : Nat) (cy : Nat) (n : Nat) (fx : Nat → Int32) (fy : Nat → Int32) (X : Nat → Int32) (Y : Nat → Int32) (px : Nat) (py : Nat) (pw : Nat) (pc_ : Nat) (pb : Nat) (pn : Nat) (ex : Nat → Int32) (ey : Nat → Int32) (ew : Nat → Int32) (ec : Nat → Int32) (eb : Nat → Int32) (x : Int32) (y : Int32) (hn : n ≤ 48) (hX : ∀ k, k < n → fx k = X k) (hY : ∀ k, k < n → fy k = Y k) (h1n : 1 ≤ n) (hpn : pn ≤ 20) (h : hasSideP x y) : CtI l g yX8_plot wsX8_plot rm_X8_plot [.ref mb, .int x, .int y] [gO mb 8 [.ref ta, .ref so, .ref to, .ref ro, .ref tr, .ref pl, .ref mo, .ref ra], gO ro 5 [.ref lo, .ref cp, .ref sp, .int (nI yr)], gO cp 3 [.ref cx, .ref cy, .int (nI n)], gI g cx 48 fx, gI g cy 48 fy, gO pl 2 [.ref px, .ref py, .ref pw, .ref pc_, .ref pb, .int (nI pn)], gI g px 20 ex, gI g py 20 ey, gI g pw 20 ew, gI g pc_ 20 ec, gI g pb 20 eb] (fun (r : Int32) (_ : Unit) => r = padA 20 pn) (fun (_ : Unit) => [gO mb 8 [.ref ta, .ref so, .ref to, .ref ro, .ref tr, .ref pl, .ref mo, .ref ra], gO ro 5 [.ref lo, .ref cp, .ref sp, .int (nI yr)], gO cp 3 [.ref cx, .ref cy, .int (nI n)], gI g cx 48 fx, gI g cy 48 fy, gO pl 2 [.ref px, .ref py, .ref pw, .ref pc_, .ref pb, .int (nI (padN 20 pn))], gI g px 20 (padR 20 ex pn x), gI g py 20 (padR 20 ey pn y), gI g pw 20 (padR 20 ew pn (nI (sideS X Y n x y))), gI g pc_ 20 (padR 20 ec pn 0), gI g pb 20 eb]) := by
  refine CtI.of (cc := cX8_plot) (maxL := 3) (ret := .int) (by decide) rfl (Nat.le_of_ble_eq_true rfl) ?_
  intro p e s m args below meth c A Q hnm F hK hA hP hD hS hret ls hl
  have hx := F.1
  have hb := F.2.1
  have hl : lv_has ls 3 [(0, .ref mb), (1, .int x), (2, .int y)] := hl
  refine lv_iload_n hx hb dX8_plot_0 rfl (lv_at hl 1 rfl) ?_
  refine lv_iload_n hx hb dX8_plot_1 rfl (lv_at hl 2 rfl) ?_
  refine g_SI (wr := [gO mb 8 [.ref ta, .ref so, .ref to, .ref ro, .ref tr, .ref pl, .ref mo, .ref ra], gO ro 5 [.ref lo, .ref cp, .ref sp, .int (nI yr)], gO cp 3 [.ref cx, .ref cy, .int (nI n)], gI g cx 48 fx, gI g cy 48 fy, gO pl 2 [.ref px, .ref py, .ref pw, .ref pc_, .ref pb, .int (nI pn)], gI g px 20 ex, gI g py 20 ey, gI g pw 20 ew, gI g pc_ 20 ec, gI g pb 20 eb]) (As := [.int x, .int y]) (rest := []) (n := 2) F (c_X8_hasSide l g x y) gX8_plot_X8_hasSide rfl (by decide) ⟨by decide, by decide⟩ rfl hl.1 rfl (Nat.le_of_ble_eq_true rfl) dX8_plot_2 ⟨Nat.le_of_ble_eq_true rfl, Nat.le_of_ble_eq_true rfl⟩ hK hP hD hS hA [] [0, 1, 2, 3, 4, 5, 6, 7, 8, 9, 10] (by decide) rfl rfl (by decide) (by decide) (fun r_2 u_2 H locs hw_2 hP hD hS => ?_)
  have hP : gP g [gO mb 8 [.ref ta, .ref so, .ref to, .ref ro, .ref tr, .ref pl, .ref mo, .ref ra], gO ro 5 [.ref lo, .ref cp, .ref sp, .int (nI yr)], gO cp 3 [.ref cx, .ref cy, .int (nI n)], gI g cx 48 fx, gI g cy 48 fy, gO pl 2 [.ref px, .ref py, .ref pw, .ref pc_, .ref pb, .int (nI pn)], gI g px 20 ex, gI g py 20 ey, gI g pw 20 ew, gI g pc_ 20 ec, gI g pb 20 eb] H := hP
  have hD : va_D A [gO mb 8 [.ref ta, .ref so, .ref to, .ref ro, .ref tr, .ref pl, .ref mo, .ref ra], gO ro 5 [.ref lo, .ref cp, .ref sp, .int (nI yr)], gO cp 3 [.ref cx, .ref cy, .int (nI n)], gI g cx 48 fx, gI g cy 48 fy, gO pl 2 [.ref px, .ref py, .ref pw, .ref pc_, .ref pb, .int (nI pn)], gI g px 20 ex, gI g py 20 ey, gI g pw 20 ew, gI g pc_ 20 ec, gI g pb 20 eb] := hD
  rcases hw_2 with ⟨rfl, b_2⟩ | ⟨rfl, b_2⟩
  · refine lv_if_ne (tgt := 10) hx hb dX8_plot_5 (by decide) (fun _ => ?_) (fun h => absurd h (by decide))
    refine lv_aload_n hx hb dX8_plot_10 rfl (lv_at hl 0 rfl) ?_
    refine g_get (C := RX8) (T := TX8) (N := 8) F hK hP i_X8_plot_X8 0 rfl rfl 5 (by decide) k_X8_plot_f43 (v := .ref pl) rfl dX8_plot_11 ?_
    refine lv_iload_n hx hb dX8_plot_14 rfl (lv_at hl 1 rfl) ?_
    refine lv_iload_n hx hb dX8_plot_15 rfl (lv_at hl 2 rfl) ?_
    refine lv_aload_n hx hb dX8_plot_16 rfl (lv_at hl 0 rfl) ?_
    refine g_get (C := RX8) (T := TX8) (N := 8) F hK hP i_X8_plot_X8 0 rfl rfl 3 (by decide) k_X8_plot_f33 (v := .ref ro) rfl dX8_plot_17 ?_
    refine g_get (C := RX5) (T := TX5) (N := 4) F hK hP i_X8_plot_X5 1 rfl rfl 1 (by decide) k_X8_plot_f88 (v := .ref cp) rfl dX8_plot_20 ?_
    refine lv_iload_n hx hb dX8_plot_23 rfl (lv_at hl 1 rfl) ?_
    refine lv_iload_n hx hb dX8_plot_24 rfl (lv_at hl 2 rfl) ?_
    refine g_VI (wr := [gO mb 8 [.ref ta, .ref so, .ref to, .ref ro, .ref tr, .ref pl, .ref mo, .ref ra], gO ro 5 [.ref lo, .ref cp, .ref sp, .int (nI yr)], gO pl 2 [.ref px, .ref py, .ref pw, .ref pc_, .ref pb, .int (nI pn)], gI g px 20 ex, gI g py 20 ey, gI g pw 20 ew, gI g pc_ 20 ec, gI g pb 20 eb]) (As := [.int x, .int y]) (rest := [.int y, .int x, .ref pl]) (n := 2) F (c_X3_sideOf l g cp cx cy n fx fy X Y x y (by omega) (hX) (hY) (by omega)) gX8_plot_X3_sideOf rfl (by decide) ⟨by decide, by decide⟩ 2 3 rfl rfl rfl rfl hl.1 rfl (Nat.le_of_ble_eq_true rfl) dX8_plot_25 ⟨Nat.le_of_ble_eq_true rfl, Nat.le_of_ble_eq_true rfl⟩ hK hP hD hS hA [2, 3, 4] [0, 1, 5, 6, 7, 8, 9, 10] (by decide) rfl rfl (by decide) (by decide) (fun r_25 u_25 H locs hw_25 hP hD hS => ?_)
    have hP : gP g [gO mb 8 [.ref ta, .ref so, .ref to, .ref ro, .ref tr, .ref pl, .ref mo, .ref ra], gO ro 5 [.ref lo, .ref cp, .ref sp, .int (nI yr)], gO pl 2 [.ref px, .ref py, .ref pw, .ref pc_, .ref pb, .int (nI pn)], gI g px 20 ex, gI g py 20 ey, gI g pw 20 ew, gI g pc_ 20 ec, gI g pb 20 eb, gO cp 3 [.ref cx, .ref cy, .int (nI n)], gI g cx 48 fx, gI g cy 48 fy] H := hP
    have hD : va_D A [gO mb 8 [.ref ta, .ref so, .ref to, .ref ro, .ref tr, .ref pl, .ref mo, .ref ra], gO ro 5 [.ref lo, .ref cp, .ref sp, .int (nI yr)], gO pl 2 [.ref px, .ref py, .ref pw, .ref pc_, .ref pb, .int (nI pn)], gI g px 20 ex, gI g py 20 ey, gI g pw 20 ew, gI g pc_ 20 ec, gI g pb 20 eb, gO cp 3 [.ref cx, .ref cy, .int (nI n)], gI g cx 48 fx, gI g cy 48 fy] := hD
    obtain rfl := hw_25
    refine g_VI (wr := [gO mb 8 [.ref ta, .ref so, .ref to, .ref ro, .ref tr, .ref pl, .ref mo, .ref ra], gO ro 5 [.ref lo, .ref cp, .ref sp, .int (nI yr)], gO cp 3 [.ref cx, .ref cy, .int (nI n)], gI g cx 48 fx, gI g cy 48 fy]) (As := [.int x, .int y, .int (nI (sideS X Y n x y))]) (rest := []) (n := 3) F (c_X2_add l g pl px py pw pc_ pb pn ex ey ew ec eb x y (nI (sideS X Y n x y)) (by omega)) gX8_plot_X2_add rfl (by decide) ⟨by decide, by decide⟩ 2 2 rfl rfl rfl rfl hl.1 rfl (Nat.le_of_ble_eq_true rfl) dX8_plot_28 ⟨Nat.le_of_ble_eq_true rfl, Nat.le_of_ble_eq_true rfl⟩ hK hP hD hS hA [2, 3, 4, 5, 6, 7] [0, 1, 8, 9, 10] (by decide) rfl rfl (by decide) (by decide) (fun r_28 u_28 H locs hw_28 hP hD hS => ?_)
    have hP : gP g [gO mb 8 [.ref ta, .ref so, .ref to, .ref ro, .ref tr, .ref pl, .ref mo, .ref ra], gO ro 5 [.ref lo, .ref cp, .ref sp, .int (nI yr)], gO cp 3 [.ref cx, .ref cy, .int (nI n)], gI g cx 48 fx, gI g cy 48 fy, gO pl 2 [.ref px, .ref py, .ref pw, .ref pc_, .ref pb, .int (nI (padN 20 pn))], gI g px 20 (padR 20 ex pn x), gI g py 20 (padR 20 ey pn y), gI g pw 20 (padR 20 ew pn (nI (sideS X Y n x y))), gI g pc_ 20 (padR 20 ec pn 0), gI g pb 20 eb] H := hP
    have hD : va_D A [gO mb 8 [.ref ta, .ref so, .ref to, .ref ro, .ref tr, .ref pl, .ref mo, .ref ra], gO ro 5 [.ref lo, .ref cp, .ref sp, .int (nI yr)], gO cp 3 [.ref cx, .ref cy, .int (nI n)], gI g cx 48 fx, gI g cy 48 fy, gO pl 2 [.ref px, .ref py, .ref pw, .ref pc_, .ref pb, .int (nI (padN 20 pn))], gI g px 20 (padR 20 ex pn x), gI g py 20 (padR 20 ey pn y), gI g pw 20 (padR 20 ew pn (nI (sideS X Y n x y))), gI g pc_ 20 (padR 20 ec pn 0), gI g pb 20 eb] := hD
    obtain rfl := hw_28
    exact hret _ _ _ _ (padA 20 pn) () dX8_plot_31 rfl (rfl) hP hD hS
  · exact absurd h b_2

def mrkP (x y z : Int32) : Prop := isW 0 511 x ∧ isW 0 511 y ∧ isW 0 60 z
abbrev rm_X8_mark : Room := { frames := 1, cells := 0, slots := 0, locals := 23 }
set_option maxHeartbeats 4000000 in
set_option maxRecDepth 100000 in
theorem c_X8_mark_n (l : Launch) (g : gT) (mb : Nat) (ta : Nat) (so : Nat) (to : Nat) (ro : Nat) (tr : Nat) (pl : Nat) (mo : Nat) (ra : Nat) (x : Int32) (y : Int32) (ye : Int32) (h : ¬ mrkP x y ye) : CtI l g yX8_mark wsX8_mark rm_X8_mark [.ref mb, .int x, .int y, .int ye] [gO mb 8 [.ref ta, .ref so, .ref to, .ref ro, .ref tr, .ref pl, .ref mo, .ref ra]] (fun (r : Int32) (_ : Unit) => r = -1) (fun (_ : Unit) => [gO mb 8 [.ref ta, .ref so, .ref to, .ref ro, .ref tr, .ref pl, .ref mo, .ref ra]]) := by
  refine CtI.of (cc := cX8_mark) (maxL := 5) (ret := .int) (by decide) rfl (Nat.le_of_ble_eq_true rfl) ?_
  intro p e s m args below meth c A Q hnm F hK hA hP hD hS hret ls hl
  have hx := F.1
  have hb := F.2.1
  have hl : lv_has ls 5 [(0, .ref mb), (1, .int x), (2, .int y), (3, .int ye)] := hl
  refine lv_iload_n hx hb dX8_mark_0 rfl (lv_at hl 1 rfl) ?_
  refine lv_iconst (v := 0) hx hb dX8_mark_1 (by decide) ?_
  refine lv_sipush (v := 511) hx hb dX8_mark_2 (by decide) ?_
  refine g_SI (wr := [gO mb 8 [.ref ta, .ref so, .ref to, .ref ro, .ref tr, .ref pl, .ref mo, .ref ra]]) (As := [.int x, .int 0, .int 511]) (rest := []) (n := 3) F (c_X8_isWithin l g x 0 511) gX8_mark_X8_isWithin rfl (by decide) ⟨by decide, by decide⟩ rfl hl.1 rfl (Nat.le_of_ble_eq_true rfl) dX8_mark_5 ⟨Nat.le_of_ble_eq_true rfl, Nat.le_of_ble_eq_true rfl⟩ hK hP hD hS hA [] [0] (by decide) rfl rfl (by decide) (by decide) (fun r_5 u_5 H locs hw_5 hP hD hS => ?_)
  have hP : gP g [gO mb 8 [.ref ta, .ref so, .ref to, .ref ro, .ref tr, .ref pl, .ref mo, .ref ra]] H := hP
  have hD : va_D A [gO mb 8 [.ref ta, .ref so, .ref to, .ref ro, .ref tr, .ref pl, .ref mo, .ref ra]] := hD
  rcases hw_5 with ⟨rfl, b_5⟩ | ⟨rfl, b_5⟩
  · refine lv_if_eq (tgt := 36) hx hb dX8_mark_8 (by decide) (fun h => absurd h (by decide)) (fun _ => ?_)
    refine lv_iload_n hx hb dX8_mark_11 rfl (lv_at hl 2 rfl) ?_
    refine lv_iconst (v := 0) hx hb dX8_mark_12 (by decide) ?_
    refine lv_sipush (v := 511) hx hb dX8_mark_13 (by decide) ?_
    refine g_SI (wr := [gO mb 8 [.ref ta, .ref so, .ref to, .ref ro, .ref tr, .ref pl, .ref mo, .ref ra]]) (As := [.int y, .int 0, .int 511]) (rest := []) (n := 3) F (c_X8_isWithin l g y 0 511) gX8_mark_X8_isWithin rfl (by decide) ⟨by decide, by decide⟩ rfl hl.1 rfl (Nat.le_of_ble_eq_true rfl) dX8_mark_16 ⟨Nat.le_of_ble_eq_true rfl, Nat.le_of_ble_eq_true rfl⟩ hK hP hD hS hA [] [0] (by decide) rfl rfl (by decide) (by decide) (fun r_16 u_16 H locs hw_16 hP hD hS => ?_)
    have hP : gP g [gO mb 8 [.ref ta, .ref so, .ref to, .ref ro, .ref tr, .ref pl, .ref mo, .ref ra]] H := hP
    have hD : va_D A [gO mb 8 [.ref ta, .ref so, .ref to, .ref ro, .ref tr, .ref pl, .ref mo, .ref ra]] := hD
    rcases hw_16 with ⟨rfl, b_16⟩ | ⟨rfl, b_16⟩
    · refine lv_if_eq (tgt := 36) hx hb dX8_mark_19 (by decide) (fun h => absurd h (by decide)) (fun _ => ?_)
      refine lv_iload_n hx hb dX8_mark_22 rfl (lv_at hl 3 rfl) ?_
      refine lv_iconst (v := 0) hx hb dX8_mark_23 (by decide) ?_
      refine lv_bipush (v := 60) hx hb dX8_mark_24 (by decide) ?_
      refine g_SI (wr := [gO mb 8 [.ref ta, .ref so, .ref to, .ref ro, .ref tr, .ref pl, .ref mo, .ref ra]]) (As := [.int ye, .int 0, .int 60]) (rest := []) (n := 3) F (c_X8_isWithin l g ye 0 60) gX8_mark_X8_isWithin rfl (by decide) ⟨by decide, by decide⟩ rfl hl.1 rfl (Nat.le_of_ble_eq_true rfl) dX8_mark_26 ⟨Nat.le_of_ble_eq_true rfl, Nat.le_of_ble_eq_true rfl⟩ hK hP hD hS hA [] [0] (by decide) rfl rfl (by decide) (by decide) (fun r_26 u_26 H locs hw_26 hP hD hS => ?_)
      have hP : gP g [gO mb 8 [.ref ta, .ref so, .ref to, .ref ro, .ref tr, .ref pl, .ref mo, .ref ra]] H := hP
      have hD : va_D A [gO mb 8 [.ref ta, .ref so, .ref to, .ref ro, .ref tr, .ref pl, .ref mo, .ref ra]] := hD
      rcases hw_26 with ⟨rfl, b_26⟩ | ⟨rfl, b_26⟩
      · refine lv_if_eq (tgt := 36) hx hb dX8_mark_29 (by decide) (fun h => absurd h (by decide)) (fun _ => ?_)
        exact absurd ⟨b_5, b_16, b_26⟩ h
      · refine lv_if_eq (tgt := 36) hx hb dX8_mark_29 (by decide) (fun _ => ?_) (fun h => absurd (by decide) h)
        refine lv_iconst (v := 0) hx hb dX8_mark_36 (by decide) ?_
        refine lv_istore (lv' := [(4, .int 0), (0, .ref mb), (1, .int x), (2, .int y), (3, .int ye)]) hx hb dX8_mark_37 hl (by decide) rfl (fun ls hl => ?_)
        refine lv_iload hx hb dX8_mark_39 (lv_at hl 0 rfl) ?_
        refine lv_if_eq (tgt := 57) hx hb dX8_mark_41 (by decide) (fun _ => ?_) (fun h => absurd (by decide) h)
        refine lv_iconst (v := (-1)) hx hb dX8_mark_57 (by decide) ?_
        exact hret _ _ _ _ (-1) () dX8_mark_58 rfl (rfl) hP hD hS
    · refine lv_if_eq (tgt := 36) hx hb dX8_mark_19 (by decide) (fun _ => ?_) (fun h => absurd (by decide) h)
      refine lv_iconst (v := 0) hx hb dX8_mark_36 (by decide) ?_
      refine lv_istore (lv' := [(4, .int 0), (0, .ref mb), (1, .int x), (2, .int y), (3, .int ye)]) hx hb dX8_mark_37 hl (by decide) rfl (fun ls hl => ?_)
      refine lv_iload hx hb dX8_mark_39 (lv_at hl 0 rfl) ?_
      refine lv_if_eq (tgt := 57) hx hb dX8_mark_41 (by decide) (fun _ => ?_) (fun h => absurd (by decide) h)
      refine lv_iconst (v := (-1)) hx hb dX8_mark_57 (by decide) ?_
      exact hret _ _ _ _ (-1) () dX8_mark_58 rfl (rfl) hP hD hS
  · refine lv_if_eq (tgt := 36) hx hb dX8_mark_8 (by decide) (fun _ => ?_) (fun h => absurd (by decide) h)
    refine lv_iconst (v := 0) hx hb dX8_mark_36 (by decide) ?_
    refine lv_istore (lv' := [(4, .int 0), (0, .ref mb), (1, .int x), (2, .int y), (3, .int ye)]) hx hb dX8_mark_37 hl (by decide) rfl (fun ls hl => ?_)
    refine lv_iload hx hb dX8_mark_39 (lv_at hl 0 rfl) ?_
    refine lv_if_eq (tgt := 57) hx hb dX8_mark_41 (by decide) (fun _ => ?_) (fun h => absurd (by decide) h)
    refine lv_iconst (v := (-1)) hx hb dX8_mark_57 (by decide) ?_
    exact hret _ _ _ _ (-1) () dX8_mark_58 rfl (rfl) hP hD hS

theorem i_X8_mark_X8 : ∀ w ∈ wsX80, w ∈ wsX8_mark := by decide +kernel
theorem k_X8_mark_f50 : Cond.fieldLink RX8 50 (TX8 6).1 (TX8 6).2.1 (TX8 6).2.2.1 ∈ wsX8_mark := by decide +kernel
set_option maxHeartbeats 4000000 in
set_option maxRecDepth 100000 in
theorem c_X8_mark_y (l : Launch) (g : gT) (mb : Nat) (ta : Nat) (so : Nat) (to : Nat) (ro : Nat) (tr : Nat) (pl : Nat) (mo : Nat) (ra : Nat) (mx : Nat) (my : Nat) (mz : Nat) (mn : Nat) (tol : Int32) (ax0 : Nat → Int32) (ay0 : Nat → Int32) (az0 : Nat → Int32) (x : Int32) (y : Int32) (ye : Int32) (hmn : mn ≤ 30) (h : mrkP x y ye) : CtI l g yX8_mark wsX8_mark rm_X8_mark [.ref mb, .int x, .int y, .int ye] [gO mb 8 [.ref ta, .ref so, .ref to, .ref ro, .ref tr, .ref pl, .ref mo, .ref ra], gO mo 1 [.ref mx, .ref my, .ref mz, .int (nI mn), .int tol], gI g mx 30 ax0, gI g my 30 ay0, gI g mz 30 az0] (fun (r : Int32) (_ : Unit) => r = padA 30 mn) (fun (_ : Unit) => [gO mb 8 [.ref ta, .ref so, .ref to, .ref ro, .ref tr, .ref pl, .ref mo, .ref ra], gO mo 1 [.ref mx, .ref my, .ref mz, .int (nI (padN 30 mn)), .int tol], gI g mx 30 (padR 30 ax0 mn x), gI g my 30 (padR 30 ay0 mn y), gI g mz 30 (padR 30 az0 mn ye)]) := by
  refine CtI.of (cc := cX8_mark) (maxL := 5) (ret := .int) (by decide) rfl (Nat.le_of_ble_eq_true rfl) ?_
  intro p e s m args below meth c A Q hnm F hK hA hP hD hS hret ls hl
  have hx := F.1
  have hb := F.2.1
  have hl : lv_has ls 5 [(0, .ref mb), (1, .int x), (2, .int y), (3, .int ye)] := hl
  refine lv_iload_n hx hb dX8_mark_0 rfl (lv_at hl 1 rfl) ?_
  refine lv_iconst (v := 0) hx hb dX8_mark_1 (by decide) ?_
  refine lv_sipush (v := 511) hx hb dX8_mark_2 (by decide) ?_
  refine g_SI (wr := [gO mb 8 [.ref ta, .ref so, .ref to, .ref ro, .ref tr, .ref pl, .ref mo, .ref ra], gO mo 1 [.ref mx, .ref my, .ref mz, .int (nI mn), .int tol], gI g mx 30 ax0, gI g my 30 ay0, gI g mz 30 az0]) (As := [.int x, .int 0, .int 511]) (rest := []) (n := 3) F (c_X8_isWithin l g x 0 511) gX8_mark_X8_isWithin rfl (by decide) ⟨by decide, by decide⟩ rfl hl.1 rfl (Nat.le_of_ble_eq_true rfl) dX8_mark_5 ⟨Nat.le_of_ble_eq_true rfl, Nat.le_of_ble_eq_true rfl⟩ hK hP hD hS hA [] [0, 1, 2, 3, 4] (by decide) rfl rfl (by decide) (by decide) (fun r_5 u_5 H locs hw_5 hP hD hS => ?_)
  have hP : gP g [gO mb 8 [.ref ta, .ref so, .ref to, .ref ro, .ref tr, .ref pl, .ref mo, .ref ra], gO mo 1 [.ref mx, .ref my, .ref mz, .int (nI mn), .int tol], gI g mx 30 ax0, gI g my 30 ay0, gI g mz 30 az0] H := hP
  have hD : va_D A [gO mb 8 [.ref ta, .ref so, .ref to, .ref ro, .ref tr, .ref pl, .ref mo, .ref ra], gO mo 1 [.ref mx, .ref my, .ref mz, .int (nI mn), .int tol], gI g mx 30 ax0, gI g my 30 ay0, gI g mz 30 az0] := hD
  rcases hw_5 with ⟨rfl, b_5⟩ | ⟨rfl, b_5⟩
  · refine lv_if_eq (tgt := 36) hx hb dX8_mark_8 (by decide) (fun h => absurd h (by decide)) (fun _ => ?_)
    refine lv_iload_n hx hb dX8_mark_11 rfl (lv_at hl 2 rfl) ?_
    refine lv_iconst (v := 0) hx hb dX8_mark_12 (by decide) ?_
    refine lv_sipush (v := 511) hx hb dX8_mark_13 (by decide) ?_
    refine g_SI (wr := [gO mb 8 [.ref ta, .ref so, .ref to, .ref ro, .ref tr, .ref pl, .ref mo, .ref ra], gO mo 1 [.ref mx, .ref my, .ref mz, .int (nI mn), .int tol], gI g mx 30 ax0, gI g my 30 ay0, gI g mz 30 az0]) (As := [.int y, .int 0, .int 511]) (rest := []) (n := 3) F (c_X8_isWithin l g y 0 511) gX8_mark_X8_isWithin rfl (by decide) ⟨by decide, by decide⟩ rfl hl.1 rfl (Nat.le_of_ble_eq_true rfl) dX8_mark_16 ⟨Nat.le_of_ble_eq_true rfl, Nat.le_of_ble_eq_true rfl⟩ hK hP hD hS hA [] [0, 1, 2, 3, 4] (by decide) rfl rfl (by decide) (by decide) (fun r_16 u_16 H locs hw_16 hP hD hS => ?_)
    have hP : gP g [gO mb 8 [.ref ta, .ref so, .ref to, .ref ro, .ref tr, .ref pl, .ref mo, .ref ra], gO mo 1 [.ref mx, .ref my, .ref mz, .int (nI mn), .int tol], gI g mx 30 ax0, gI g my 30 ay0, gI g mz 30 az0] H := hP
    have hD : va_D A [gO mb 8 [.ref ta, .ref so, .ref to, .ref ro, .ref tr, .ref pl, .ref mo, .ref ra], gO mo 1 [.ref mx, .ref my, .ref mz, .int (nI mn), .int tol], gI g mx 30 ax0, gI g my 30 ay0, gI g mz 30 az0] := hD
    rcases hw_16 with ⟨rfl, b_16⟩ | ⟨rfl, b_16⟩
    · refine lv_if_eq (tgt := 36) hx hb dX8_mark_19 (by decide) (fun h => absurd h (by decide)) (fun _ => ?_)
      refine lv_iload_n hx hb dX8_mark_22 rfl (lv_at hl 3 rfl) ?_
      refine lv_iconst (v := 0) hx hb dX8_mark_23 (by decide) ?_
      refine lv_bipush (v := 60) hx hb dX8_mark_24 (by decide) ?_
      refine g_SI (wr := [gO mb 8 [.ref ta, .ref so, .ref to, .ref ro, .ref tr, .ref pl, .ref mo, .ref ra], gO mo 1 [.ref mx, .ref my, .ref mz, .int (nI mn), .int tol], gI g mx 30 ax0, gI g my 30 ay0, gI g mz 30 az0]) (As := [.int ye, .int 0, .int 60]) (rest := []) (n := 3) F (c_X8_isWithin l g ye 0 60) gX8_mark_X8_isWithin rfl (by decide) ⟨by decide, by decide⟩ rfl hl.1 rfl (Nat.le_of_ble_eq_true rfl) dX8_mark_26 ⟨Nat.le_of_ble_eq_true rfl, Nat.le_of_ble_eq_true rfl⟩ hK hP hD hS hA [] [0, 1, 2, 3, 4] (by decide) rfl rfl (by decide) (by decide) (fun r_26 u_26 H locs hw_26 hP hD hS => ?_)
      have hP : gP g [gO mb 8 [.ref ta, .ref so, .ref to, .ref ro, .ref tr, .ref pl, .ref mo, .ref ra], gO mo 1 [.ref mx, .ref my, .ref mz, .int (nI mn), .int tol], gI g mx 30 ax0, gI g my 30 ay0, gI g mz 30 az0] H := hP
      have hD : va_D A [gO mb 8 [.ref ta, .ref so, .ref to, .ref ro, .ref tr, .ref pl, .ref mo, .ref ra], gO mo 1 [.ref mx, .ref my, .ref mz, .int (nI mn), .int tol], gI g mx 30 ax0, gI g my 30 ay0, gI g mz 30 az0] := hD
      rcases hw_26 with ⟨rfl, b_26⟩ | ⟨rfl, b_26⟩
      · refine lv_if_eq (tgt := 36) hx hb dX8_mark_29 (by decide) (fun h => absurd h (by decide)) (fun _ => ?_)
        refine lv_iconst (v := 1) hx hb dX8_mark_32 (by decide) ?_
        refine lv_goto (tgt := 37) hx hb dX8_mark_33 (by decide) ?_
        refine lv_istore (lv' := [(4, .int 1), (0, .ref mb), (1, .int x), (2, .int y), (3, .int ye)]) hx hb dX8_mark_37 hl (by decide) rfl (fun ls hl => ?_)
        refine lv_iload hx hb dX8_mark_39 (lv_at hl 0 rfl) ?_
        refine lv_if_eq (tgt := 57) hx hb dX8_mark_41 (by decide) (fun h => absurd h (by decide)) (fun _ => ?_)
        refine lv_aload_n hx hb dX8_mark_44 rfl (lv_at hl 1 rfl) ?_
        refine g_get (C := RX8) (T := TX8) (N := 8) F hK hP i_X8_mark_X8 0 rfl rfl 6 (by decide) k_X8_mark_f50 (v := .ref mo) rfl dX8_mark_45 ?_
        refine lv_iload_n hx hb dX8_mark_48 rfl (lv_at hl 2 rfl) ?_
        refine lv_iload_n hx hb dX8_mark_49 rfl (lv_at hl 3 rfl) ?_
        refine lv_iload_n hx hb dX8_mark_50 rfl (lv_at hl 4 rfl) ?_
        refine g_VI (wr := [gO mb 8 [.ref ta, .ref so, .ref to, .ref ro, .ref tr, .ref pl, .ref mo, .ref ra]]) (As := [.int x, .int y, .int ye]) (rest := []) (n := 3) F (c_X1_add l g mo mx my mz mn tol ax0 ay0 az0 x y ye (by omega)) gX8_mark_X1_add rfl (by decide) ⟨by decide, by decide⟩ 1 1 rfl rfl rfl rfl hl.1 rfl (Nat.le_of_ble_eq_true rfl) dX8_mark_51 ⟨Nat.le_of_ble_eq_true rfl, Nat.le_of_ble_eq_true rfl⟩ hK hP hD hS hA [1, 2, 3, 4] [0] (by decide) rfl rfl (by decide) (by decide) (fun r_51 u_51 H locs hw_51 hP hD hS => ?_)
        have hP : gP g [gO mb 8 [.ref ta, .ref so, .ref to, .ref ro, .ref tr, .ref pl, .ref mo, .ref ra], gO mo 1 [.ref mx, .ref my, .ref mz, .int (nI (padN 30 mn)), .int tol], gI g mx 30 (padR 30 ax0 mn x), gI g my 30 (padR 30 ay0 mn y), gI g mz 30 (padR 30 az0 mn ye)] H := hP
        have hD : va_D A [gO mb 8 [.ref ta, .ref so, .ref to, .ref ro, .ref tr, .ref pl, .ref mo, .ref ra], gO mo 1 [.ref mx, .ref my, .ref mz, .int (nI (padN 30 mn)), .int tol], gI g mx 30 (padR 30 ax0 mn x), gI g my 30 (padR 30 ay0 mn y), gI g mz 30 (padR 30 az0 mn ye)] := hD
        obtain rfl := hw_51
        refine lv_goto (tgt := 58) hx hb dX8_mark_54 (by decide) ?_
        exact hret _ _ _ _ (padA 30 mn) () dX8_mark_58 rfl (rfl) hP hD hS
      · refine lv_if_eq (tgt := 36) hx hb dX8_mark_29 (by decide) (fun _ => ?_) (fun h => absurd (by decide) h)
        exact absurd h.2.2 b_26
    · refine lv_if_eq (tgt := 36) hx hb dX8_mark_19 (by decide) (fun _ => ?_) (fun h => absurd (by decide) h)
      exact absurd h.2.1 b_16
  · refine lv_if_eq (tgt := 36) hx hb dX8_mark_8 (by decide) (fun _ => ?_) (fun h => absurd (by decide) h)
    exact absurd h.1 b_5

abbrev rm_X8_marks : Room := { frames := 1, cells := 0, slots := 0, locals := 22 }
set_option maxHeartbeats 4000000 in
set_option maxRecDepth 100000 in
theorem c_X8_marks_n (l : Launch) (g : gT) (mb : Nat) (ta : Nat) (so : Nat) (to : Nat) (ro : Nat) (tr : Nat) (pl : Nat) (mo : Nat) (ra : Nat) (v : Int32) (h : ¬ isW 0 50 v) : CtI l g yX8_marks wsX8_marks rm_X8_marks [.ref mb, .int v] [gO mb 8 [.ref ta, .ref so, .ref to, .ref ro, .ref tr, .ref pl, .ref mo, .ref ra]] (fun (r : Int32) (_ : Unit) => r = 0) (fun (_ : Unit) => [gO mb 8 [.ref ta, .ref so, .ref to, .ref ro, .ref tr, .ref pl, .ref mo, .ref ra]]) := by
  refine CtI.of (cc := cX8_marks) (maxL := 2) (ret := .boolean) (by decide) rfl (Nat.le_of_ble_eq_true rfl) ?_
  intro p e s m args below meth c A Q hnm F hK hA hP hD hS hret ls hl
  have hx := F.1
  have hb := F.2.1
  have hl : lv_has ls 2 [(0, .ref mb), (1, .int v)] := hl
  refine lv_iload_n hx hb dX8_marks_0 rfl (lv_at hl 1 rfl) ?_
  refine lv_iconst (v := 0) hx hb dX8_marks_1 (by decide) ?_
  refine lv_bipush (v := 50) hx hb dX8_marks_2 (by decide) ?_
  refine g_SI (wr := [gO mb 8 [.ref ta, .ref so, .ref to, .ref ro, .ref tr, .ref pl, .ref mo, .ref ra]]) (As := [.int v, .int 0, .int 50]) (rest := []) (n := 3) F (c_X8_isWithin l g v 0 50) gX8_marks_X8_isWithin rfl (by decide) ⟨by decide, by decide⟩ rfl hl.1 rfl (Nat.le_of_ble_eq_true rfl) dX8_marks_4 ⟨Nat.le_of_ble_eq_true rfl, Nat.le_of_ble_eq_true rfl⟩ hK hP hD hS hA [] [0] (by decide) rfl rfl (by decide) (by decide) (fun r_4 u_4 H locs hw_4 hP hD hS => ?_)
  have hP : gP g [gO mb 8 [.ref ta, .ref so, .ref to, .ref ro, .ref tr, .ref pl, .ref mo, .ref ra]] H := hP
  have hD : va_D A [gO mb 8 [.ref ta, .ref so, .ref to, .ref ro, .ref tr, .ref pl, .ref mo, .ref ra]] := hD
  rcases hw_4 with ⟨rfl, b_4⟩ | ⟨rfl, b_4⟩
  · exact absurd b_4 h
  · refine lv_if_ne (tgt := 12) hx hb dX8_marks_7 (by decide) (fun h => absurd (by decide) h) (fun _ => ?_)
    refine lv_iconst (v := 0) hx hb dX8_marks_10 (by decide) ?_
    exact hret _ _ _ _ 0 () dX8_marks_11 rfl (rfl) hP hD hS

theorem i_X8_marks_X8 : ∀ w ∈ wsX80, w ∈ wsX8_marks := by decide +kernel
theorem k_X8_marks_f50 : Cond.fieldLink RX8 50 (TX8 6).1 (TX8 6).2.1 (TX8 6).2.2.1 ∈ wsX8_marks := by decide +kernel
theorem i_X8_marks_X1 : ∀ w ∈ wsX10, w ∈ wsX8_marks := by decide +kernel
theorem k_X8_marks_f204 : Cond.fieldLink RX8 204 (TX1 3).1 (TX1 3).2.1 (TX1 3).2.2.1 ∈ wsX8_marks := by decide +kernel
theorem k_X8_marks_f205 : Cond.fieldLink RX8 205 (TX1 4).1 (TX1 4).2.1 (TX1 4).2.2.1 ∈ wsX8_marks := by decide +kernel
set_option maxHeartbeats 4000000 in
set_option maxRecDepth 100000 in
theorem c_X8_marks_y (l : Launch) (g : gT) (mb : Nat) (ta : Nat) (so : Nat) (to : Nat) (ro : Nat) (tr : Nat) (pl : Nat) (mo : Nat) (ra : Nat) (mx : Nat) (my : Nat) (mz : Nat) (mn : Nat) (tol : Int32) (ax0 : Nat → Int32) (ay0 : Nat → Int32) (az0 : Nat → Int32) (v : Int32) (h : isW 0 50 v) : CtI l g yX8_marks wsX8_marks rm_X8_marks [.ref mb, .int v] [gO mb 8 [.ref ta, .ref so, .ref to, .ref ro, .ref tr, .ref pl, .ref mo, .ref ra], gO mo 1 [.ref mx, .ref my, .ref mz, .int (nI mn), .int tol]] (fun (r : Int32) (_ : Unit) => r = 1) (fun (_ : Unit) => [gO mb 8 [.ref ta, .ref so, .ref to, .ref ro, .ref tr, .ref pl, .ref mo, .ref ra], gO mo 1 [.ref mx, .ref my, .ref mz, .int 0, .int v]]) := by
  refine CtI.of (cc := cX8_marks) (maxL := 2) (ret := .boolean) (by decide) rfl (Nat.le_of_ble_eq_true rfl) ?_
  intro p e s m args below meth c A Q hnm F hK hA hP hD hS hret ls hl
  have hx := F.1
  have hb := F.2.1
  have hl : lv_has ls 2 [(0, .ref mb), (1, .int v)] := hl
  refine lv_iload_n hx hb dX8_marks_0 rfl (lv_at hl 1 rfl) ?_
  refine lv_iconst (v := 0) hx hb dX8_marks_1 (by decide) ?_
  refine lv_bipush (v := 50) hx hb dX8_marks_2 (by decide) ?_
  refine g_SI (wr := [gO mb 8 [.ref ta, .ref so, .ref to, .ref ro, .ref tr, .ref pl, .ref mo, .ref ra], gO mo 1 [.ref mx, .ref my, .ref mz, .int (nI mn), .int tol]]) (As := [.int v, .int 0, .int 50]) (rest := []) (n := 3) F (c_X8_isWithin l g v 0 50) gX8_marks_X8_isWithin rfl (by decide) ⟨by decide, by decide⟩ rfl hl.1 rfl (Nat.le_of_ble_eq_true rfl) dX8_marks_4 ⟨Nat.le_of_ble_eq_true rfl, Nat.le_of_ble_eq_true rfl⟩ hK hP hD hS hA [] [0, 1] (by decide) rfl rfl (by decide) (by decide) (fun r_4 u_4 H locs hw_4 hP hD hS => ?_)
  have hP : gP g [gO mb 8 [.ref ta, .ref so, .ref to, .ref ro, .ref tr, .ref pl, .ref mo, .ref ra], gO mo 1 [.ref mx, .ref my, .ref mz, .int (nI mn), .int tol]] H := hP
  have hD : va_D A [gO mb 8 [.ref ta, .ref so, .ref to, .ref ro, .ref tr, .ref pl, .ref mo, .ref ra], gO mo 1 [.ref mx, .ref my, .ref mz, .int (nI mn), .int tol]] := hD
  rcases hw_4 with ⟨rfl, b_4⟩ | ⟨rfl, b_4⟩
  · refine lv_if_ne (tgt := 12) hx hb dX8_marks_7 (by decide) (fun _ => ?_) (fun h => absurd h (by decide))
    refine lv_aload_n hx hb dX8_marks_12 rfl (lv_at hl 0 rfl) ?_
    refine g_get (C := RX8) (T := TX8) (N := 8) F hK hP i_X8_marks_X8 0 rfl rfl 6 (by decide) k_X8_marks_f50 (v := .ref mo) rfl dX8_marks_13 ?_
    refine lv_iconst (v := 0) hx hb dX8_marks_16 (by decide) ?_
    refine g_put (C := RX1) (T := TX1) (N := 5) (ws2 := [gO mb 8 [.ref ta, .ref so, .ref to, .ref ro, .ref tr, .ref pl, .ref mo, .ref ra], gO mo 1 [.ref mx, .ref my, .ref mz, .int 0, .int tol]]) F hK hP hD hS i_X8_marks_X1 tyX1 tyX1_ok nmX1 1 rfl rfl 3 (by decide) k_X8_marks_f204 rfl (v := .int 0) rfl rfl (Nat.le_of_ble_eq_true rfl) rfl dX8_marks_17 (fun H locs hP hD hS => ?_)
    refine lv_aload_n hx hb dX8_marks_20 rfl (lv_at hl 0 rfl) ?_
    refine g_get (C := RX8) (T := TX8) (N := 8) F hK hP i_X8_marks_X8 0 rfl rfl 6 (by decide) k_X8_marks_f50 (v := .ref mo) rfl dX8_marks_21 ?_
    refine lv_iload_n hx hb dX8_marks_24 rfl (lv_at hl 1 rfl) ?_
    refine g_put (C := RX1) (T := TX1) (N := 5) (ws2 := [gO mb 8 [.ref ta, .ref so, .ref to, .ref ro, .ref tr, .ref pl, .ref mo, .ref ra], gO mo 1 [.ref mx, .ref my, .ref mz, .int 0, .int v]]) F hK hP hD hS i_X8_marks_X1 tyX1 tyX1_ok nmX1 1 rfl rfl 4 (by decide) k_X8_marks_f205 rfl (v := .int v) rfl rfl (Nat.le_of_ble_eq_true rfl) rfl dX8_marks_25 (fun H locs hP hD hS => ?_)
    refine lv_iconst (v := 1) hx hb dX8_marks_28 (by decide) ?_
    exact hret _ _ _ _ 1 () dX8_marks_29 rfl (rfl) hP hD hS
  · exact absurd h b_4

abbrev rm_X8_rate : Room := { frames := 1, cells := 0, slots := 0, locals := 22 }
theorem i_X8_rate_X8 : ∀ w ∈ wsX80, w ∈ wsX8_rate := by decide +kernel
theorem k_X8_rate_f57 : Cond.fieldLink RX8 57 (TX8 7).1 (TX8 7).2.1 (TX8 7).2.2.1 ∈ wsX8_rate := by decide +kernel
theorem i_X8_rate_X4 : ∀ w ∈ wsX40, w ∈ wsX8_rate := by decide +kernel
theorem k_X8_rate_f208 : Cond.fieldLink RX8 208 (TX4 1).1 (TX4 1).2.1 (TX4 1).2.2.1 ∈ wsX8_rate := by decide +kernel
set_option maxHeartbeats 4000000 in
set_option maxRecDepth 100000 in
theorem c_X8_rate_n (l : Launch) (g : gT) (mb : Nat) (ta : Nat) (so : Nat) (to : Nat) (ro : Nat) (tr : Nat) (pl : Nat) (mo : Nat) (ra : Nat) (rv : Nat) (rn : Nat) (fr : Nat → Int32) (v : Int32) (h : ¬ isW 0 (nI rn - 1) v) : CtI l g yX8_rate wsX8_rate rm_X8_rate [.ref mb, .int v] [gO mb 8 [.ref ta, .ref so, .ref to, .ref ro, .ref tr, .ref pl, .ref mo, .ref ra], gO ra 4 [.ref rv, .int (nI rn)], gI g rv 20 fr] (fun (r : Int32) (_ : Unit) => r = -1) (fun (_ : Unit) => [gO mb 8 [.ref ta, .ref so, .ref to, .ref ro, .ref tr, .ref pl, .ref mo, .ref ra], gO ra 4 [.ref rv, .int (nI rn)], gI g rv 20 fr]) := by
  refine CtI.of (cc := cX8_rate) (maxL := 2) (ret := .int) (by decide) rfl (Nat.le_of_ble_eq_true rfl) ?_
  intro p e s m args below meth c A Q hnm F hK hA hP hD hS hret ls hl
  have hx := F.1
  have hb := F.2.1
  have hl : lv_has ls 2 [(0, .ref mb), (1, .int v)] := hl
  refine lv_iload_n hx hb dX8_rate_0 rfl (lv_at hl 1 rfl) ?_
  refine lv_iconst (v := 0) hx hb dX8_rate_1 (by decide) ?_
  refine lv_aload_n hx hb dX8_rate_2 rfl (lv_at hl 0 rfl) ?_
  refine g_get (C := RX8) (T := TX8) (N := 8) F hK hP i_X8_rate_X8 0 rfl rfl 7 (by decide) k_X8_rate_f57 (v := .ref ra) rfl dX8_rate_3 ?_
  refine g_get (C := RX4) (T := TX4) (N := 2) F hK hP i_X8_rate_X4 1 rfl rfl 1 (by decide) k_X8_rate_f208 (v := .int (nI rn)) rfl dX8_rate_6 ?_
  refine lv_iconst (v := 1) hx hb dX8_rate_9 (by decide) ?_
  refine lv_isub hx hb dX8_rate_10 ?_
  refine g_SI (wr := [gO mb 8 [.ref ta, .ref so, .ref to, .ref ro, .ref tr, .ref pl, .ref mo, .ref ra], gO ra 4 [.ref rv, .int (nI rn)], gI g rv 20 fr]) (As := [.int v, .int 0, .int ((nI rn) - 1)]) (rest := []) (n := 3) F (c_X8_isWithin l g v 0 ((nI rn) - 1)) gX8_rate_X8_isWithin rfl (by decide) ⟨by decide, by decide⟩ rfl hl.1 rfl (Nat.le_of_ble_eq_true rfl) dX8_rate_11 ⟨Nat.le_of_ble_eq_true rfl, Nat.le_of_ble_eq_true rfl⟩ hK hP hD hS hA [] [0, 1, 2] (by decide) rfl rfl (by decide) (by decide) (fun r_11 u_11 H locs hw_11 hP hD hS => ?_)
  have hP : gP g [gO mb 8 [.ref ta, .ref so, .ref to, .ref ro, .ref tr, .ref pl, .ref mo, .ref ra], gO ra 4 [.ref rv, .int (nI rn)], gI g rv 20 fr] H := hP
  have hD : va_D A [gO mb 8 [.ref ta, .ref so, .ref to, .ref ro, .ref tr, .ref pl, .ref mo, .ref ra], gO ra 4 [.ref rv, .int (nI rn)], gI g rv 20 fr] := hD
  rcases hw_11 with ⟨rfl, b_11⟩ | ⟨rfl, b_11⟩
  · exact absurd b_11 h
  · refine lv_if_eq (tgt := 29) hx hb dX8_rate_14 (by decide) (fun _ => ?_) (fun h => absurd (by decide) h)
    refine lv_iconst (v := (-1)) hx hb dX8_rate_29 (by decide) ?_
    exact hret _ _ _ _ (-1) () dX8_rate_30 rfl (rfl) hP hD hS

theorem k_X8_rate_f215 : Cond.fieldLink RX8 215 (TX4 0).1 (TX4 0).2.1 (TX4 0).2.2.1 ∈ wsX8_rate := by decide +kernel
set_option maxHeartbeats 4000000 in
set_option maxRecDepth 100000 in
theorem c_X8_rate_y (l : Launch) (g : gT) (mb : Nat) (ta : Nat) (so : Nat) (to : Nat) (ro : Nat) (tr : Nat) (pl : Nat) (mo : Nat) (ra : Nat) (rv : Nat) (rn : Nat) (fr : Nat → Int32) (j : Nat) (hrn : rn ≤ 20) (h : j < rn) : CtI l g yX8_rate wsX8_rate rm_X8_rate [.ref mb, .int (nI j)] [gO mb 8 [.ref ta, .ref so, .ref to, .ref ro, .ref tr, .ref pl, .ref mo, .ref ra], gO ra 4 [.ref rv, .int (nI rn)], gI g rv 20 fr] (fun (r : Int32) (_ : Unit) => r = fr j) (fun (_ : Unit) => [gO mb 8 [.ref ta, .ref so, .ref to, .ref ro, .ref tr, .ref pl, .ref mo, .ref ra], gO ra 4 [.ref rv, .int (nI rn)], gI g rv 20 fr]) := by
  refine CtI.of (cc := cX8_rate) (maxL := 2) (ret := .int) (by decide) rfl (Nat.le_of_ble_eq_true rfl) ?_
  intro p e s m args below meth c A Q hnm F hK hA hP hD hS hret ls hl
  have hx := F.1
  have hb := F.2.1
  have hl : lv_has ls 2 [(0, .ref mb), (1, .int (nI j))] := hl
  refine lv_iload_n hx hb dX8_rate_0 rfl (lv_at hl 1 rfl) ?_
  refine lv_iconst (v := 0) hx hb dX8_rate_1 (by decide) ?_
  refine lv_aload_n hx hb dX8_rate_2 rfl (lv_at hl 0 rfl) ?_
  refine g_get (C := RX8) (T := TX8) (N := 8) F hK hP i_X8_rate_X8 0 rfl rfl 7 (by decide) k_X8_rate_f57 (v := .ref ra) rfl dX8_rate_3 ?_
  refine g_get (C := RX4) (T := TX4) (N := 2) F hK hP i_X8_rate_X4 1 rfl rfl 1 (by decide) k_X8_rate_f208 (v := .int (nI rn)) rfl dX8_rate_6 ?_
  refine lv_iconst (v := 1) hx hb dX8_rate_9 (by decide) ?_
  refine n_isub (a := rn) (b := 1) (d := rn - 1) hx hb dX8_rate_10 (by omega) (by omega) ?_
  refine g_SI (wr := [gO mb 8 [.ref ta, .ref so, .ref to, .ref ro, .ref tr, .ref pl, .ref mo, .ref ra], gO ra 4 [.ref rv, .int (nI rn)], gI g rv 20 fr]) (As := [.int (nI j), .int 0, .int (nI (rn - 1))]) (rest := []) (n := 3) F (c_X8_isWithin l g (nI j) 0 (nI (rn - 1))) gX8_rate_X8_isWithin rfl (by decide) ⟨by decide, by decide⟩ rfl hl.1 rfl (Nat.le_of_ble_eq_true rfl) dX8_rate_11 ⟨Nat.le_of_ble_eq_true rfl, Nat.le_of_ble_eq_true rfl⟩ hK hP hD hS hA [] [0, 1, 2] (by decide) rfl rfl (by decide) (by decide) (fun r_11 u_11 H locs hw_11 hP hD hS => ?_)
  have hP : gP g [gO mb 8 [.ref ta, .ref so, .ref to, .ref ro, .ref tr, .ref pl, .ref mo, .ref ra], gO ra 4 [.ref rv, .int (nI rn)], gI g rv 20 fr] H := hP
  have hD : va_D A [gO mb 8 [.ref ta, .ref so, .ref to, .ref ro, .ref tr, .ref pl, .ref mo, .ref ra], gO ra 4 [.ref rv, .int (nI rn)], gI g rv 20 fr] := hD
  rcases hw_11 with ⟨rfl, b_11⟩ | ⟨rfl, b_11⟩
  · refine lv_if_eq (tgt := 29) hx hb dX8_rate_14 (by decide) (fun h => absurd h (by decide)) (fun _ => ?_)
    refine lv_aload_n hx hb dX8_rate_17 rfl (lv_at hl 0 rfl) ?_
    refine g_get (C := RX8) (T := TX8) (N := 8) F hK hP i_X8_rate_X8 0 rfl rfl 7 (by decide) k_X8_rate_f57 (v := .ref ra) rfl dX8_rate_18 ?_
    refine g_get (C := RX4) (T := TX4) (N := 2) F hK hP i_X8_rate_X4 1 rfl rfl 0 (by decide) k_X8_rate_f215 (v := .ref rv) rfl dX8_rate_21 ?_
    refine lv_iload_n hx hb dX8_rate_24 rfl (lv_at hl 1 rfl) ?_
    refine g_iald (i := j) (v := (fr j)) hx hb hK hP 2 rfl (by decide) (by omega) (rfl) dX8_rate_25 ?_
    refine lv_goto (tgt := 30) hx hb dX8_rate_26 (by decide) ?_
    exact hret _ _ _ _ (fr j) () dX8_rate_30 rfl (rfl) hP hD hS
  · exact absurd ((isW_n (a := 0) (by decide) (by omega) (by omega)).mpr ⟨Nat.zero_le _, by omega⟩) b_11

abbrev rm_X8_count : Room := { frames := 2, cells := 0, slots := 0, locals := 43 }
set_option maxHeartbeats 4000000 in
set_option maxRecDepth 100000 in
theorem c_X8_count_n (l : Launch) (g : gT) (mb : Nat) (ta : Nat) (so : Nat) (to : Nat) (ro : Nat) (tr : Nat) (pl : Nat) (mo : Nat) (ra : Nat) (v : Int32) (h : v.toInt < 0 ∨ 6 < v.toInt) : CtI l g yX8_count wsX8_count rm_X8_count [.ref mb, .int v] [gO mb 8 [.ref ta, .ref so, .ref to, .ref ro, .ref tr, .ref pl, .ref mo, .ref ra]] (fun (r : Int32) (_ : Unit) => r = -1) (fun (_ : Unit) => [gO mb 8 [.ref ta, .ref so, .ref to, .ref ro, .ref tr, .ref pl, .ref mo, .ref ra]]) := by
  refine CtI.of (cc := cX8_count) (maxL := 2) (ret := .int) (by decide) rfl (Nat.le_of_ble_eq_true rfl) ?_
  intro p e s m args below meth c A Q hnm F hK hA hP hD hS hret ls hl
  have hx := F.1
  have hb := F.2.1
  have hl : lv_has ls 2 [(0, .ref mb), (1, .int v)] := hl
  refine lv_iload_n hx hb dX8_count_0 rfl (lv_at hl 1 rfl) ?_
  refine lv_tableOut (tgt := 109) hx hb dX8_count_1 (h) (by decide) ?_
  refine lv_iconst (v := (-1)) hx hb dX8_count_109 (by decide) ?_
  exact hret _ _ _ _ (-1) () dX8_count_110 rfl (rfl) hP hD hS

theorem i_X8_count_X8 : ∀ w ∈ wsX80, w ∈ wsX8_count := by decide +kernel
theorem k_X8_count_f33 : Cond.fieldLink RX8 33 (TX8 3).1 (TX8 3).2.1 (TX8 3).2.2.1 ∈ wsX8_count := by decide +kernel
theorem i_X8_count_X5 : ∀ w ∈ wsX50, w ∈ wsX8_count := by decide +kernel
theorem k_X8_count_f123 : Cond.fieldLink RX8 123 (TX5 3).1 (TX5 3).2.1 (TX5 3).2.2.1 ∈ wsX8_count := by decide +kernel
set_option maxHeartbeats 4000000 in
set_option maxRecDepth 100000 in
theorem c_X8_count_0 (l : Launch) (g : gT) (mb : Nat) (ta : Nat) (so : Nat) (to : Nat) (ro : Nat) (tr : Nat) (pl : Nat) (mo : Nat) (ra : Nat) (lo : Nat) (cp : Nat) (sp : Nat) (yr : Nat)  : CtI l g yX8_count wsX8_count rm_X8_count [.ref mb, .int 0] [gO mb 8 [.ref ta, .ref so, .ref to, .ref ro, .ref tr, .ref pl, .ref mo, .ref ra], gO ro 5 [.ref lo, .ref cp, .ref sp, .int (nI yr)]] (fun (r : Int32) (_ : Unit) => r = nI yr) (fun (_ : Unit) => [gO mb 8 [.ref ta, .ref so, .ref to, .ref ro, .ref tr, .ref pl, .ref mo, .ref ra], gO ro 5 [.ref lo, .ref cp, .ref sp, .int (nI yr)]]) := by
  refine CtI.of (cc := cX8_count) (maxL := 2) (ret := .int) (by decide) rfl (Nat.le_of_ble_eq_true rfl) ?_
  intro p e s m args below meth c A Q hnm F hK hA hP hD hS hret ls hl
  have hx := F.1
  have hb := F.2.1
  have hl : lv_has ls 2 [(0, .ref mb), (1, .int 0)] := hl
  refine lv_iload_n hx hb dX8_count_0 rfl (lv_at hl 1 rfl) ?_
  refine lv_tableIn (tgt := 44) hx hb dX8_count_1 (by decide) (by decide) rfl (by decide) ?_
  refine lv_aload_n hx hb dX8_count_44 rfl (lv_at hl 0 rfl) ?_
  refine g_get (C := RX8) (T := TX8) (N := 8) F hK hP i_X8_count_X8 0 rfl rfl 3 (by decide) k_X8_count_f33 (v := .ref ro) rfl dX8_count_45 ?_
  refine g_get (C := RX5) (T := TX5) (N := 4) F hK hP i_X8_count_X5 1 rfl rfl 3 (by decide) k_X8_count_f123 (v := .int (nI yr)) rfl dX8_count_48 ?_
  exact hret _ _ _ _ (nI yr) () dX8_count_51 rfl (rfl) hP hD hS

theorem k_X8_count_f88 : Cond.fieldLink RX8 88 (TX5 1).1 (TX5 1).2.1 (TX5 1).2.2.1 ∈ wsX8_count := by decide +kernel
theorem i_X8_count_X3 : ∀ w ∈ wsX30, w ∈ wsX8_count := by decide +kernel
theorem k_X8_count_f139 : Cond.fieldLink RX8 139 (TX3 2).1 (TX3 2).2.1 (TX3 2).2.2.1 ∈ wsX8_count := by decide +kernel
set_option maxHeartbeats 4000000 in
set_option maxRecDepth 100000 in
theorem c_X8_count_1 (l : Launch) (g : gT) (mb : Nat) (ta : Nat) (so : Nat) (to : Nat) (ro : Nat) (tr : Nat) (pl : Nat) (mo : Nat) (ra : Nat) (lo : Nat) (cp : Nat) (sp : Nat) (yr : Nat) (cx : Nat) (cy : Nat) (n : Nat)  : CtI l g yX8_count wsX8_count rm_X8_count [.ref mb, .int 1] [gO mb 8 [.ref ta, .ref so, .ref to, .ref ro, .ref tr, .ref pl, .ref mo, .ref ra], gO ro 5 [.ref lo, .ref cp, .ref sp, .int (nI yr)], gO cp 3 [.ref cx, .ref cy, .int (nI n)]] (fun (r : Int32) (_ : Unit) => r = nI n) (fun (_ : Unit) => [gO mb 8 [.ref ta, .ref so, .ref to, .ref ro, .ref tr, .ref pl, .ref mo, .ref ra], gO ro 5 [.ref lo, .ref cp, .ref sp, .int (nI yr)], gO cp 3 [.ref cx, .ref cy, .int (nI n)]]) := by
  refine CtI.of (cc := cX8_count) (maxL := 2) (ret := .int) (by decide) rfl (Nat.le_of_ble_eq_true rfl) ?_
  intro p e s m args below meth c A Q hnm F hK hA hP hD hS hret ls hl
  have hx := F.1
  have hb := F.2.1
  have hl : lv_has ls 2 [(0, .ref mb), (1, .int 1)] := hl
  refine lv_iload_n hx hb dX8_count_0 rfl (lv_at hl 1 rfl) ?_
  refine lv_tableIn (tgt := 52) hx hb dX8_count_1 (by decide) (by decide) rfl (by decide) ?_
  refine lv_aload_n hx hb dX8_count_52 rfl (lv_at hl 0 rfl) ?_
  refine g_get (C := RX8) (T := TX8) (N := 8) F hK hP i_X8_count_X8 0 rfl rfl 3 (by decide) k_X8_count_f33 (v := .ref ro) rfl dX8_count_53 ?_
  refine g_get (C := RX5) (T := TX5) (N := 4) F hK hP i_X8_count_X5 1 rfl rfl 1 (by decide) k_X8_count_f88 (v := .ref cp) rfl dX8_count_56 ?_
  refine g_get (C := RX3) (T := TX3) (N := 3) F hK hP i_X8_count_X3 2 rfl rfl 2 (by decide) k_X8_count_f139 (v := .int (nI n)) rfl dX8_count_59 ?_
  exact hret _ _ _ _ (nI n) () dX8_count_62 rfl (rfl) hP hD hS

theorem k_X8_count_f159 : Cond.fieldLink RX8 159 (TX5 0).1 (TX5 0).2.1 (TX5 0).2.2.1 ∈ wsX8_count := by decide +kernel
theorem i_X8_count_X0 : ∀ w ∈ wsX00, w ∈ wsX8_count := by decide +kernel
theorem k_X8_count_f163 : Cond.fieldLink RX8 163 (TX0 3).1 (TX0 3).2.1 (TX0 3).2.2.1 ∈ wsX8_count := by decide +kernel
set_option maxHeartbeats 4000000 in
set_option maxRecDepth 100000 in
theorem c_X8_count_2 (l : Launch) (g : gT) (mb : Nat) (ta : Nat) (so : Nat) (to : Nat) (ro : Nat) (tr : Nat) (pl : Nat) (mo : Nat) (ra : Nat) (lo : Nat) (cp : Nat) (sp : Nat) (yr : Nat) (ly : Nat) (lp : Nat) (la : Nat) (ln : Nat)  : CtI l g yX8_count wsX8_count rm_X8_count [.ref mb, .int 2] [gO mb 8 [.ref ta, .ref so, .ref to, .ref ro, .ref tr, .ref pl, .ref mo, .ref ra], gO ro 5 [.ref lo, .ref cp, .ref sp, .int (nI yr)], gO lo 0 [.ref ly, .ref lp, .ref la, .int (nI ln)]] (fun (r : Int32) (_ : Unit) => r = nI ln) (fun (_ : Unit) => [gO mb 8 [.ref ta, .ref so, .ref to, .ref ro, .ref tr, .ref pl, .ref mo, .ref ra], gO ro 5 [.ref lo, .ref cp, .ref sp, .int (nI yr)], gO lo 0 [.ref ly, .ref lp, .ref la, .int (nI ln)]]) := by
  refine CtI.of (cc := cX8_count) (maxL := 2) (ret := .int) (by decide) rfl (Nat.le_of_ble_eq_true rfl) ?_
  intro p e s m args below meth c A Q hnm F hK hA hP hD hS hret ls hl
  have hx := F.1
  have hb := F.2.1
  have hl : lv_has ls 2 [(0, .ref mb), (1, .int 2)] := hl
  refine lv_iload_n hx hb dX8_count_0 rfl (lv_at hl 1 rfl) ?_
  refine lv_tableIn (tgt := 63) hx hb dX8_count_1 (by decide) (by decide) rfl (by decide) ?_
  refine lv_aload_n hx hb dX8_count_63 rfl (lv_at hl 0 rfl) ?_
  refine g_get (C := RX8) (T := TX8) (N := 8) F hK hP i_X8_count_X8 0 rfl rfl 3 (by decide) k_X8_count_f33 (v := .ref ro) rfl dX8_count_64 ?_
  refine g_get (C := RX5) (T := TX5) (N := 4) F hK hP i_X8_count_X5 1 rfl rfl 0 (by decide) k_X8_count_f159 (v := .ref lo) rfl dX8_count_67 ?_
  refine g_get (C := RX0) (T := TX0) (N := 4) F hK hP i_X8_count_X0 2 rfl rfl 3 (by decide) k_X8_count_f163 (v := .int (nI ln)) rfl dX8_count_70 ?_
  exact hret _ _ _ _ (nI ln) () dX8_count_73 rfl (rfl) hP hD hS

theorem k_X8_count_f43 : Cond.fieldLink RX8 43 (TX8 5).1 (TX8 5).2.1 (TX8 5).2.2.1 ∈ wsX8_count := by decide +kernel
theorem i_X8_count_X2 : ∀ w ∈ wsX20, w ∈ wsX8_count := by decide +kernel
theorem k_X8_count_f190 : Cond.fieldLink RX8 190 (TX2 5).1 (TX2 5).2.1 (TX2 5).2.2.1 ∈ wsX8_count := by decide +kernel
set_option maxHeartbeats 4000000 in
set_option maxRecDepth 100000 in
theorem c_X8_count_3 (l : Launch) (g : gT) (mb : Nat) (ta : Nat) (so : Nat) (to : Nat) (ro : Nat) (tr : Nat) (pl : Nat) (mo : Nat) (ra : Nat) (px : Nat) (py : Nat) (pw : Nat) (pc_ : Nat) (pb : Nat) (pn : Nat)  : CtI l g yX8_count wsX8_count rm_X8_count [.ref mb, .int 3] [gO mb 8 [.ref ta, .ref so, .ref to, .ref ro, .ref tr, .ref pl, .ref mo, .ref ra], gO pl 2 [.ref px, .ref py, .ref pw, .ref pc_, .ref pb, .int (nI pn)]] (fun (r : Int32) (_ : Unit) => r = nI pn) (fun (_ : Unit) => [gO mb 8 [.ref ta, .ref so, .ref to, .ref ro, .ref tr, .ref pl, .ref mo, .ref ra], gO pl 2 [.ref px, .ref py, .ref pw, .ref pc_, .ref pb, .int (nI pn)]]) := by
  refine CtI.of (cc := cX8_count) (maxL := 2) (ret := .int) (by decide) rfl (Nat.le_of_ble_eq_true rfl) ?_
  intro p e s m args below meth c A Q hnm F hK hA hP hD hS hret ls hl
  have hx := F.1
  have hb := F.2.1
  have hl : lv_has ls 2 [(0, .ref mb), (1, .int 3)] := hl
  refine lv_iload_n hx hb dX8_count_0 rfl (lv_at hl 1 rfl) ?_
  refine lv_tableIn (tgt := 74) hx hb dX8_count_1 (by decide) (by decide) rfl (by decide) ?_
  refine lv_aload_n hx hb dX8_count_74 rfl (lv_at hl 0 rfl) ?_
  refine g_get (C := RX8) (T := TX8) (N := 8) F hK hP i_X8_count_X8 0 rfl rfl 5 (by decide) k_X8_count_f43 (v := .ref pl) rfl dX8_count_75 ?_
  refine g_get (C := RX2) (T := TX2) (N := 6) F hK hP i_X8_count_X2 1 rfl rfl 5 (by decide) k_X8_count_f190 (v := .int (nI pn)) rfl dX8_count_78 ?_
  exact hret _ _ _ _ (nI pn) () dX8_count_81 rfl (rfl) hP hD hS

theorem k_X8_count_f50 : Cond.fieldLink RX8 50 (TX8 6).1 (TX8 6).2.1 (TX8 6).2.2.1 ∈ wsX8_count := by decide +kernel
theorem i_X8_count_X1 : ∀ w ∈ wsX10, w ∈ wsX8_count := by decide +kernel
theorem k_X8_count_f204 : Cond.fieldLink RX8 204 (TX1 3).1 (TX1 3).2.1 (TX1 3).2.2.1 ∈ wsX8_count := by decide +kernel
set_option maxHeartbeats 4000000 in
set_option maxRecDepth 100000 in
theorem c_X8_count_4 (l : Launch) (g : gT) (mb : Nat) (ta : Nat) (so : Nat) (to : Nat) (ro : Nat) (tr : Nat) (pl : Nat) (mo : Nat) (ra : Nat) (mx : Nat) (my : Nat) (mz : Nat) (mn : Nat) (tol : Int32)  : CtI l g yX8_count wsX8_count rm_X8_count [.ref mb, .int 4] [gO mb 8 [.ref ta, .ref so, .ref to, .ref ro, .ref tr, .ref pl, .ref mo, .ref ra], gO mo 1 [.ref mx, .ref my, .ref mz, .int (nI mn), .int tol]] (fun (r : Int32) (_ : Unit) => r = nI mn) (fun (_ : Unit) => [gO mb 8 [.ref ta, .ref so, .ref to, .ref ro, .ref tr, .ref pl, .ref mo, .ref ra], gO mo 1 [.ref mx, .ref my, .ref mz, .int (nI mn), .int tol]]) := by
  refine CtI.of (cc := cX8_count) (maxL := 2) (ret := .int) (by decide) rfl (Nat.le_of_ble_eq_true rfl) ?_
  intro p e s m args below meth c A Q hnm F hK hA hP hD hS hret ls hl
  have hx := F.1
  have hb := F.2.1
  have hl : lv_has ls 2 [(0, .ref mb), (1, .int 4)] := hl
  refine lv_iload_n hx hb dX8_count_0 rfl (lv_at hl 1 rfl) ?_
  refine lv_tableIn (tgt := 82) hx hb dX8_count_1 (by decide) (by decide) rfl (by decide) ?_
  refine lv_aload_n hx hb dX8_count_82 rfl (lv_at hl 0 rfl) ?_
  refine g_get (C := RX8) (T := TX8) (N := 8) F hK hP i_X8_count_X8 0 rfl rfl 6 (by decide) k_X8_count_f50 (v := .ref mo) rfl dX8_count_83 ?_
  refine g_get (C := RX1) (T := TX1) (N := 5) F hK hP i_X8_count_X1 1 rfl rfl 3 (by decide) k_X8_count_f204 (v := .int (nI mn)) rfl dX8_count_86 ?_
  exact hret _ _ _ _ (nI mn) () dX8_count_89 rfl (rfl) hP hD hS

set_option maxHeartbeats 4000000 in
set_option maxRecDepth 100000 in
theorem c_X8_count_5 (l : Launch) (g : gT) (mb : Nat) (ta : Nat) (so : Nat) (to : Nat) (ro : Nat) (tr : Nat) (pl : Nat) (mo : Nat) (ra : Nat) (lo : Nat) (cp : Nat) (sp : Nat) (yr : Nat) (cx : Nat) (cy : Nat) (n : Nat) (fx : Nat → Int32) (fy : Nat → Int32) (X : Nat → Int32) (Y : Nat → Int32) (hn : n ≤ 48) (hX : ∀ k, k < n → fx k = X k) (hY : ∀ k, k < n → fy k = Y k) (h1n : 1 ≤ n) : CtI l g yX8_count wsX8_count rm_X8_count [.ref mb, .int 5] [gO mb 8 [.ref ta, .ref so, .ref to, .ref ro, .ref tr, .ref pl, .ref mo, .ref ra], gO ro 5 [.ref lo, .ref cp, .ref sp, .int (nI yr)], gO cp 3 [.ref cx, .ref cy, .int (nI n)], gI g cx 48 fx, gI g cy 48 fy] (fun (r : Int32) (_ : Unit) => r = lenS X Y (n - 1)) (fun (_ : Unit) => [gO mb 8 [.ref ta, .ref so, .ref to, .ref ro, .ref tr, .ref pl, .ref mo, .ref ra], gO ro 5 [.ref lo, .ref cp, .ref sp, .int (nI yr)], gO cp 3 [.ref cx, .ref cy, .int (nI n)], gI g cx 48 fx, gI g cy 48 fy]) := by
  refine CtI.of (cc := cX8_count) (maxL := 2) (ret := .int) (by decide) rfl (Nat.le_of_ble_eq_true rfl) ?_
  intro p e s m args below meth c A Q hnm F hK hA hP hD hS hret ls hl
  have hx := F.1
  have hb := F.2.1
  have hl : lv_has ls 2 [(0, .ref mb), (1, .int 5)] := hl
  refine lv_iload_n hx hb dX8_count_0 rfl (lv_at hl 1 rfl) ?_
  refine lv_tableIn (tgt := 90) hx hb dX8_count_1 (by decide) (by decide) rfl (by decide) ?_
  refine lv_aload_n hx hb dX8_count_90 rfl (lv_at hl 0 rfl) ?_
  refine g_get (C := RX8) (T := TX8) (N := 8) F hK hP i_X8_count_X8 0 rfl rfl 3 (by decide) k_X8_count_f33 (v := .ref ro) rfl dX8_count_91 ?_
  refine g_get (C := RX5) (T := TX5) (N := 4) F hK hP i_X8_count_X5 1 rfl rfl 1 (by decide) k_X8_count_f88 (v := .ref cp) rfl dX8_count_94 ?_
  refine g_VI (wr := [gO mb 8 [.ref ta, .ref so, .ref to, .ref ro, .ref tr, .ref pl, .ref mo, .ref ra], gO ro 5 [.ref lo, .ref cp, .ref sp, .int (nI yr)]]) (As := []) (rest := []) (n := 0) F (c_X3_sumOfPieces l g cp cx cy n fx fy X Y (by omega) (hX) (hY) (by omega)) gX8_count_X3_sumOfPieces rfl (by decide) ⟨by decide, by decide⟩ 2 3 rfl rfl rfl rfl hl.1 rfl (Nat.le_of_ble_eq_true rfl) dX8_count_97 ⟨Nat.le_of_ble_eq_true rfl, Nat.le_of_ble_eq_true rfl⟩ hK hP hD hS hA [2, 3, 4] [0, 1] (by decide) rfl rfl (by decide) (by decide) (fun r_97 u_97 H locs hw_97 hP hD hS => ?_)
  have hP : gP g [gO mb 8 [.ref ta, .ref so, .ref to, .ref ro, .ref tr, .ref pl, .ref mo, .ref ra], gO ro 5 [.ref lo, .ref cp, .ref sp, .int (nI yr)], gO cp 3 [.ref cx, .ref cy, .int (nI n)], gI g cx 48 fx, gI g cy 48 fy] H := hP
  have hD : va_D A [gO mb 8 [.ref ta, .ref so, .ref to, .ref ro, .ref tr, .ref pl, .ref mo, .ref ra], gO ro 5 [.ref lo, .ref cp, .ref sp, .int (nI yr)], gO cp 3 [.ref cx, .ref cy, .int (nI n)], gI g cx 48 fx, gI g cy 48 fy] := hD
  obtain rfl := hw_97
  exact hret _ _ _ _ (lenS X Y (n - 1)) () dX8_count_100 rfl (rfl) hP hD hS

theorem k_X8_count_f10 : Cond.fieldLink RX8 10 (TX8 0).1 (TX8 0).2.1 (TX8 0).2.2.1 ∈ wsX8_count := by decide +kernel
theorem i_X8_count_X7 : ∀ w ∈ wsX70, w ∈ wsX8_count := by decide +kernel
theorem k_X8_count_f69 : Cond.fieldLink RX8 69 (TX7 1).1 (TX7 1).2.1 (TX7 1).2.2.1 ∈ wsX8_count := by decide +kernel
set_option maxHeartbeats 4000000 in
set_option maxRecDepth 100000 in
theorem c_X8_count_6 (l : Launch) (g : gT) (mb : Nat) (ta : Nat) (so : Nat) (to : Nat) (ro : Nat) (tr : Nat) (pl : Nat) (mo : Nat) (ra : Nat) (tb : Nat) (tn : Nat)  : CtI l g yX8_count wsX8_count rm_X8_count [.ref mb, .int 6] [gO mb 8 [.ref ta, .ref so, .ref to, .ref ro, .ref tr, .ref pl, .ref mo, .ref ra], gO ta 7 [.ref tb, .int (nI tn)]] (fun (r : Int32) (_ : Unit) => r = nI tn) (fun (_ : Unit) => [gO mb 8 [.ref ta, .ref so, .ref to, .ref ro, .ref tr, .ref pl, .ref mo, .ref ra], gO ta 7 [.ref tb, .int (nI tn)]]) := by
  refine CtI.of (cc := cX8_count) (maxL := 2) (ret := .int) (by decide) rfl (Nat.le_of_ble_eq_true rfl) ?_
  intro p e s m args below meth c A Q hnm F hK hA hP hD hS hret ls hl
  have hx := F.1
  have hb := F.2.1
  have hl : lv_has ls 2 [(0, .ref mb), (1, .int 6)] := hl
  refine lv_iload_n hx hb dX8_count_0 rfl (lv_at hl 1 rfl) ?_
  refine lv_tableIn (tgt := 101) hx hb dX8_count_1 (by decide) (by decide) rfl (by decide) ?_
  refine lv_aload_n hx hb dX8_count_101 rfl (lv_at hl 0 rfl) ?_
  refine g_get (C := RX8) (T := TX8) (N := 8) F hK hP i_X8_count_X8 0 rfl rfl 0 (by decide) k_X8_count_f10 (v := .ref ta) rfl dX8_count_102 ?_
  refine g_get (C := RX7) (T := TX7) (N := 2) F hK hP i_X8_count_X7 1 rfl rfl 1 (by decide) k_X8_count_f69 (v := .int (nI tn)) rfl dX8_count_105 ?_
  exact hret _ _ _ _ (nI tn) () dX8_count_108 rfl (rfl) hP hD hS

