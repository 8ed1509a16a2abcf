theorem g_min_n {a b : Nat} (ha : a < 2 ^ 31) (hb : b < 2 ^ 31) : g_min (nI a) (nI b) = nI (min a b) := by
  rw [g_min]
  split
  · rename_i h
    have := (nI_ltI hb ha).mp h
    congr 1; omega
  · rename_i h
    have : ¬ b < a := fun z => h ((nI_ltI hb ha).mpr z)
    congr 1; omega
def nkR (j : Nat) : Int32 := if j = 0 then -1 else nI j
theorem nkR_c (j : Nat) : (j = 0 ∧ nkR j = -1) ∨ (j ≠ 0 ∧ nkR j = nI j) := by
  by_cases h : j = 0
  · exact Or.inl ⟨h, by rw [nkR, if_pos h]⟩
  · exact Or.inr ⟨h, by rw [nkR, if_neg h]⟩
theorem neck_sp {X Y : RW} {n i j : Nat} {nr : Int32} (h : neckS X Y n nr i = j) (hz : j ≠ 0) : i + 3 ≤ j ∧ j ≤ n - 1 ∧ j ≤ n + i - 3 := by
  rcases fneck_sp (nkB X Y nr i) (i + 3) (min (n - 1) (n + i - 3)) with h1 | ⟨h1, h2, h3⟩
  · exact absurd (h.symm.trans h1) hz
  · rw [neckS] at h
    rw [h] at h1 h2
    omega
theorem noteS_eq (P : LPS) (y p a : Int32) : noteS P y p a = (noteN P.1, noteR P.2.1 P.1 y, noteR P.2.2.1 P.1 p, noteR P.2.2.2 P.1 a) := by
  obtain ⟨n, f1, f2, f3⟩ := P
  by_cases h : n < 30
  · simp [noteS, noteN, noteR, h]
  · simp [noteS, noteN, noteR, h]
theorem noteN_le {n : Nat} (h : n ≤ 30) : noteN n ≤ 30 := by rw [noteN]; split <;> omega
theorem cutS_end {nr yr : Int32} {f i : Nat} {L : LN} {P : LPS} (h : ¬ i + 3 < L.1) : cutS nr yr f i L P = (L, P) := by
  cases f with
  | zero => rfl
  | succ f => rw [cutS, if_neg h]
theorem cutS_no {nr yr : Int32} {i : Nat} {L : LN} {P : LPS} (h : i + 3 < L.1) (h48 : L.1 ≤ 48) (hz : neckS L.2.1 L.2.2 L.1 nr i = 0) : cutS nr yr (48 - i) i L P = cutS nr yr (48 - (i + 1)) (i + 1) L P := by
  rw [show 48 - i = (48 - (i + 1)) + 1 by omega, cutS, if_pos h, if_pos hz]
theorem cutS_cut {nr yr : Int32} {i j : Nat} {L : LN} {P : LPS} (h : i + 3 < L.1) (h48 : L.1 ≤ 48) (hj : neckS L.2.1 L.2.2 L.1 nr i = j) (hz : j ≠ 0) : cutS nr yr (48 - i) i L P = cutS nr yr (48 - (i + 1)) (i + 1) (cutA L i j) (noteS P yr (nI (j - i - 1)) (areaS L.2.1 L.2.2 i j)) := by
  rw [show 48 - i = (48 - (i + 1)) + 1 by omega, cutS, if_pos h, if_neg (by rw [hj]; exact hz), hj]
abbrev rm_X5_farthestNeck : Room := { frames := 2, cells := 0, slots := 0, locals := 45 }
theorem i_X5_farthestNeck_X5 : ∀ w ∈ wsX50, w ∈ wsX5_farthestNeck := by decide +kernel
theorem k_X5_farthestNeck_f21 : Cond.fieldLink RX5 21 (TX5 1).1 (TX5 1).2.1 (TX5 1).2.2.1 ∈ wsX5_farthestNeck := by decide +kernel
theorem i_X5_farthestNeck_X3 : ∀ w ∈ wsX30, w ∈ wsX5_farthestNeck := by decide +kernel
theorem k_X5_farthestNeck_f55 : Cond.fieldLink RX5 55 (TX3 2).1 (TX3 2).2.1 (TX3 2).2.2.1 ∈ wsX5_farthestNeck := by decide +kernel
theorem k_X5_farthestNeck_m71 : Cond.methodLink RX5 71 Lib.Math.min.name ∈ wsX5_farthestNeck := by decide +kernel
theorem k_X5_farthestNeck_smin : Cond.static Lib.Math.min.name ∈ wsX5_farthestNeck := by decide +kernel
theorem k_X5_farthestNeck_im : Cond.initialized "java/lang/Math" ∈ wsX5_farthestNeck := by decide +kernel
theorem k_X5_farthestNeck_xmin : Cond.code Lib.Math.min.name Lib.Math.min.code 2 (some .int) ∈ wsX5_farthestNeck := by decide +kernel
theorem k_X5_farthestNeck_f76 : Cond.fieldLink RX5 76 (TX3 0).1 (TX3 0).2.1 (TX3 0).2.2.1 ∈ wsX5_farthestNeck := by decide +kernel
theorem k_X5_farthestNeck_f80 : Cond.fieldLink RX5 80 (TX3 1).1 (TX3 1).2.1 (TX3 1).2.2.1 ∈ wsX5_farthestNeck := by decide +kernel
set_option maxHeartbeats 4000000 in
set_option maxRecDepth 100000 in
theorem c_X5_farthestNeck (l : Launch) (g : gT) (ro : Nat) (lo : Nat) (cp : Nat) (sp : Nat) (yr : Nat) (cx : Nat) (cy : Nat) (n : Nat) (fx : Nat → Int32) (fy : Nat → Int32) (X : Nat → Int32) (Y : Nat → Int32) (i : Nat) (nr : Int32) (hn : n ≤ 48) (hX : ∀ k, k < n → fx k = X k) (hY : ∀ k, k < n → fy k = Y k) (hi : i + 3 < n) : CtI l g yX5_farthestNeck wsX5_farthestNeck rm_X5_farthestNeck [.ref ro, .int (nI i), .int nr] [gO ro 5 [.ref lo, .ref cp, .ref sp, .int (nI yr)], gO cp 3 [.ref cx, .ref cy, .int (nI n)], gI g cx 48 fx, gI g cy 48 fy] (fun (r : Int32) (_ : Unit) => r = nkR (neckS X Y n nr i)) (fun (_ : Unit) => [gO ro 5 [.ref lo, .ref cp, .ref sp, .int (nI yr)], gO cp 3 [.ref cx, .ref cy, .int (nI n)], gI g cx 48 fx, gI g cy 48 fy]) := by
  refine CtI.of (cc := cX5_farthestNeck) (maxL := 5) (ret := .int) (by decide) rfl (Nat.le_of_ble_eq_true rfl) ?_
  intro p e s m args below meth c A Q hnm F hK hA hP hD hS hret ls hl
  have hx := F.1
  have hb := F.2.1
  have hl : lv_has ls 5 [(0, .ref ro), (1, .int (nI i)), (2, .int nr)] := hl
  refine lv_aload_n hx hb dX5_farthestNeck_0 rfl (lv_at hl 0 rfl) ?_
  refine g_get (C := RX5) (T := TX5) (N := 4) F hK hP i_X5_farthestNeck_X5 0 rfl rfl 1 (by decide) k_X5_farthestNeck_f21 (v := .ref cp) rfl dX5_farthestNeck_1 ?_
  refine g_get (C := RX3) (T := TX3) (N := 3) F hK hP i_X5_farthestNeck_X3 1 rfl rfl 2 (by decide) k_X5_farthestNeck_f55 (v := .int (nI n)) rfl dX5_farthestNeck_4 ?_
  refine lv_iconst (v := 1) hx hb dX5_farthestNeck_7 (by decide) ?_
  refine n_isub (a := n) (b := 1) (d := n - 1) hx hb dX5_farthestNeck_8 (by omega) (by omega) ?_
  refine lv_aload_n hx hb dX5_farthestNeck_9 rfl (lv_at hl 0 rfl) ?_
  refine g_get (C := RX5) (T := TX5) (N := 4) F hK hP i_X5_farthestNeck_X5 0 rfl rfl 1 (by decide) k_X5_farthestNeck_f21 (v := .ref cp) rfl dX5_farthestNeck_10 ?_
  refine g_get (C := RX3) (T := TX3) (N := 3) F hK hP i_X5_farthestNeck_X3 1 rfl rfl 2 (by decide) k_X5_farthestNeck_f55 (v := .int (nI n)) rfl dX5_farthestNeck_13 ?_
  refine lv_iconst (v := 4) hx hb dX5_farthestNeck_16 (by decide) ?_
  refine n_isub (a := n) (b := 4) (d := n - 4) hx hb dX5_farthestNeck_17 (by omega) (by omega) ?_
  refine lv_iload_n hx hb dX5_farthestNeck_18 rfl (lv_at hl 1 rfl) ?_
  refine n_iadd (a := n - 4) (b := i) (d := (n - 4) + i) hx hb dX5_farthestNeck_19 (by omega) ?_
  refine lv_iconst (v := 1) hx hb dX5_farthestNeck_20 (by decide) ?_
  refine n_iadd (a := (n - 4) + i) (b := 1) (d := ((n - 4) + i) + 1) hx hb dX5_farthestNeck_21 (by omega) ?_
  refine g_mmin F hl.1 k_X5_farthestNeck_m71 k_X5_farthestNeck_smin k_X5_farthestNeck_im k_X5_farthestNeck_xmin (by decide) (Nat.le_of_ble_eq_true rfl) (Nat.le_of_ble_eq_true rfl) (Nat.le_of_ble_eq_true rfl) dX5_farthestNeck_22 (v := (nI (min (n - 1) (n + i - 3)))) ((g_min_n (by omega) (by omega)).trans (by congr 1; omega)) ?_
  refine lv_istore_n (lv' := [(3, .int (nI (min (n - 1) (n + i - 3)))), (0, .ref ro), (1, .int (nI i)), (2, .int nr)]) hx hb dX5_farthestNeck_25 rfl hl (by decide) rfl (fun ls hl => ?_)
  refine lv_iload_n hx hb dX5_farthestNeck_26 rfl (lv_at hl 0 rfl) ?_
  refine lv_istore (lv' := [(4, .int (nI (min (n - 1) (n + i - 3)))), (3, .int (nI (min (n - 1) (n + i - 3)))), (0, .ref ro), (1, .int (nI i)), (2, .int nr)]) hx hb dX5_farthestNeck_27 hl (by decide) rfl (fun ls hl => ?_)
  have L29 : ∀ (fuel : Nat) (j : Nat) (ls : Array Slot) (H : Heap) (locs : List Loc), j < fuel → (j ≤ n - 1) → (i + 1 ≤ j) → (neckS X Y n nr i = fneck (nkB X Y nr i) (i + 3) j) → lv_has ls 5 [(0, .ref ro), (1, .int (nI i)), (2, .int nr), (4, .int (nI j))] → gP g [gO ro 5 [.ref lo, .ref cp, .ref sp, .int (nI yr)], gO cp 3 [.ref cx, .ref cy, .int (nI n)], gI g cx 48 fx, gI g cy 48 fy] H → va_D A [gO ro 5 [.ref lo, .ref cp, .ref sp, .int (nI yr)], gO cp 3 [.ref cx, .ref cy, .int (nI n)], gI g cx 48 fx, gI g cy 48 fy] → va_S A s.heap H locs → W p l e rm_X5_farthestNeck s m args below meth c H locs 0 0 Q (F0 m 29 ls []) := by
    intro fuel
    induction fuel with
    | zero => intro j _ _ _ hk; exact absurd hk (Nat.not_lt_zero _)
    | succ fuel_29 ih_29 =>
      intro j ls H locs hk_29 hj hj0 hf hl hP hD hS
      refine lv_iload hx hb dX5_farthestNeck_29 (lv_at hl 3 rfl) ?_
      refine lv_iload_n hx hb dX5_farthestNeck_31 rfl (lv_at hl 1 rfl) ?_
      refine lv_iconst (v := 3) hx hb dX5_farthestNeck_32 (by decide) ?_
      refine n_iadd (a := i) (b := 3) (d := i + 3) hx hb dX5_farthestNeck_33 (by omega) ?_
      refine n_icmp_lt (a := j) (b := i + 3) (tgt := 77) hx hb dX5_farthestNeck_34 (by decide) (by omega) (by omega) (fun c_34 => ?_) (fun c_34 => ?_)
      · refine lv_iconst (v := (-1)) hx hb dX5_farthestNeck_77 (by decide) ?_
        exact hret _ _ _ _ (-1) () dX5_farthestNeck_78 rfl (by rw [hf, fneck_0 (by omega)]; rfl) hP hD hS
      · refine lv_aload_n hx hb dX5_farthestNeck_37 rfl (lv_at hl 0 rfl) ?_
        refine g_get (C := RX5) (T := TX5) (N := 4) F hK hP i_X5_farthestNeck_X5 0 rfl rfl 1 (by decide) k_X5_farthestNeck_f21 (v := .ref cp) rfl dX5_farthestNeck_38 ?_
        refine lv_iload hx hb dX5_farthestNeck_41 (lv_at hl 3 rfl) ?_
        refine lv_aload_n hx hb dX5_farthestNeck_43 rfl (lv_at hl 0 rfl) ?_
        refine g_get (C := RX5) (T := TX5) (N := 4) F hK hP i_X5_farthestNeck_X5 0 rfl rfl 1 (by decide) k_X5_farthestNeck_f21 (v := .ref cp) rfl dX5_farthestNeck_44 ?_
        refine g_get (C := RX3) (T := TX3) (N := 3) F hK hP i_X5_farthestNeck_X3 1 rfl rfl 0 (by decide) k_X5_farthestNeck_f76 (v := .ref cx) rfl dX5_farthestNeck_47 ?_
        refine lv_iload_n hx hb dX5_farthestNeck_50 rfl (lv_at hl 1 rfl) ?_
        refine g_iald (i := i) (v := (X i)) hx hb hK hP 2 rfl (by decide) (by omega) (hX i (by omega)) dX5_farthestNeck_51 ?_
        refine lv_aload_n hx hb dX5_farthestNeck_52 rfl (lv_at hl 0 rfl) ?_
        refine g_get (C := RX5) (T := TX5) (N := 4) F hK hP i_X5_farthestNeck_X5 0 rfl rfl 1 (by decide) k_X5_farthestNeck_f21 (v := .ref cp) rfl dX5_farthestNeck_53 ?_
        refine g_get (C := RX3) (T := TX3) (N := 3) F hK hP i_X5_farthestNeck_X3 1 rfl rfl 1 (by decide) k_X5_farthestNeck_f80 (v := .ref cy) rfl dX5_farthestNeck_56 ?_
        refine lv_iload_n hx hb dX5_farthestNeck_59 rfl (lv_at hl 1 rfl) ?_
        refine g_iald (i := i) (v := (Y i)) hx hb hK hP 3 rfl (by decide) (by omega) (hY i (by omega)) dX5_farthestNeck_60 ?_
        refine lv_iload_n hx hb dX5_farthestNeck_61 rfl (lv_at hl 2 rfl) ?_
        refine g_VI (wr := [gO ro 5 [.ref lo, .ref cp, .ref sp, .int (nI yr)]]) (As := [.int (nI j), .int (X i), .int (Y i), .int nr]) (rest := []) (n := 4) F (c_X3_isNear l g cp cx cy n fx fy X Y j (X i) (Y i) nr (by omega) (hX) (hY) (by omega)) gX5_farthestNeck_X3_isNear rfl (by decide) ⟨by decide, by decide⟩ 1 3 rfl rfl rfl rfl hl.1 rfl (Nat.le_of_ble_eq_true rfl) dX5_farthestNeck_62 ⟨Nat.le_of_ble_eq_true rfl, Nat.le_of_ble_eq_true rfl⟩ hK hP hD hS hA [1, 2, 3] [0] (by decide) rfl rfl (by decide) (by decide) (fun r_62 u_62 H locs hw_62 hP hD hS => ?_)
        have hP : gP g [gO ro 5 [.ref lo, .ref cp, .ref sp, .int (nI yr)], gO cp 3 [.ref cx, .ref cy, .int (nI n)], gI g cx 48 fx, gI g cy 48 fy] H := hP
        have hD : va_D A [gO ro 5 [.ref lo, .ref cp, .ref sp, .int (nI yr)], gO cp 3 [.ref cx, .ref cy, .int (nI n)], gI g cx 48 fx, gI g cy 48 fy] := hD
        rcases hw_62 with ⟨rfl, b_62⟩ | ⟨rfl, b_62⟩
        · refine lv_if_eq (tgt := 71) hx hb dX5_farthestNeck_65 (by decide) (fun h => absurd h (by decide)) (fun _ => ?_)
          refine lv_iload hx hb dX5_farthestNeck_68 (lv_at hl 3 rfl) ?_
          exact hret _ _ _ _ (nI j) () dX5_farthestNeck_70 rfl (by rw [hf, fneck_y (by omega) (by omega) b_62, nkR, if_neg (by omega)]) hP hD hS
        · refine lv_if_eq (tgt := 71) hx hb dX5_farthestNeck_65 (by decide) (fun _ => ?_) (fun h => absurd (by decide) h)
          refine lv_iinc (v := (nI (j - 1))) (lv' := [(4, .int (nI (j - 1))), (0, .ref ro), (1, .int (nI i)), (2, .int nr)]) hx hb dX5_farthestNeck_71 hl (k := 3) rfl (g_dec (show 1 ≤ j by omega)) (by decide) rfl (fun ls hl => ?_)
          refine lv_goto (tgt := 29) hx hb dX5_farthestNeck_74 (by decide) ?_
          exact ih_29 (j - 1) ls _ _ (by omega) (by omega) (by omega) (hf.trans (fneck_n (by omega) (by omega) b_62)) (lv_sub hl [1, 2, 3, 0] rfl) hP hD hS
  exact L29 ((min (n - 1) (n + i - 3)) + 1) (min (n - 1) (n + i - 3)) ls _ _ (Nat.lt_succ_self _) (by omega) (by omega) (rfl) (lv_sub hl [2, 3, 4, 0] rfl) hP hD hS

theorem g_nm1 {j : Nat} (h : j < 2 ^ 31) : ¬ nI j = -1 := by
  intro e
  have := congrArg Int32.toInt e
  rw [nI_toInt h] at this
  have h2 : (-1 : Int32).toInt = -1 := by decide
  omega
abbrev rm_X5_cutNecks : Room := { frames := 3, cells := 0, slots := 0, locals := 69 }
theorem i_X5_cutNecks_X5 : ∀ w ∈ wsX50, w ∈ wsX5_cutNecks := by decide +kernel
theorem k_X5_cutNecks_f21 : Cond.fieldLink RX5 21 (TX5 1).1 (TX5 1).2.1 (TX5 1).2.2.1 ∈ wsX5_cutNecks := by decide +kernel
theorem i_X5_cutNecks_X3 : ∀ w ∈ wsX30, w ∈ wsX5_cutNecks := by decide +kernel
theorem k_X5_cutNecks_f55 : Cond.fieldLink RX5 55 (TX3 2).1 (TX3 2).2.1 (TX3 2).2.2.1 ∈ wsX5_cutNecks := by decide +kernel
theorem k_X5_cutNecks_f12 : Cond.fieldLink RX5 12 (TX5 0).1 (TX5 0).2.1 (TX5 0).2.2.1 ∈ wsX5_cutNecks := by decide +kernel
theorem k_X5_cutNecks_f36 : Cond.fieldLink RX5 36 (TX5 3).1 (TX5 3).2.1 (TX5 3).2.2.1 ∈ wsX5_cutNecks := by decide +kernel
set_option maxHeartbeats 4000000 in
set_option maxRecDepth 100000 in
theorem c_X5_cutNecks (l : Launch) (g : gT) (ro : Nat) (lo : Nat) (cp : Nat) (sp : Nat) (yr : Nat) (ly : Nat) (lp : Nat) (la : Nat) (ln : Nat) (fy0 : Nat → Int32) (fp0 : Nat → Int32) (fa0 : Nat → Int32) (cx : Nat) (cy : Nat) (n : Nat) (fx : Nat → Int32) (fy : Nat → Int32) (X : Nat → Int32) (Y : Nat → Int32) (nr : Int32) (hln : ln ≤ 30) (hn : n ≤ 48) (hX : ∀ k, k < n → fx k = X k) (hY : ∀ k, k < n → fy k = Y k) : CtV l g yX5_cutNecks wsX5_cutNecks rm_X5_cutNecks [.ref ro, .int nr] [gO ro 5 [.ref lo, .ref cp, .ref sp, .int (nI yr)], gO lo 0 [.ref ly, .ref lp, .ref la, .int (nI ln)], gI g ly 30 fy0, gI g lp 30 fp0, gI g la 30 fa0, gO cp 3 [.ref cx, .ref cy, .int (nI n)], gI g cx 48 fx, gI g cy 48 fy] (fun (u : (Nat → Int32) × (Nat → Int32)) => (∀ k, k < (cutS nr (nI yr) 48 0 (n, X, Y) (ln, fy0, fp0, fa0)).1.1 → u.1 k = (cutS nr (nI yr) 48 0 (n, X, Y) (ln, fy0, fp0, fa0)).1.2.1 k) ∧ (∀ k, k < (cutS nr (nI yr) 48 0 (n, X, Y) (ln, fy0, fp0, fa0)).1.1 → u.2 k = (cutS nr (nI yr) 48 0 (n, X, Y) (ln, fy0, fp0, fa0)).1.2.2 k)) (fun (u : (Nat → Int32) × (Nat → Int32)) => [gO ro 5 [.ref lo, .ref cp, .ref sp, .int (nI yr)], gO lo 0 [.ref ly, .ref lp, .ref la, .int (nI ((cutS nr (nI yr) 48 0 (n, X, Y) (ln, fy0, fp0, fa0)).2.1))], gI g ly 30 ((cutS nr (nI yr) 48 0 (n, X, Y) (ln, fy0, fp0, fa0)).2.2.1), gI g lp 30 ((cutS nr (nI yr) 48 0 (n, X, Y) (ln, fy0, fp0, fa0)).2.2.2.1), gI g la 30 ((cutS nr (nI yr) 48 0 (n, X, Y) (ln, fy0, fp0, fa0)).2.2.2.2), gO cp 3 [.ref cx, .ref cy, .int (nI ((cutS nr (nI yr) 48 0 (n, X, Y) (ln, fy0, fp0, fa0)).1.1))], gI g cx 48 u.1, gI g cy 48 u.2]) := by
  refine CtV.of (cc := cX5_cutNecks) (maxL := 4) (by decide) rfl (Nat.le_of_ble_eq_true rfl) ?_
  intro p e s m args below meth c A Q hnm F hK hA hP hD hS hret ls hl
  have hx := F.1
  have hb := F.2.1
  have hl : lv_has ls 4 [(0, .ref ro), (1, .int nr)] := hl
  refine lv_iconst (v := 0) hx hb dX5_cutNecks_0 (by decide) ?_
  refine lv_istore_n (lv' := [(2, .int 0), (0, .ref ro), (1, .int nr)]) hx hb dX5_cutNecks_1 rfl hl (by decide) rfl (fun ls hl => ?_)
  have L2 : ∀ (fuel : Nat) (i : Nat) (L : LN) (P : LPS) (hx_ : Nat → Int32) (hy_ : Nat → Int32) (ls : Array Slot) (H : Heap) (locs : List Loc), 48 - i < fuel → (i ≤ 48) → (L.1 ≤ 48) → (P.1 ≤ 30) → (∀ k, k < L.1 → hx_ k = L.2.1 k) → (∀ k, k < L.1 → hy_ k = L.2.2 k) → (cutS nr (nI yr) (48 - i) i L P = (cutS nr (nI yr) 48 0 (n, X, Y) (ln, fy0, fp0, fa0))) → lv_has ls 4 [(0, .ref ro), (1, .int nr), (2, .int (nI i))] → gP g [gO ro 5 [.ref lo, .ref cp, .ref sp, .int (nI yr)], gO lo 0 [.ref ly, .ref lp, .ref la, .int (nI P.1)], gI g ly 30 P.2.1, gI g lp 30 P.2.2.1, gI g la 30 P.2.2.2, gO cp 3 [.ref cx, .ref cy, .int (nI L.1)], gI g cx 48 hx_, gI g cy 48 hy_] H → va_D A [gO ro 5 [.ref lo, .ref cp, .ref sp, .int (nI yr)], gO lo 0 [.ref ly, .ref lp, .ref la, .int (nI P.1)], gI g ly 30 P.2.1, gI g lp 30 P.2.2.1, gI g la 30 P.2.2.2, gO cp 3 [.ref cx, .ref cy, .int (nI L.1)], gI g cx 48 hx_, gI g cy 48 hy_] → va_S A s.heap H locs → W p l e rm_X5_cutNecks s m args below meth c H locs 0 0 Q (F0 m 2 ls []) := by
    intro fuel
    induction fuel with
    | zero => intro i L P hx_ hy_ _ _ _ hk; exact absurd hk (Nat.not_lt_zero _)
    | succ fuel_2 ih_2 =>
      intro i L P hx_ hy_ ls H locs hk_2 hi48 h48 h30 h1 h2 hc hl hP hD hS
      refine lv_iload_n hx hb dX5_cutNecks_2 rfl (lv_at hl 2 rfl) ?_
      refine lv_iconst (v := 3) hx hb dX5_cutNecks_3 (by decide) ?_
      refine n_iadd (a := i) (b := 3) (d := i + 3) hx hb dX5_cutNecks_4 (by omega) ?_
      refine lv_aload_n hx hb dX5_cutNecks_5 rfl (lv_at hl 0 rfl) ?_
      refine g_get (C := RX5) (T := TX5) (N := 4) F hK hP i_X5_cutNecks_X5 0 rfl rfl 1 (by decide) k_X5_cutNecks_f21 (v := .ref cp) rfl dX5_cutNecks_6 ?_
      refine g_get (C := RX3) (T := TX3) (N := 3) F hK hP i_X5_cutNecks_X3 5 rfl rfl 2 (by decide) k_X5_cutNecks_f55 (v := .int (nI L.1)) rfl dX5_cutNecks_9 ?_
      refine n_icmp_ge (a := i + 3) (b := L.1) (tgt := 67) hx hb dX5_cutNecks_12 (by decide) (by omega) (by omega) (fun c_12 => ?_) (fun c_12 => ?_)
      · have he : (cutS nr (nI yr) 48 0 (n, X, Y) (ln, fy0, fp0, fa0)) = (L, P) := by rw [← hc, cutS_end (by omega)]
        exact hret _ _ _ _ (hx_, hy_) dX5_cutNecks_67 (by rw [he]; exact ⟨h1, h2⟩) (by rw [he]; exact hP) (by rw [he]; exact hD) hS
      · refine lv_aload_n hx hb dX5_cutNecks_15 rfl (lv_at hl 0 rfl) ?_
        refine lv_iload_n hx hb dX5_cutNecks_16 rfl (lv_at hl 2 rfl) ?_
        refine lv_iload_n hx hb dX5_cutNecks_17 rfl (lv_at hl 1 rfl) ?_
        refine g_VI (wr := [gO lo 0 [.ref ly, .ref lp, .ref la, .int (nI P.1)], gI g ly 30 P.2.1, gI g lp 30 P.2.2.1, gI g la 30 P.2.2.2]) (As := [.int (nI i), .int nr]) (rest := []) (n := 2) F (c_X5_farthestNeck l g ro lo cp sp yr cx cy L.1 hx_ hy_ L.2.1 L.2.2 i nr (by omega) (h1) (h2) (by omega)) gX5_cutNecks_X5_farthestNeck rfl (by decide) ⟨by decide, by decide⟩ 0 5 rfl rfl rfl rfl hl.1 rfl (Nat.le_of_ble_eq_true rfl) dX5_cutNecks_18 ⟨Nat.le_of_ble_eq_true rfl, Nat.le_of_ble_eq_true rfl⟩ hK hP hD hS hA [0, 5, 6, 7] [1, 2, 3, 4] (by decide) rfl rfl (by decide) (by decide) (fun r_18 u_18 H locs hw_18 hP hD hS => ?_)
        have hP : gP g [gO lo 0 [.ref ly, .ref lp, .ref la, .int (nI P.1)], gI g ly 30 P.2.1, gI g lp 30 P.2.2.1, gI g la 30 P.2.2.2, gO ro 5 [.ref lo, .ref cp, .ref sp, .int (nI yr)], gO cp 3 [.ref cx, .ref cy, .int (nI L.1)], gI g cx 48 hx_, gI g cy 48 hy_] H := hP
        have hD : va_D A [gO lo 0 [.ref ly, .ref lp, .ref la, .int (nI P.1)], gI g ly 30 P.2.1, gI g lp 30 P.2.2.1, gI g la 30 P.2.2.2, gO ro 5 [.ref lo, .ref cp, .ref sp, .int (nI yr)], gO cp 3 [.ref cx, .ref cy, .int (nI L.1)], gI g cx 48 hx_, gI g cy 48 hy_] := hD
        obtain rfl := hw_18
        generalize hj : neckS L.2.1 L.2.2 L.1 nr i = j
        rcases nkR_c j with ⟨hz, he⟩ | ⟨hz, he⟩
        · refine g_eqi (y := (-1)) he ?_
          refine lv_istore_n (lv' := [(3, .int (-1)), (0, .ref ro), (1, .int nr), (2, .int (nI i))]) hx hb dX5_cutNecks_21 rfl hl (by decide) rfl (fun ls hl => ?_)
          refine lv_iload_n hx hb dX5_cutNecks_22 rfl (lv_at hl 0 rfl) ?_
          refine lv_iconst (v := (-1)) hx hb dX5_cutNecks_23 (by decide) ?_
          refine lv_icmp_eq (tgt := 61) hx hb dX5_cutNecks_24 (by decide) (fun _ => ?_) (fun h => absurd (by decide) h)
          refine lv_iinc (v := (nI (i + 1))) (lv' := [(2, .int (nI (i + 1))), (3, .int (-1)), (0, .ref ro), (1, .int nr)]) hx hb dX5_cutNecks_61 hl (k := 3) rfl (g_inc i 1 (by decide)) (by decide) rfl (fun ls hl => ?_)
          refine lv_goto (tgt := 2) hx hb dX5_cutNecks_64 (by decide) ?_
          exact ih_2 (i + 1) L P hx_ hy_ ls _ _ (by omega) (by omega) (by omega) (by omega) (by omega) (by omega) (by rw [← hc, cutS_no (by omega) h48 (hj.trans hz)]) (lv_sub hl [2, 3, 0] rfl) (hP.sub [4, 0, 1, 2, 3, 5, 6, 7] rfl) (hD.sub [4, 0, 1, 2, 3, 5, 6, 7] (by decide) rfl) hS
        · refine g_eqi (y := (nI j)) he ?_
          obtain ⟨hj1, hj2, hj3⟩ := neck_sp hj hz
          refine lv_istore_n (lv' := [(3, .int (nI j)), (0, .ref ro), (1, .int nr), (2, .int (nI i))]) hx hb dX5_cutNecks_21 rfl hl (by decide) rfl (fun ls hl => ?_)
          refine lv_iload_n hx hb dX5_cutNecks_22 rfl (lv_at hl 0 rfl) ?_
          refine lv_iconst (v := (-1)) hx hb dX5_cutNecks_23 (by decide) ?_
          refine lv_icmp_eq (tgt := 61) hx hb dX5_cutNecks_24 (by decide) (fun h => absurd h (g_nm1 (by omega))) (fun c_24 => ?_)
          refine lv_aload_n hx hb dX5_cutNecks_27 rfl (lv_at hl 1 rfl) ?_
          refine g_get (C := RX5) (T := TX5) (N := 4) F hK hP i_X5_cutNecks_X5 4 rfl rfl 0 (by decide) k_X5_cutNecks_f12 (v := .ref lo) rfl dX5_cutNecks_28 ?_
          refine lv_aload_n hx hb dX5_cutNecks_31 rfl (lv_at hl 1 rfl) ?_
          refine g_get (C := RX5) (T := TX5) (N := 4) F hK hP i_X5_cutNecks_X5 4 rfl rfl 3 (by decide) k_X5_cutNecks_f36 (v := .int (nI yr)) rfl dX5_cutNecks_32 ?_
          refine lv_iload_n hx hb dX5_cutNecks_35 rfl (lv_at hl 0 rfl) ?_
          refine lv_iload_n hx hb dX5_cutNecks_36 rfl (lv_at hl 3 rfl) ?_
          refine n_isub (a := j) (b := i) (d := j - i) hx hb dX5_cutNecks_37 (by omega) (by omega) ?_
          refine lv_iconst (v := 1) hx hb dX5_cutNecks_38 (by decide) ?_
          refine n_isub (a := j - i) (b := 1) (d := (j - i) - 1) hx hb dX5_cutNecks_39 (by omega) (by omega) ?_
          refine lv_aload_n hx hb dX5_cutNecks_40 rfl (lv_at hl 1 rfl) ?_
          refine g_get (C := RX5) (T := TX5) (N := 4) F hK hP i_X5_cutNecks_X5 4 rfl rfl 1 (by decide) k_X5_cutNecks_f21 (v := .ref cp) rfl dX5_cutNecks_41 ?_
          refine lv_iload_n hx hb dX5_cutNecks_44 rfl (lv_at hl 3 rfl) ?_
          refine lv_iload_n hx hb dX5_cutNecks_45 rfl (lv_at hl 0 rfl) ?_
          refine g_VI (wr := [gO lo 0 [.ref ly, .ref lp, .ref la, .int (nI P.1)], gI g ly 30 P.2.1, gI g lp 30 P.2.2.1, gI g la 30 P.2.2.2, gO ro 5 [.ref lo, .ref cp, .ref sp, .int (nI yr)]]) (As := [.int (nI i), .int (nI j)]) (rest := [.int (nI ((j - i) - 1)), .int (nI yr), .ref lo]) (n := 2) F (c_X3_twiceArea l g cp cx cy L.1 hx_ hy_ L.2.1 L.2.2 i j (by omega) (h1) (h2) (by omega) (by omega)) gX5_cutNecks_X3_twiceArea rfl (by decide) ⟨by decide, by decide⟩ 5 3 rfl rfl rfl rfl hl.1 rfl (Nat.le_of_ble_eq_true rfl) dX5_cutNecks_46 ⟨Nat.le_of_ble_eq_true rfl, Nat.le_of_ble_eq_true rfl⟩ hK hP hD hS hA [5, 6, 7] [0, 1, 2, 3, 4] (by decide) rfl rfl (by decide) (by decide) (fun r_46 u_46 H locs hw_46 hP hD hS => ?_)
          have hP : gP g [gO lo 0 [.ref ly, .ref lp, .ref la, .int (nI P.1)], gI g ly 30 P.2.1, gI g lp 30 P.2.2.1, gI g la 30 P.2.2.2, gO ro 5 [.ref lo, .ref cp, .ref sp, .int (nI yr)], gO cp 3 [.ref cx, .ref cy, .int (nI L.1)], gI g cx 48 hx_, gI g cy 48 hy_] H := hP
          have hD : va_D A [gO lo 0 [.ref ly, .ref lp, .ref la, .int (nI P.1)], gI g ly 30 P.2.1, gI g lp 30 P.2.2.1, gI g la 30 P.2.2.2, gO ro 5 [.ref lo, .ref cp, .ref sp, .int (nI yr)], gO cp 3 [.ref cx, .ref cy, .int (nI L.1)], gI g cx 48 hx_, gI g cy 48 hy_] := hD
          obtain rfl := hw_46
          refine g_VV (wr := [gO ro 5 [.ref lo, .ref cp, .ref sp, .int (nI yr)], gO cp 3 [.ref cx, .ref cy, .int (nI L.1)], gI g cx 48 hx_, gI g cy 48 hy_]) (As := [.int (nI yr), .int (nI ((j - i) - 1)), .int (areaS L.2.1 L.2.2 i j)]) (rest := []) (n := 3) F (c_X0_note l g lo ly lp la P.1 P.2.1 P.2.2.1 P.2.2.2 (nI yr) (nI ((j - i) - 1)) (areaS L.2.1 L.2.2 i j) (by omega)) gX5_cutNecks_X0_note rfl (by decide) ⟨by decide, by decide⟩ 0 0 rfl rfl rfl rfl hl.1 rfl (Nat.le_of_ble_eq_true rfl) dX5_cutNecks_49 ⟨Nat.le_of_ble_eq_true rfl, Nat.le_of_ble_eq_true rfl⟩ hK hP hD hS hA [0, 1, 2, 3] [4, 5, 6, 7] (by decide) rfl rfl (by decide) (by decide) (fun u_49 H locs hw_49 hP hD hS => ?_)
          have hP : gP g [gO ro 5 [.ref lo, .ref cp, .ref sp, .int (nI yr)], gO cp 3 [.ref cx, .ref cy, .int (nI L.1)], gI g cx 48 hx_, gI g cy 48 hy_, gO lo 0 [.ref ly, .ref lp, .ref la, .int (nI (noteN P.1))], gI g ly 30 (noteR P.2.1 P.1 (nI yr)), gI g lp 30 (noteR P.2.2.1 P.1 (nI ((j - i) - 1))), gI g la 30 (noteR P.2.2.2 P.1 (areaS L.2.1 L.2.2 i j))] H := hP
          have hD : va_D A [gO ro 5 [.ref lo, .ref cp, .ref sp, .int (nI yr)], gO cp 3 [.ref cx, .ref cy, .int (nI L.1)], gI g cx 48 hx_, gI g cy 48 hy_, gO lo 0 [.ref ly, .ref lp, .ref la, .int (nI (noteN P.1))], gI g ly 30 (noteR P.2.1 P.1 (nI yr)), gI g lp 30 (noteR P.2.2.1 P.1 (nI ((j - i) - 1))), gI g la 30 (noteR P.2.2.2 P.1 (areaS L.2.1 L.2.2 i j))] := hD
          refine lv_aload_n hx hb dX5_cutNecks_52 rfl (lv_at hl 1 rfl) ?_
          refine g_get (C := RX5) (T := TX5) (N := 4) F hK hP i_X5_cutNecks_X5 0 rfl rfl 1 (by decide) k_X5_cutNecks_f21 (v := .ref cp) rfl dX5_cutNecks_53 ?_
          refine lv_iload_n hx hb dX5_cutNecks_56 rfl (lv_at hl 3 rfl) ?_
          refine lv_iload_n hx hb dX5_cutNecks_57 rfl (lv_at hl 0 rfl) ?_
          refine g_VV (wr := [gO ro 5 [.ref lo, .ref cp, .ref sp, .int (nI yr)], gO lo 0 [.ref ly, .ref lp, .ref la, .int (nI (noteN P.1))], gI g ly 30 (noteR P.2.1 P.1 (nI yr)), gI g lp 30 (noteR P.2.2.1 P.1 (nI ((j - i) - 1))), gI g la 30 (noteR P.2.2.2 P.1 (areaS L.2.1 L.2.2 i j))]) (As := [.int (nI i), .int (nI j)]) (rest := []) (n := 2) F (c_X3_leaveOutBetween l g cp cx cy L.1 hx_ hy_ L.2.1 L.2.2 i j (by omega) (h1) (h2) (by omega) (by omega)) gX5_cutNecks_X3_leaveOutBetween rfl (by decide) ⟨by decide, by decide⟩ 1 3 rfl rfl rfl rfl hl.1 rfl (Nat.le_of_ble_eq_true rfl) dX5_cutNecks_58 ⟨Nat.le_of_ble_eq_true rfl, Nat.le_of_ble_eq_true rfl⟩ hK hP hD hS hA [1, 2, 3] [0, 4, 5, 6, 7] (by decide) rfl rfl (by decide) (by decide) (fun u_58 H locs hw_58 hP hD hS => ?_)
          obtain ⟨fx2_58, fy2_58⟩ := u_58
          have hP : gP g [gO ro 5 [.ref lo, .ref cp, .ref sp, .int (nI yr)], gO lo 0 [.ref ly, .ref lp, .ref la, .int (nI (noteN P.1))], gI g ly 30 (noteR P.2.1 P.1 (nI yr)), gI g lp 30 (noteR P.2.2.1 P.1 (nI ((j - i) - 1))), gI g la 30 (noteR P.2.2.2 P.1 (areaS L.2.1 L.2.2 i j)), gO cp 3 [.ref cx, .ref cy, .int (nI (L.1 - (j - i - 1)))], gI g cx 48 fx2_58, gI g cy 48 fy2_58] H := hP
          have hD : va_D A [gO ro 5 [.ref lo, .ref cp, .ref sp, .int (nI yr)], gO lo 0 [.ref ly, .ref lp, .ref la, .int (nI (noteN P.1))], gI g ly 30 (noteR P.2.1 P.1 (nI yr)), gI g lp 30 (noteR P.2.2.1 P.1 (nI ((j - i) - 1))), gI g la 30 (noteR P.2.2.2 P.1 (areaS L.2.1 L.2.2 i j)), gO cp 3 [.ref cx, .ref cy, .int (nI (L.1 - (j - i - 1)))], gI g cx 48 fx2_58, gI g cy 48 fy2_58] := hD
          try dsimp only at hw_58
          obtain ⟨hX2_58, hY2_58⟩ := hw_58
          refine lv_iinc (v := (nI (i + 1))) (lv' := [(2, .int (nI (i + 1))), (3, .int (nI j)), (0, .ref ro), (1, .int nr)]) hx hb dX5_cutNecks_61 hl (k := 3) rfl (g_inc i 1 (by decide)) (by decide) rfl (fun ls hl => ?_)
          refine lv_goto (tgt := 2) hx hb dX5_cutNecks_64 (by decide) ?_
          exact ih_2 (i + 1) (cutA L i j) (noteN P.1, noteR P.2.1 P.1 (nI yr), noteR P.2.2.1 P.1 (nI (j - i - 1)), noteR P.2.2.2 P.1 (areaS L.2.1 L.2.2 i j)) fx2_58 fy2_58 ls _ _ (by omega) (by omega) (by show L.1 - (j - i - 1) ≤ 48; omega) (noteN_le h30) (hX2_58) (hY2_58) (by rw [← hc, cutS_cut (by omega) h48 hj hz, noteS_eq]) (lv_sub hl [2, 3, 0] rfl) hP hD hS
  exact L2 ((48 - 0) + 1) 0 (n, X, Y) (ln, fy0, fp0, fa0) fx fy ls _ _ (Nat.lt_succ_self _) (by omega) (hn) (hln) (hX) (hY) (rfl) (lv_sub hl [1, 2, 0] rfl) hP hD hS

