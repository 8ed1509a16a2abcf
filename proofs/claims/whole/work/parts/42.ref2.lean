/-- a row written in line b alone, up to k: as X there, the rest as before -/
def lnW (b k : Nat) (X f g : RW) : Prop := (∀ j, j < k → g (48 * b + j) = X j) ∧ ∀ q, (q < 48 * b ∨ 48 * b + k ≤ q) → g q = f q
theorem lnW_0 (b : Nat) (X f : RW) : lnW b 0 X f f := ⟨fun j h => absurd h (Nat.not_lt_zero j), fun _ _ => rfl⟩
theorem lnW_s {b k : Nat} {X f g : RW} {x : Int32} (h : lnW b k X f g) (hx : x = X k) : lnW b (k + 1) X f (upd g (48 * b + k) x) := by
  refine ⟨fun j hj => ?_, fun q hq => ?_⟩
  · by_cases e : j = k
    · subst e; rw [pk_us]; exact hx
    · rw [pk_un (by omega)]; exact h.1 j (by omega)
  · rw [pk_un (by omega)]; exact h.2 q (by omega)
abbrev rm_X9_copy : Room := { frames := 0, cells := 0, slots := 0, locals := 0 }
theorem i_X9_copy_X9 : ∀ w ∈ wsX90, w ∈ wsX9_copy := by decide +kernel
theorem k_X9_copy_f34 : Cond.fieldLink RX9 34 (TX9 6).1 (TX9 6).2.1 (TX9 6).2.2.1 ∈ wsX9_copy := by decide +kernel
theorem k_X9_copy_f27 : Cond.fieldLink RX9 27 (TX9 4).1 (TX9 4).2.1 (TX9 4).2.2.1 ∈ wsX9_copy := by decide +kernel
theorem k_X9_copy_f31 : Cond.fieldLink RX9 31 (TX9 5).1 (TX9 5).2.1 (TX9 5).2.2.1 ∈ wsX9_copy := by decide +kernel
set_option maxHeartbeats 4000000 in
set_option maxRecDepth 100000 in
theorem c_X9_copy (l : Launch) (g : gT) (mo : Nat) (th : Int32) (zt : Nat) (tn : Nat) (sz : Nat) (zx : Nat) (zy : Nat) (zm : Nat) (zb : Nat) (rt : Int32) (w0 : Int32) (w1 : Int32) (w2 : Int32) (lg : Int32) (nr : Int32) (yr : Nat) (va : Nat) (vb : Nat) (vc : Nat) (vd : Nat) (qa : Nat) (qb : Nat) (qc : Nat) (ln : Nat) (sa : Nat) (sb : Nat) (sc : Nat) (sd : Nat) (se : Nat) (pn : Nat) (ma : Nat) (mb : Nat) (mc : Nat) (rv : Nat) (mn : Nat) (tol : Int32) (rn : Nat) (a3 : Nat) (b3 : Nat) (n : Nat) (fm : Nat → Int32) (fx : Nat → Int32) (fy : Nat → Int32) (X : Nat → Int32) (Y : Nat → Int32) (hq1 : a3 < 3) (hq2 : b3 < 3) (hab : a3 ≠ b3) (hm2 : fm a3 = nI n) (hn : n ≤ 48) (hX : ∀ k, k < n → fx (48 * a3 + k) = X k) (hY : ∀ k, k < n → fy (48 * a3 + k) = Y k) : CtV l g yX9_copy wsX9_copy rm_X9_copy [.ref mo, .int (nI a3), .int (nI b3)] [gO mo 9 [.int th, .ref zt, .int (nI tn), .int (nI sz), .ref zx, .ref zy, .ref zm, .ref zb, .int rt, .int w0, .int w1, .int w2, .int lg, .int nr, .int (nI yr), .ref va, .ref vb, .ref vc, .ref vd, .ref qa, .ref qb, .ref qc, .int (nI ln), .ref sa, .ref sb, .ref sc, .ref sd, .ref se, .int (nI pn), .ref ma, .ref mb, .ref mc, .ref rv, .int (nI mn), .int tol, .int (nI rn)], gI g zx 144 fx, gI g zy 144 fy, gI g zm 3 fm] (fun (u : (Nat → Int32) × (Nat → Int32)) => lnW b3 n X fx u.1 ∧ lnW b3 n Y fy u.2) (fun (u : (Nat → Int32) × (Nat → Int32)) => [gO mo 9 [.int th, .ref zt, .int (nI tn), .int (nI sz), .ref zx, .ref zy, .ref zm, .ref zb, .int rt, .int w0, .int w1, .int w2, .int lg, .int nr, .int (nI yr), .ref va, .ref vb, .ref vc, .ref vd, .ref qa, .ref qb, .ref qc, .int (nI ln), .ref sa, .ref sb, .ref sc, .ref sd, .ref se, .int (nI pn), .ref ma, .ref mb, .ref mc, .ref rv, .int (nI mn), .int tol, .int (nI rn)], gI g zx 144 u.1, gI g zy 144 u.2, gI g zm 3 (upd fm b3 (nI n))]) := by
  refine CtV.of (cc := cX9_copy) (maxL := 4) (by decide) rfl (Nat.le_of_ble_eq_true rfl) ?_
  intro p e s m args below meth c A Q hnm F hK hA hP hD hS hret ls hl
  have hx := F.1
  have hb := F.2.1
  have hl : lv_has ls 4 [(0, .ref mo), (1, .int (nI a3)), (2, .int (nI b3))] := hl
  refine lv_aload_n hx hb dX9_copy_0 rfl (lv_at hl 0 rfl) ?_
  refine g_get (C := RX9) (T := TX9) (N := 36) F hK hP i_X9_copy_X9 0 rfl rfl 6 (by decide) k_X9_copy_f34 (v := .ref zm) rfl dX9_copy_1 ?_
  refine lv_iload_n hx hb dX9_copy_4 rfl (lv_at hl 2 rfl) ?_
  refine lv_aload_n hx hb dX9_copy_5 rfl (lv_at hl 0 rfl) ?_
  refine g_get (C := RX9) (T := TX9) (N := 36) F hK hP i_X9_copy_X9 0 rfl rfl 6 (by decide) k_X9_copy_f34 (v := .ref zm) rfl dX9_copy_6 ?_
  refine lv_iload_n hx hb dX9_copy_9 rfl (lv_at hl 1 rfl) ?_
  refine g_iald (i := a3) (v := (nI n)) hx hb hK hP 3 rfl (by decide) (by omega) (hm2) dX9_copy_10 ?_
  refine g_iast (i := b3) (ws2 := [gO mo 9 [.int th, .ref zt, .int (nI tn), .int (nI sz), .ref zx, .ref zy, .ref zm, .ref zb, .int rt, .int w0, .int w1, .int w2, .int lg, .int nr, .int (nI yr), .ref va, .ref vb, .ref vc, .ref vd, .ref qa, .ref qb, .ref qc, .int (nI ln), .ref sa, .ref sb, .ref sc, .ref sd, .ref se, .int (nI pn), .ref ma, .ref mb, .ref mc, .ref rv, .int (nI mn), .int tol, .int (nI rn)], gI g zx 144 fx, gI g zy 144 fy, gI g zm 3 (upd fm b3 (nI n))]) hx hb hK hP hD hS 3 rfl (by decide) (by omega) rfl dX9_copy_11 (fun H locs hP hD hS => ?_)
  refine lv_iconst (v := 0) hx hb dX9_copy_12 (by decide) ?_
  refine lv_istore_n (lv' := [(3, .int 0), (0, .ref mo), (1, .int (nI a3)), (2, .int (nI b3))]) hx hb dX9_copy_13 rfl hl (by decide) rfl (fun ls hl => ?_)
  have L14 : ∀ (fuel : Nat) (k : Nat) (gx : Nat → Int32) (gy : Nat → Int32) (ls : Array Slot) (H : Heap) (locs : List Loc), n - k < fuel → (k ≤ n) → (lnW b3 k X fx gx) → (lnW b3 k Y fy gy) → lv_has ls 4 [(0, .ref mo), (1, .int (nI a3)), (2, .int (nI b3)), (3, .int (nI k))] → gP g [gO mo 9 [.int th, .ref zt, .int (nI tn), .int (nI sz), .ref zx, .ref zy, .ref zm, .ref zb, .int rt, .int w0, .int w1, .int w2, .int lg, .int nr, .int (nI yr), .ref va, .ref vb, .ref vc, .ref vd, .ref qa, .ref qb, .ref qc, .int (nI ln), .ref sa, .ref sb, .ref sc, .ref sd, .ref se, .int (nI pn), .ref ma, .ref mb, .ref mc, .ref rv, .int (nI mn), .int tol, .int (nI rn)], gI g zx 144 gx, gI g zy 144 gy, gI g zm 3 (upd fm b3 (nI n))] H → va_D A [gO mo 9 [.int th, .ref zt, .int (nI tn), .int (nI sz), .ref zx, .ref zy, .ref zm, .ref zb, .int rt, .int w0, .int w1, .int w2, .int lg, .int nr, .int (nI yr), .ref va, .ref vb, .ref vc, .ref vd, .ref qa, .ref qb, .ref qc, .int (nI ln), .ref sa, .ref sb, .ref sc, .ref sd, .ref se, .int (nI pn), .ref ma, .ref mb, .ref mc, .ref rv, .int (nI mn), .int tol, .int (nI rn)], gI g zx 144 gx, gI g zy 144 gy, gI g zm 3 (upd fm b3 (nI n))] → va_S A s.heap H locs → W p l e rm_X9_copy s m args below meth c H locs 0 0 Q (F0 m 14 ls []) := by
    intro fuel
    induction fuel with
    | zero => intro k gx gy _ _ _ hk; exact absurd hk (Nat.not_lt_zero _)
    | succ fuel_14 ih_14 =>
      intro k gx gy ls H locs hk_14 hk h1 h2 hl hP hD hS
      refine lv_iload_n hx hb dX9_copy_14 rfl (lv_at hl 3 rfl) ?_
      refine lv_aload_n hx hb dX9_copy_15 rfl (lv_at hl 0 rfl) ?_
      refine g_get (C := RX9) (T := TX9) (N := 36) F hK hP i_X9_copy_X9 0 rfl rfl 6 (by decide) k_X9_copy_f34 (v := .ref zm) rfl dX9_copy_16 ?_
      refine lv_iload_n hx hb dX9_copy_19 rfl (lv_at hl 1 rfl) ?_
      refine g_iald (i := a3) (v := (nI n)) hx hb hK hP 3 rfl (by decide) (by omega) ((pk_un hab).trans hm2) dX9_copy_20 ?_
      refine n_icmp_ge (a := k) (b := n) (tgt := 74) hx hb dX9_copy_21 (by decide) (by omega) (by omega) (fun c_21 => ?_) (fun c_21 => ?_)
      · obtain rfl : n = k := by omega
        exact hret _ _ _ _ (gx, gy) dX9_copy_74 (⟨h1, h2⟩) hP hD hS
      · refine lv_aload_n hx hb dX9_copy_24 rfl (lv_at hl 0 rfl) ?_
        refine g_get (C := RX9) (T := TX9) (N := 36) F hK hP i_X9_copy_X9 0 rfl rfl 4 (by decide) k_X9_copy_f27 (v := .ref zx) rfl dX9_copy_25 ?_
        refine lv_bipush (v := 48) hx hb dX9_copy_28 (by decide) ?_
        refine lv_iload_n hx hb dX9_copy_30 rfl (lv_at hl 2 rfl) ?_
        refine n_imul (a := 48) (b := b3) (d := 48 * b3) hx hb dX9_copy_31 (rfl) ?_
        refine lv_iload_n hx hb dX9_copy_32 rfl (lv_at hl 3 rfl) ?_
        refine n_iadd (a := 48 * b3) (b := k) (d := 48 * b3 + k) hx hb dX9_copy_33 (by omega) ?_
        refine lv_aload_n hx hb dX9_copy_34 rfl (lv_at hl 0 rfl) ?_
        refine g_get (C := RX9) (T := TX9) (N := 36) F hK hP i_X9_copy_X9 0 rfl rfl 4 (by decide) k_X9_copy_f27 (v := .ref zx) rfl dX9_copy_35 ?_
        refine lv_bipush (v := 48) hx hb dX9_copy_38 (by decide) ?_
        refine lv_iload_n hx hb dX9_copy_40 rfl (lv_at hl 1 rfl) ?_
        refine n_imul (a := 48) (b := a3) (d := 48 * a3) hx hb dX9_copy_41 (rfl) ?_
        refine lv_iload_n hx hb dX9_copy_42 rfl (lv_at hl 3 rfl) ?_
        refine n_iadd (a := 48 * a3) (b := k) (d := 48 * a3 + k) hx hb dX9_copy_43 (by omega) ?_
        refine g_iald (i := 48 * a3 + k) (v := (X k)) hx hb hK hP 1 rfl (by decide) (by omega) ((h1.2 _ (by omega)).trans (hX k (by omega))) dX9_copy_44 ?_
        refine g_iast (i := 48 * b3 + k) (ws2 := [gO mo 9 [.int th, .ref zt, .int (nI tn), .int (nI sz), .ref zx, .ref zy, .ref zm, .ref zb, .int rt, .int w0, .int w1, .int w2, .int lg, .int nr, .int (nI yr), .ref va, .ref vb, .ref vc, .ref vd, .ref qa, .ref qb, .ref qc, .int (nI ln), .ref sa, .ref sb, .ref sc, .ref sd, .ref se, .int (nI pn), .ref ma, .ref mb, .ref mc, .ref rv, .int (nI mn), .int tol, .int (nI rn)], gI g zx 144 (upd gx (48 * b3 + k) (X k)), gI g zy 144 gy, gI g zm 3 (upd fm b3 (nI n))]) hx hb hK hP hD hS 1 rfl (by decide) (by omega) rfl dX9_copy_45 (fun H locs hP hD hS => ?_)
        refine lv_aload_n hx hb dX9_copy_46 rfl (lv_at hl 0 rfl) ?_
        refine g_get (C := RX9) (T := TX9) (N := 36) F hK hP i_X9_copy_X9 0 rfl rfl 5 (by decide) k_X9_copy_f31 (v := .ref zy) rfl dX9_copy_47 ?_
        refine lv_bipush (v := 48) hx hb dX9_copy_50 (by decide) ?_
        refine lv_iload_n hx hb dX9_copy_52 rfl (lv_at hl 2 rfl) ?_
        refine n_imul (a := 48) (b := b3) (d := 48 * b3) hx hb dX9_copy_53 (rfl) ?_
        refine lv_iload_n hx hb dX9_copy_54 rfl (lv_at hl 3 rfl) ?_
        refine n_iadd (a := 48 * b3) (b := k) (d := 48 * b3 + k) hx hb dX9_copy_55 (by omega) ?_
        refine lv_aload_n hx hb dX9_copy_56 rfl (lv_at hl 0 rfl) ?_
        refine g_get (C := RX9) (T := TX9) (N := 36) F hK hP i_X9_copy_X9 0 rfl rfl 5 (by decide) k_X9_copy_f31 (v := .ref zy) rfl dX9_copy_57 ?_
        refine lv_bipush (v := 48) hx hb dX9_copy_60 (by decide) ?_
        refine lv_iload_n hx hb dX9_copy_62 rfl (lv_at hl 1 rfl) ?_
        refine n_imul (a := 48) (b := a3) (d := 48 * a3) hx hb dX9_copy_63 (rfl) ?_
        refine lv_iload_n hx hb dX9_copy_64 rfl (lv_at hl 3 rfl) ?_
        refine n_iadd (a := 48 * a3) (b := k) (d := 48 * a3 + k) hx hb dX9_copy_65 (by omega) ?_
        refine g_iald (i := 48 * a3 + k) (v := (Y k)) hx hb hK hP 2 rfl (by decide) (by omega) ((h2.2 _ (by omega)).trans (hY k (by omega))) dX9_copy_66 ?_
        refine g_iast (i := 48 * b3 + k) (ws2 := [gO mo 9 [.int th, .ref zt, .int (nI tn), .int (nI sz), .ref zx, .ref zy, .ref zm, .ref zb, .int rt, .int w0, .int w1, .int w2, .int lg, .int nr, .int (nI yr), .ref va, .ref vb, .ref vc, .ref vd, .ref qa, .ref qb, .ref qc, .int (nI ln), .ref sa, .ref sb, .ref sc, .ref sd, .ref se, .int (nI pn), .ref ma, .ref mb, .ref mc, .ref rv, .int (nI mn), .int tol, .int (nI rn)], gI g zx 144 (upd gx (48 * b3 + k) (X k)), gI g zy 144 (upd gy (48 * b3 + k) (Y k)), gI g zm 3 (upd fm b3 (nI n))]) hx hb hK hP hD hS 2 rfl (by decide) (by omega) rfl dX9_copy_67 (fun H locs hP hD hS => ?_)
        refine lv_iinc (v := (nI (k + 1))) (lv' := [(3, .int (nI (k + 1))), (0, .ref mo), (1, .int (nI a3)), (2, .int (nI b3))]) hx hb dX9_copy_68 hl (k := 3) rfl (g_inc k 1 (by decide)) (by decide) rfl (fun ls hl => ?_)
        refine lv_goto (tgt := 14) hx hb dX9_copy_71 (by decide) ?_
        exact ih_14 (k + 1) (upd gx (48 * b3 + k) (X k)) (upd gy (48 * b3 + k) (Y k)) ls _ _ (by omega) (by omega) (lnW_s h1 rfl) (lnW_s h2 rfl) (lv_sub hl [1, 2, 3, 0] rfl) hP hD hS
  exact L14 ((n - 0) + 1) 0 fx fy ls _ _ (Nat.lt_succ_self _) (by omega) (lnW_0 _ _ _) (lnW_0 _ _ _) (lv_sub hl [1, 2, 3, 0] rfl) hP hD hS

abbrev rm_X9_bend : Room := { frames := 0, cells := 0, slots := 0, locals := 0 }
theorem i_X9_bend_X9 : ∀ w ∈ wsX90, w ∈ wsX9_bend := by decide +kernel
theorem k_X9_bend_f34 : Cond.fieldLink RX9 34 (TX9 6).1 (TX9 6).2.1 (TX9 6).2.2.1 ∈ wsX9_bend := by decide +kernel
theorem k_X9_bend_f27 : Cond.fieldLink RX9 27 (TX9 4).1 (TX9 4).2.1 (TX9 4).2.2.1 ∈ wsX9_bend := by decide +kernel
set_option maxHeartbeats 4000000 in
set_option maxRecDepth 100000 in
theorem c_X9_bend_1 (l : Launch) (g : gT) (mo : Nat) (th : Int32) (zt : Nat) (tn : Nat) (sz : Nat) (zx : Nat) (zy : Nat) (zm : Nat) (zb : Nat) (rt : Int32) (w0 : Int32) (w1 : Int32) (w2 : Int32) (lg : Int32) (nr : Int32) (yr : Nat) (va : Nat) (vb : Nat) (vc : Nat) (vd : Nat) (qa : Nat) (qb : Nat) (qc : Nat) (ln : Nat) (sa : Nat) (sb : Nat) (sc : Nat) (sd : Nat) (se : Nat) (pn : Nat) (ma : Nat) (mb : Nat) (mc : Nat) (rv : Nat) (mn : Nat) (tol : Int32) (rn : Nat) (l_ : Nat) (n : Nat) (fm : Nat → Int32) (fx : Nat → Int32) (fy : Nat → Int32) (X : Nat → Int32) (Y : Nat → Int32) (v : Int32) (hl3 : l_ < 3) (hm : fm l_ = nI n) (hn : n ≤ 48) (hX : ∀ k, k < n → fx (48 * l_ + k) = X k) (hY : ∀ k, k < n → fy (48 * l_ + k) = Y k) (h2n : 2 ≤ n) : CtI l g yX9_bend wsX9_bend rm_X9_bend [.ref mo, .int (nI l_), .int v, .int 1] [gO mo 9 [.int th, .ref zt, .int (nI tn), .int (nI sz), .ref zx, .ref zy, .ref zm, .ref zb, .int rt, .int w0, .int w1, .int w2, .int lg, .int nr, .int (nI yr), .ref va, .ref vb, .ref vc, .ref vd, .ref qa, .ref qb, .ref qc, .int (nI ln), .ref sa, .ref sb, .ref sc, .ref sd, .ref se, .int (nI pn), .ref ma, .ref mb, .ref mc, .ref rv, .int (nI mn), .int tol, .int (nI rn)], gI g zx 144 fx, gI g zy 144 fy, gI g zm 3 fm] (fun (r : Int32) (_ : Unit) => r = bendI X n v) (fun (_ : Unit) => [gO mo 9 [.int th, .ref zt, .int (nI tn), .int (nI sz), .ref zx, .ref zy, .ref zm, .ref zb, .int rt, .int w0, .int w1, .int w2, .int lg, .int nr, .int (nI yr), .ref va, .ref vb, .ref vc, .ref vd, .ref qa, .ref qb, .ref qc, .int (nI ln), .ref sa, .ref sb, .ref sc, .ref sd, .ref se, .int (nI pn), .ref ma, .ref mb, .ref mc, .ref rv, .int (nI mn), .int tol, .int (nI rn)], gI g zx 144 fx, gI g zy 144 fy, gI g zm 3 fm]) := by
  refine CtI.of (cc := cX9_bend) (maxL := 5) (ret := .int) (by decide) rfl (Nat.le_of_ble_eq_true rfl) ?_
  intro p e s m args below meth c A Q hnm F hK hA hP hD hS hret ls hl
  have hx := F.1
  have hb := F.2.1
  have hl : lv_has ls 5 [(0, .ref mo), (1, .int (nI l_)), (2, .int v), (3, .int 1)] := hl
  refine lv_iload_n hx hb dX9_bend_0 rfl (lv_at hl 2 rfl) ?_
  refine lv_iconst (v := 1) hx hb dX9_bend_1 (by decide) ?_
  refine lv_icmp_lt (tgt := 17) hx hb dX9_bend_2 (by decide) (fun c_2 => ?_) (fun c_2 => ?_)
  · refine lv_iconst (v := 0) hx hb dX9_bend_17 (by decide) ?_
    exact hret _ _ _ _ 0 () dX9_bend_18 rfl (by simp [bendI, c_2]) hP hD hS
  · refine lv_iload_n hx hb dX9_bend_5 rfl (lv_at hl 2 rfl) ?_
    refine lv_aload_n hx hb dX9_bend_6 rfl (lv_at hl 0 rfl) ?_
    refine g_get (C := RX9) (T := TX9) (N := 36) F hK hP i_X9_bend_X9 0 rfl rfl 6 (by decide) k_X9_bend_f34 (v := .ref zm) rfl dX9_bend_7 ?_
    refine lv_iload_n hx hb dX9_bend_10 rfl (lv_at hl 1 rfl) ?_
    refine g_iald (i := l_) (v := (nI n)) hx hb hK hP 3 rfl (by decide) (by omega) (hm) dX9_bend_11 ?_
    refine lv_iconst (v := 1) hx hb dX9_bend_12 (by decide) ?_
    refine n_isub (a := n) (b := 1) (d := n - 1) hx hb dX9_bend_13 (by omega) (by omega) ?_
    refine lv_icmp_lt (tgt := 19) hx hb dX9_bend_14 (by decide) (fun c_14 => ?_) (fun c_14 => ?_)
    · obtain ⟨k, hk1, hk2, rfl⟩ := bend_k hn c_2 ((bend_k2 hn h2n c_2).mp c_14)
      refine lv_bipush (v := 48) hx hb dX9_bend_19 (by decide) ?_
      refine lv_iload_n hx hb dX9_bend_21 rfl (lv_at hl 1 rfl) ?_
      refine n_imul (a := 48) (b := l_) (d := 48 * l_) hx hb dX9_bend_22 (rfl) ?_
      refine lv_iload_n hx hb dX9_bend_23 rfl (lv_at hl 2 rfl) ?_
      refine n_iadd (a := 48 * l_) (b := k) (d := 48 * l_ + k) hx hb dX9_bend_24 (by omega) ?_
      refine lv_istore (lv' := [(4, .int (nI (48 * l_ + k))), (0, .ref mo), (1, .int (nI l_)), (2, .int (nI k)), (3, .int 1)]) hx hb dX9_bend_25 hl (by decide) rfl (fun ls hl => ?_)
      refine lv_iload_n hx hb dX9_bend_27 rfl (lv_at hl 4 rfl) ?_
      refine lv_if_eq (tgt := 63) hx hb dX9_bend_28 (by decide) (fun h => absurd h (by decide)) (fun _ => ?_)
      refine lv_aload_n hx hb dX9_bend_31 rfl (lv_at hl 1 rfl) ?_
      refine g_get (C := RX9) (T := TX9) (N := 36) F hK hP i_X9_bend_X9 0 rfl rfl 4 (by decide) k_X9_bend_f27 (v := .ref zx) rfl dX9_bend_32 ?_
      refine lv_iload hx hb dX9_bend_35 (lv_at hl 0 rfl) ?_
      refine lv_iconst (v := 1) hx hb dX9_bend_37 (by decide) ?_
      refine n_isub (a := 48 * l_ + k) (b := 1) (d := (48 * l_ + k) - 1) hx hb dX9_bend_38 (by omega) (by omega) ?_
      refine g_iald (i := (48 * l_ + k) - 1) (v := (X ((k) - 1))) hx hb hK hP 1 rfl (by decide) (by omega) ((congrArg fx (show (48 * l_ + k) - 1 = 48 * l_ + ((k) - 1) by omega)).trans (hX ((k) - 1) (by omega))) dX9_bend_39 ?_
      refine lv_aload_n hx hb dX9_bend_40 rfl (lv_at hl 1 rfl) ?_
      refine g_get (C := RX9) (T := TX9) (N := 36) F hK hP i_X9_bend_X9 0 rfl rfl 4 (by decide) k_X9_bend_f27 (v := .ref zx) rfl dX9_bend_41 ?_
      refine lv_iload hx hb dX9_bend_44 (lv_at hl 0 rfl) ?_
      refine lv_iconst (v := 1) hx hb dX9_bend_46 (by decide) ?_
      refine n_iadd (a := 48 * l_ + k) (b := 1) (d := 48 * l_ + k + 1) hx hb dX9_bend_47 (by omega) ?_
      refine g_iald (i := 48 * l_ + k + 1) (v := (X (k + 1))) hx hb hK hP 1 rfl (by decide) (by omega) ((congrArg fx (show 48 * l_ + k + 1 = 48 * l_ + (k + 1) by omega)).trans (hX (k + 1) (by omega))) dX9_bend_48 ?_
      refine lv_iadd hx hb dX9_bend_49 ?_
      refine lv_iconst (v := 2) hx hb dX9_bend_50 (by decide) ?_
      refine lv_aload_n hx hb dX9_bend_51 rfl (lv_at hl 1 rfl) ?_
      refine g_get (C := RX9) (T := TX9) (N := 36) F hK hP i_X9_bend_X9 0 rfl rfl 4 (by decide) k_X9_bend_f27 (v := .ref zx) rfl dX9_bend_52 ?_
      refine lv_iload hx hb dX9_bend_55 (lv_at hl 0 rfl) ?_
      refine g_iald (i := 48 * l_ + k) (v := (X k)) hx hb hK hP 1 rfl (by decide) (by omega) ((congrArg fx (show 48 * l_ + k = 48 * l_ + k by omega)).trans (hX k (by omega))) dX9_bend_57 ?_
      refine lv_imul hx hb dX9_bend_58 ?_
      refine lv_isub hx hb dX9_bend_59 ?_
      refine lv_goto (tgt := 92) hx hb dX9_bend_60 (by decide) ?_
      exact hret _ _ _ _ (((X ((k) - 1)) + (X (k + 1))) - (2 * (X k))) () dX9_bend_92 rfl ((bendI_in hk1 hk2 hn).symm) hP hD hS
    · refine lv_iconst (v := 0) hx hb dX9_bend_17 (by decide) ?_
      exact hret _ _ _ _ 0 () dX9_bend_18 rfl (by rw [bendI, if_pos (Or.inr (fun z => c_14 ((bend_k2 hn h2n c_2).mpr z)))]) hP hD hS

theorem k_X9_bend_f31 : Cond.fieldLink RX9 31 (TX9 5).1 (TX9 5).2.1 (TX9 5).2.2.1 ∈ wsX9_bend := by decide +kernel
set_option maxHeartbeats 4000000 in
set_option maxRecDepth 100000 in
theorem c_X9_bend_0 (l : Launch) (g : gT) (mo : Nat) (th : Int32) (zt : Nat) (tn : Nat) (sz : Nat) (zx : Nat) (zy : Nat) (zm : Nat) (zb : Nat) (rt : Int32) (w0 : Int32) (w1 : Int32) (w2 : Int32) (lg : Int32) (nr : Int32) (yr : Nat) (va : Nat) (vb : Nat) (vc : Nat) (vd : Nat) (qa : Nat) (qb : Nat) (qc : Nat) (ln : Nat) (sa : Nat) (sb : Nat) (sc : Nat) (sd : Nat) (se : Nat) (pn : Nat) (ma : Nat) (mb : Nat) (mc : Nat) (rv : Nat) (mn : Nat) (tol : Int32) (rn : Nat) (l_ : Nat) (n : Nat) (fm : Nat → Int32) (fx : Nat → Int32) (fy : Nat → Int32) (X : Nat → Int32) (Y : Nat → Int32) (v : Int32) (hl3 : l_ < 3) (hm : fm l_ = nI n) (hn : n ≤ 48) (hX : ∀ k, k < n → fx (48 * l_ + k) = X k) (hY : ∀ k, k < n → fy (48 * l_ + k) = Y k) (h2n : 2 ≤ n) : CtI l g yX9_bend wsX9_bend rm_X9_bend [.ref mo, .int (nI l_), .int v, .int 0] [gO mo 9 [.int th, .ref zt, .int (nI tn), .int (nI sz), .ref zx, .ref zy, .ref zm, .ref zb, .int rt, .int w0, .int w1, .int w2, .int lg, .int nr, .int (nI yr), .ref va, .ref vb, .ref vc, .ref vd, .ref qa, .ref qb, .ref qc, .int (nI ln), .ref sa, .ref sb, .ref sc, .ref sd, .ref se, .int (nI pn), .ref ma, .ref mb, .ref mc, .ref rv, .int (nI mn), .int tol, .int (nI rn)], gI g zx 144 fx, gI g zy 144 fy, gI g zm 3 fm] (fun (r : Int32) (_ : Unit) => r = bendI Y n v) (fun (_ : Unit) => [gO mo 9 [.int th, .ref zt, .int (nI tn), .int (nI sz), .ref zx, .ref zy, .ref zm, .ref zb, .int rt, .int w0, .int w1, .int w2, .int lg, .int nr, .int (nI yr), .ref va, .ref vb, .ref vc, .ref vd, .ref qa, .ref qb, .ref qc, .int (nI ln), .ref sa, .ref sb, .ref sc, .ref sd, .ref se, .int (nI pn), .ref ma, .ref mb, .ref mc, .ref rv, .int (nI mn), .int tol, .int (nI rn)], gI g zx 144 fx, gI g zy 144 fy, gI g zm 3 fm]) := by
  refine CtI.of (cc := cX9_bend) (maxL := 5) (ret := .int) (by decide) rfl (Nat.le_of_ble_eq_true rfl) ?_
  intro p e s m args below meth c A Q hnm F hK hA hP hD hS hret ls hl
  have hx := F.1
  have hb := F.2.1
  have hl : lv_has ls 5 [(0, .ref mo), (1, .int (nI l_)), (2, .int v), (3, .int 0)] := hl
  refine lv_iload_n hx hb dX9_bend_0 rfl (lv_at hl 2 rfl) ?_
  refine lv_iconst (v := 1) hx hb dX9_bend_1 (by decide) ?_
  refine lv_icmp_lt (tgt := 17) hx hb dX9_bend_2 (by decide) (fun c_2 => ?_) (fun c_2 => ?_)
  · refine lv_iconst (v := 0) hx hb dX9_bend_17 (by decide) ?_
    exact hret _ _ _ _ 0 () dX9_bend_18 rfl (by simp [bendI, c_2]) hP hD hS
  · refine lv_iload_n hx hb dX9_bend_5 rfl (lv_at hl 2 rfl) ?_
    refine lv_aload_n hx hb dX9_bend_6 rfl (lv_at hl 0 rfl) ?_
    refine g_get (C := RX9) (T := TX9) (N := 36) F hK hP i_X9_bend_X9 0 rfl rfl 6 (by decide) k_X9_bend_f34 (v := .ref zm) rfl dX9_bend_7 ?_
    refine lv_iload_n hx hb dX9_bend_10 rfl (lv_at hl 1 rfl) ?_
    refine g_iald (i := l_) (v := (nI n)) hx hb hK hP 3 rfl (by decide) (by omega) (hm) dX9_bend_11 ?_
    refine lv_iconst (v := 1) hx hb dX9_bend_12 (by decide) ?_
    refine n_isub (a := n) (b := 1) (d := n - 1) hx hb dX9_bend_13 (by omega) (by omega) ?_
    refine lv_icmp_lt (tgt := 19) hx hb dX9_bend_14 (by decide) (fun c_14 => ?_) (fun c_14 => ?_)
    · obtain ⟨k, hk1, hk2, rfl⟩ := bend_k hn c_2 ((bend_k2 hn h2n c_2).mp c_14)
      refine lv_bipush (v := 48) hx hb dX9_bend_19 (by decide) ?_
      refine lv_iload_n hx hb dX9_bend_21 rfl (lv_at hl 1 rfl) ?_
      refine n_imul (a := 48) (b := l_) (d := 48 * l_) hx hb dX9_bend_22 (rfl) ?_
      refine lv_iload_n hx hb dX9_bend_23 rfl (lv_at hl 2 rfl) ?_
      refine n_iadd (a := 48 * l_) (b := k) (d := 48 * l_ + k) hx hb dX9_bend_24 (by omega) ?_
      refine lv_istore (lv' := [(4, .int (nI (48 * l_ + k))), (0, .ref mo), (1, .int (nI l_)), (2, .int (nI k)), (3, .int 0)]) hx hb dX9_bend_25 hl (by decide) rfl (fun ls hl => ?_)
      refine lv_iload_n hx hb dX9_bend_27 rfl (lv_at hl 4 rfl) ?_
      refine lv_if_eq (tgt := 63) hx hb dX9_bend_28 (by decide) (fun _ => ?_) (fun h => absurd (by decide) h)
      refine lv_aload_n hx hb dX9_bend_63 rfl (lv_at hl 1 rfl) ?_
      refine g_get (C := RX9) (T := TX9) (N := 36) F hK hP i_X9_bend_X9 0 rfl rfl 5 (by decide) k_X9_bend_f31 (v := .ref zy) rfl dX9_bend_64 ?_
      refine lv_iload hx hb dX9_bend_67 (lv_at hl 0 rfl) ?_
      refine lv_iconst (v := 1) hx hb dX9_bend_69 (by decide) ?_
      refine n_isub (a := 48 * l_ + k) (b := 1) (d := (48 * l_ + k) - 1) hx hb dX9_bend_70 (by omega) (by omega) ?_
      refine g_iald (i := (48 * l_ + k) - 1) (v := (Y ((k) - 1))) hx hb hK hP 2 rfl (by decide) (by omega) ((congrArg fy (show (48 * l_ + k) - 1 = 48 * l_ + ((k) - 1) by omega)).trans (hY ((k) - 1) (by omega))) dX9_bend_71 ?_
      refine lv_aload_n hx hb dX9_bend_72 rfl (lv_at hl 1 rfl) ?_
      refine g_get (C := RX9) (T := TX9) (N := 36) F hK hP i_X9_bend_X9 0 rfl rfl 5 (by decide) k_X9_bend_f31 (v := .ref zy) rfl dX9_bend_73 ?_
      refine lv_iload hx hb dX9_bend_76 (lv_at hl 0 rfl) ?_
      refine lv_iconst (v := 1) hx hb dX9_bend_78 (by decide) ?_
      refine n_iadd (a := 48 * l_ + k) (b := 1) (d := 48 * l_ + k + 1) hx hb dX9_bend_79 (by omega) ?_
      refine g_iald (i := 48 * l_ + k + 1) (v := (Y (k + 1))) hx hb hK hP 2 rfl (by decide) (by omega) ((congrArg fy (show 48 * l_ + k + 1 = 48 * l_ + (k + 1) by omega)).trans (hY (k + 1) (by omega))) dX9_bend_80 ?_
      refine lv_iadd hx hb dX9_bend_81 ?_
      refine lv_iconst (v := 2) hx hb dX9_bend_82 (by decide) ?_
      refine lv_aload_n hx hb dX9_bend_83 rfl (lv_at hl 1 rfl) ?_
      refine g_get (C := RX9) (T := TX9) (N := 36) F hK hP i_X9_bend_X9 0 rfl rfl 5 (by decide) k_X9_bend_f31 (v := .ref zy) rfl dX9_bend_84 ?_
      refine lv_iload hx hb dX9_bend_87 (lv_at hl 0 rfl) ?_
      refine g_iald (i := 48 * l_ + k) (v := (Y k)) hx hb hK hP 2 rfl (by decide) (by omega) ((congrArg fy (show 48 * l_ + k = 48 * l_ + k by omega)).trans (hY k (by omega))) dX9_bend_89 ?_
      refine lv_imul hx hb dX9_bend_90 ?_
      refine lv_isub hx hb dX9_bend_91 ?_
      exact hret _ _ _ _ (((Y ((k) - 1)) + (Y (k + 1))) - (2 * (Y k))) () dX9_bend_92 rfl ((bendI_in hk1 hk2 hn).symm) hP hD hS
    · refine lv_iconst (v := 0) hx hb dX9_bend_17 (by decide) ?_
      exact hret _ _ _ _ 0 () dX9_bend_18 rfl (by rw [bendI, if_pos (Or.inr (fun z => c_14 ((bend_k2 hn h2n c_2).mpr z)))]) hP hD hS

theorem bidx_c (x y : Int32) : (8 * (y / 64) + x / 64).toNatClampNeg = bidx x y := by rw [bidx, Int32.add_comm]
theorem bidx_v {x y : Int32} (hx : inP x) (hy : inP y) : vp_in (8 * (y / 64) + x / 64) 64 := by rw [Int32.add_comm]; exact (bidx_in hx hy).1
abbrev rm_X9_moved : Room := { frames := 1, cells := 0, slots := 0, locals := 24 }
theorem i_X9_moved_X9 : ∀ w ∈ wsX90, w ∈ wsX9_moved := by decide +kernel
theorem k_X9_moved_f43 : Cond.fieldLink RX9 43 (TX9 9).1 (TX9 9).2.1 (TX9 9).2.2.1 ∈ wsX9_moved := by decide +kernel
theorem k_X9_moved_f46 : Cond.fieldLink RX9 46 (TX9 10).1 (TX9 10).2.1 (TX9 10).2.2.1 ∈ wsX9_moved := by decide +kernel
theorem k_X9_moved_f49 : Cond.fieldLink RX9 49 (TX9 11).1 (TX9 11).2.1 (TX9 11).2.2.1 ∈ wsX9_moved := by decide +kernel
theorem k_X9_moved_f37 : Cond.fieldLink RX9 37 (TX9 7).1 (TX9 7).2.1 (TX9 7).2.2.1 ∈ wsX9_moved := by decide +kernel
theorem k_X9_moved_f31 : Cond.fieldLink RX9 31 (TX9 5).1 (TX9 5).2.1 (TX9 5).2.2.1 ∈ wsX9_moved := by decide +kernel
theorem k_X9_moved_f27 : Cond.fieldLink RX9 27 (TX9 4).1 (TX9 4).2.1 (TX9 4).2.2.1 ∈ wsX9_moved := by decide +kernel
set_option maxHeartbeats 4000000 in
set_option maxRecDepth 100000 in
theorem c_X9_moved_1 (l : Launch) (g : gT) (mo : Nat) (th : Int32) (zt : Nat) (tn : Nat) (sz : Nat) (zx : Nat) (zy : Nat) (zm : Nat) (zb : Nat) (rt : Int32) (w0 : Int32) (w1 : Int32) (w2 : Int32) (lg : Int32) (nr : Int32) (yr : Nat) (va : Nat) (vb : Nat) (vc : Nat) (vd : Nat) (qa : Nat) (qb : Nat) (qc : Nat) (ln : Nat) (sa : Nat) (sb : Nat) (sc : Nat) (sd : Nat) (se : Nat) (pn : Nat) (ma : Nat) (mb : Nat) (mc : Nat) (rv : Nat) (mn : Nat) (tol : Int32) (rn : Nat) (l_ : Nat) (n : Nat) (fm : Nat → Int32) (fx : Nat → Int32) (fy : Nat → Int32) (X : Nat → Int32) (Y : Nat → Int32) (fb : Nat → Int32) (B : Nat → Int32) (i : Nat) (rq : Int32) (hl3 : l_ < 3) (hm : fm l_ = nI n) (hn : n ≤ 48) (hX : ∀ k, k < n → fx (48 * l_ + k) = X k) (hY : ∀ k, k < n → fy (48 * l_ + k) = Y k) (hB : ∀ k, k < 64 → fb k = B k) (h2n : 2 ≤ n) (hi : i < n) (hpx : inP (X i)) (hpy : inP (Y i)) : CtI l g yX9_moved wsX9_moved rm_X9_moved [.ref mo, .int (nI l_), .int (nI i), .int rq, .int 1] [gO mo 9 [.int th, .ref zt, .int (nI tn), .int (nI sz), .ref zx, .ref zy, .ref zm, .ref zb, .int rt, .int w0, .int w1, .int w2, .int lg, .int nr, .int (nI yr), .ref va, .ref vb, .ref vc, .ref vd, .ref qa, .ref qb, .ref qc, .int (nI ln), .ref sa, .ref sb, .ref sc, .ref sd, .ref se, .int (nI pn), .ref ma, .ref mb, .ref mc, .ref rv, .int (nI mn), .int tol, .int (nI rn)], gI g zx 144 fx, gI g zy 144 fy, gI g zm 3 fm, gI g zb 64 fb] (fun (r : Int32) (_ : Unit) => r = mvS X n w0 w1 w2 (rq * B (bidx (X i) (Y i))) i) (fun (_ : Unit) => [gO mo 9 [.int th, .ref zt, .int (nI tn), .int (nI sz), .ref zx, .ref zy, .ref zm, .ref zb, .int rt, .int w0, .int w1, .int w2, .int lg, .int nr, .int (nI yr), .ref va, .ref vb, .ref vc, .ref vd, .ref qa, .ref qb, .ref qc, .int (nI ln), .ref sa, .ref sb, .ref sc, .ref sd, .ref se, .int (nI pn), .ref ma, .ref mb, .ref mc, .ref rv, .int (nI mn), .int tol, .int (nI rn)], gI g zx 144 fx, gI g zy 144 fy, gI g zm 3 fm, gI g zb 64 fb]) := by
  refine CtI.of (cc := cX9_moved) (maxL := 9) (ret := .int) (by decide) rfl (Nat.le_of_ble_eq_true rfl) ?_
  intro p e s m args below meth c A Q hnm F hK hA hP hD hS hret ls hl
  have hx := F.1
  have hb := F.2.1
  have hl : lv_has ls 9 [(0, .ref mo), (1, .int (nI l_)), (2, .int (nI i)), (3, .int rq), (4, .int 1)] := hl
  refine lv_bipush (v := 48) hx hb dX9_moved_0 (by decide) ?_
  refine lv_iload_n hx hb dX9_moved_2 rfl (lv_at hl 1 rfl) ?_
  refine n_imul (a := 48) (b := l_) (d := 48 * l_) hx hb dX9_moved_3 (rfl) ?_
  refine lv_iload_n hx hb dX9_moved_4 rfl (lv_at hl 2 rfl) ?_
  refine n_iadd (a := 48 * l_) (b := i) (d := 48 * l_ + i) hx hb dX9_moved_5 (by omega) ?_
  refine lv_istore (lv' := [(5, .int (nI (48 * l_ + i))), (0, .ref mo), (1, .int (nI l_)), (2, .int (nI i)), (3, .int rq), (4, .int 1)]) hx hb dX9_moved_6 hl (by decide) rfl (fun ls hl => ?_)
  refine lv_aload_n hx hb dX9_moved_8 rfl (lv_at hl 1 rfl) ?_
  refine g_get (C := RX9) (T := TX9) (N := 36) F hK hP i_X9_moved_X9 0 rfl rfl 9 (by decide) k_X9_moved_f43 (v := .int w0) rfl dX9_moved_9 ?_
  refine lv_aload_n hx hb dX9_moved_12 rfl (lv_at hl 1 rfl) ?_
  refine lv_iload_n hx hb dX9_moved_13 rfl (lv_at hl 2 rfl) ?_
  refine lv_iload_n hx hb dX9_moved_14 rfl (lv_at hl 3 rfl) ?_
  refine lv_iload hx hb dX9_moved_15 (lv_at hl 5 rfl) ?_
  refine g_VI (wr := [gI g zb 64 fb]) (As := [.int (nI l_), .int (nI i), .int 1]) (rest := [.int w0]) (n := 3) F (c_X9_bend_1 l g mo th zt tn sz zx zy zm zb rt w0 w1 w2 lg nr yr va vb vc vd qa qb qc ln sa sb sc sd se pn ma mb mc rv mn tol rn l_ n fm fx fy X Y (nI i) (hl3) (hm) (hn) (hX) (hY) (h2n)) gX9_moved_X9_bend rfl (by decide) ⟨by decide, by decide⟩ 0 9 rfl rfl rfl rfl hl.1 rfl (Nat.le_of_ble_eq_true rfl) dX9_moved_17 ⟨Nat.le_of_ble_eq_true rfl, Nat.le_of_ble_eq_true rfl⟩ hK hP hD hS hA [0, 1, 2, 3] [4] (by decide) rfl rfl (by decide) (by decide) (fun r_17 u_17 H locs hw_17 hP hD hS => ?_)
  have hP : gP g [gI g zb 64 fb, gO mo 9 [.int th, .ref zt, .int (nI tn), .int (nI sz), .ref zx, .ref zy, .ref zm, .ref zb, .int rt, .int w0, .int w1, .int w2, .int lg, .int nr, .int (nI yr), .ref va, .ref vb, .ref vc, .ref vd, .ref qa, .ref qb, .ref qc, .int (nI ln), .ref sa, .ref sb, .ref sc, .ref sd, .ref se, .int (nI pn), .ref ma, .ref mb, .ref mc, .ref rv, .int (nI mn), .int tol, .int (nI rn)], gI g zx 144 fx, gI g zy 144 fy, gI g zm 3 fm] H := hP
  have hD : va_D A [gI g zb 64 fb, gO mo 9 [.int th, .ref zt, .int (nI tn), .int (nI sz), .ref zx, .ref zy, .ref zm, .ref zb, .int rt, .int w0, .int w1, .int w2, .int lg, .int nr, .int (nI yr), .ref va, .ref vb, .ref vc, .ref vd, .ref qa, .ref qb, .ref qc, .int (nI ln), .ref sa, .ref sb, .ref sc, .ref sd, .ref se, .int (nI pn), .ref ma, .ref mb, .ref mc, .ref rv, .int (nI mn), .int tol, .int (nI rn)], gI g zx 144 fx, gI g zy 144 fy, gI g zm 3 fm] := hD
  obtain rfl := hw_17
  refine lv_imul hx hb dX9_moved_20 ?_
  refine lv_aload_n hx hb dX9_moved_21 rfl (lv_at hl 1 rfl) ?_
  refine g_get (C := RX9) (T := TX9) (N := 36) F hK hP i_X9_moved_X9 1 rfl rfl 10 (by decide) k_X9_moved_f46 (v := .int w1) rfl dX9_moved_22 ?_
  refine lv_aload_n hx hb dX9_moved_25 rfl (lv_at hl 1 rfl) ?_
  refine lv_iload_n hx hb dX9_moved_26 rfl (lv_at hl 2 rfl) ?_
  refine lv_iload_n hx hb dX9_moved_27 rfl (lv_at hl 3 rfl) ?_
  refine lv_iconst (v := 1) hx hb dX9_moved_28 (by decide) ?_
  refine lv_isub hx hb dX9_moved_29 ?_
  refine lv_iload hx hb dX9_moved_30 (lv_at hl 5 rfl) ?_
  refine g_VI (wr := [gI g zb 64 fb]) (As := [.int (nI l_), .int ((nI i) - 1), .int 1]) (rest := [.int w1, .int (w0 * (bendI X n (nI i)))]) (n := 3) F (c_X9_bend_1 l g mo th zt tn sz zx zy zm zb rt w0 w1 w2 lg nr yr va vb vc vd qa qb qc ln sa sb sc sd se pn ma mb mc rv mn tol rn l_ n fm fx fy X Y ((nI i) - 1) (hl3) (hm) (hn) (hX) (hY) (h2n)) gX9_moved_X9_bend rfl (by decide) ⟨by decide, by decide⟩ 1 9 rfl rfl rfl rfl hl.1 rfl (Nat.le_of_ble_eq_true rfl) dX9_moved_32 ⟨Nat.le_of_ble_eq_true rfl, Nat.le_of_ble_eq_true rfl⟩ hK hP hD hS hA [1, 2, 3, 4] [0] (by decide) rfl rfl (by decide) (by decide) (fun r_32 u_32 H locs hw_32 hP hD hS => ?_)
  have hP : gP g [gI g zb 64 fb, gO mo 9 [.int th, .ref zt, .int (nI tn), .int (nI sz), .ref zx, .ref zy, .ref zm, .ref zb, .int rt, .int w0, .int w1, .int w2, .int lg, .int nr, .int (nI yr), .ref va, .ref vb, .ref vc, .ref vd, .ref qa, .ref qb, .ref qc, .int (nI ln), .ref sa, .ref sb, .ref sc, .ref sd, .ref se, .int (nI pn), .ref ma, .ref mb, .ref mc, .ref rv, .int (nI mn), .int tol, .int (nI rn)], gI g zx 144 fx, gI g zy 144 fy, gI g zm 3 fm] H := hP
  have hD : va_D A [gI g zb 64 fb, gO mo 9 [.int th, .ref zt, .int (nI tn), .int (nI sz), .ref zx, .ref zy, .ref zm, .ref zb, .int rt, .int w0, .int w1, .int w2, .int lg, .int nr, .int (nI yr), .ref va, .ref vb, .ref vc, .ref vd, .ref qa, .ref qb, .ref qc, .int (nI ln), .ref sa, .ref sb, .ref sc, .ref sd, .ref se, .int (nI pn), .ref ma, .ref mb, .ref mc, .ref rv, .int (nI mn), .int tol, .int (nI rn)], gI g zx 144 fx, gI g zy 144 fy, gI g zm 3 fm] := hD
  obtain rfl := hw_32
  refine lv_imul hx hb dX9_moved_35 ?_
  refine lv_iadd hx hb dX9_moved_36 ?_
  refine lv_aload_n hx hb dX9_moved_37 rfl (lv_at hl 1 rfl) ?_
  refine g_get (C := RX9) (T := TX9) (N := 36) F hK hP i_X9_moved_X9 1 rfl rfl 11 (by decide) k_X9_moved_f49 (v := .int w2) rfl dX9_moved_38 ?_
  refine lv_aload_n hx hb dX9_moved_41 rfl (lv_at hl 1 rfl) ?_
  refine lv_iload_n hx hb dX9_moved_42 rfl (lv_at hl 2 rfl) ?_
  refine lv_iload_n hx hb dX9_moved_43 rfl (lv_at hl 3 rfl) ?_
  refine lv_iconst (v := 2) hx hb dX9_moved_44 (by decide) ?_
  refine lv_isub hx hb dX9_moved_45 ?_
  refine lv_iload hx hb dX9_moved_46 (lv_at hl 5 rfl) ?_
  refine g_VI (wr := [gI g zb 64 fb]) (As := [.int (nI l_), .int ((nI i) - 2), .int 1]) (rest := [.int w2, .int ((w0 * (bendI X n (nI i))) + (w1 * (bendI X n ((nI i) - 1))))]) (n := 3) F (c_X9_bend_1 l g mo th zt tn sz zx zy zm zb rt w0 w1 w2 lg nr yr va vb vc vd qa qb qc ln sa sb sc sd se pn ma mb mc rv mn tol rn l_ n fm fx fy X Y ((nI i) - 2) (hl3) (hm) (hn) (hX) (hY) (h2n)) gX9_moved_X9_bend rfl (by decide) ⟨by decide, by decide⟩ 1 9 rfl rfl rfl rfl hl.1 rfl (Nat.le_of_ble_eq_true rfl) dX9_moved_48 ⟨Nat.le_of_ble_eq_true rfl, Nat.le_of_ble_eq_true rfl⟩ hK hP hD hS hA [1, 2, 3, 4] [0] (by decide) rfl rfl (by decide) (by decide) (fun r_48 u_48 H locs hw_48 hP hD hS => ?_)
  have hP : gP g [gI g zb 64 fb, gO mo 9 [.int th, .ref zt, .int (nI tn), .int (nI sz), .ref zx, .ref zy, .ref zm, .ref zb, .int rt, .int w0, .int w1, .int w2, .int lg, .int nr, .int (nI yr), .ref va, .ref vb, .ref vc, .ref vd, .ref qa, .ref qb, .ref qc, .int (nI ln), .ref sa, .ref sb, .ref sc, .ref sd, .ref se, .int (nI pn), .ref ma, .ref mb, .ref mc, .ref rv, .int (nI mn), .int tol, .int (nI rn)], gI g zx 144 fx, gI g zy 144 fy, gI g zm 3 fm] H := hP
  have hD : va_D A [gI g zb 64 fb, gO mo 9 [.int th, .ref zt, .int (nI tn), .int (nI sz), .ref zx, .ref zy, .ref zm, .ref zb, .int rt, .int w0, .int w1, .int w2, .int lg, .int nr, .int (nI yr), .ref va, .ref vb, .ref vc, .ref vd, .ref qa, .ref qb, .ref qc, .int (nI ln), .ref sa, .ref sb, .ref sc, .ref sd, .ref se, .int (nI pn), .ref ma, .ref mb, .ref mc, .ref rv, .int (nI mn), .int tol, .int (nI rn)], gI g zx 144 fx, gI g zy 144 fy, gI g zm 3 fm] := hD
  obtain rfl := hw_48
  refine lv_imul hx hb dX9_moved_51 ?_
  refine lv_iadd hx hb dX9_moved_52 ?_
  refine lv_istore (lv' := [(6, .int (((w0 * (bendI X n (nI i))) + (w1 * (bendI X n ((nI i) - 1)))) + (w2 * (bendI X n ((nI i) - 2))))), (5, .int (nI (48 * l_ + i))), (0, .ref mo), (1, .int (nI l_)), (2, .int (nI i)), (3, .int rq), (4, .int 1)]) hx hb dX9_moved_53 hl (by decide) rfl (fun ls hl => ?_)
  refine lv_iload hx hb dX9_moved_55 (lv_at hl 0 rfl) ?_
  refine lv_iload_n hx hb dX9_moved_57 rfl (lv_at hl 5 rfl) ?_
  refine lv_imul hx hb dX9_moved_58 ?_
  refine lv_aload_n hx hb dX9_moved_59 rfl (lv_at hl 2 rfl) ?_
  refine g_get (C := RX9) (T := TX9) (N := 36) F hK hP i_X9_moved_X9 1 rfl rfl 7 (by decide) k_X9_moved_f37 (v := .ref zb) rfl dX9_moved_60 ?_
  refine lv_bipush (v := 8) hx hb dX9_moved_63 (by decide) ?_
  refine lv_aload_n hx hb dX9_moved_65 rfl (lv_at hl 2 rfl) ?_
  refine g_get (C := RX9) (T := TX9) (N := 36) F hK hP i_X9_moved_X9 1 rfl rfl 5 (by decide) k_X9_moved_f31 (v := .ref zy) rfl dX9_moved_66 ?_
  refine lv_iload hx hb dX9_moved_69 (lv_at hl 1 rfl) ?_
  refine g_iald (i := 48 * l_ + i) (v := (Y i)) hx hb hK hP 3 rfl (by decide) (by omega) ((congrArg fy (show 48 * l_ + i = 48 * l_ + i by omega)).trans (hY i (by omega))) dX9_moved_71 ?_
  refine lv_bipush (v := 64) hx hb dX9_moved_72 (by decide) ?_
  refine lv_idiv hx hb dX9_moved_74 (by decide) ?_
  refine lv_imul hx hb dX9_moved_75 ?_
  refine lv_aload_n hx hb dX9_moved_76 rfl (lv_at hl 2 rfl) ?_
  refine g_get (C := RX9) (T := TX9) (N := 36) F hK hP i_X9_moved_X9 1 rfl rfl 4 (by decide) k_X9_moved_f27 (v := .ref zx) rfl dX9_moved_77 ?_
  refine lv_iload hx hb dX9_moved_80 (lv_at hl 1 rfl) ?_
  refine g_iald (i := 48 * l_ + i) (v := (X i)) hx hb hK hP 2 rfl (by decide) (by omega) ((congrArg fx (show 48 * l_ + i = 48 * l_ + i by omega)).trans (hX i (by omega))) dX9_moved_82 ?_
  refine lv_bipush (v := 64) hx hb dX9_moved_83 (by decide) ?_
  refine lv_idiv hx hb dX9_moved_85 (by decide) ?_
  refine lv_iadd hx hb dX9_moved_86 ?_
  refine g_ialdI hx hb hK hP 0 rfl (bidx_v hpx hpy) rfl dX9_moved_87 ?_
  refine g_eqi (y := (B (bidx (X i) (Y i)))) ((congrArg fb (bidx_c (X i) (Y i))).trans (hB _ (bidx_in hpx hpy).2)) ?_
  refine lv_imul hx hb dX9_moved_88 ?_
  refine lv_sipush (v := 10000) hx hb dX9_moved_89 (by decide) ?_
  refine lv_idiv hx hb dX9_moved_92 (by decide) ?_
  refine lv_ineg hx hb dX9_moved_93 ?_
  refine g_eqi (y := (-(feltS X n w0 w1 w2 i * rq * B (bidx (X i) (Y i)) / 10000))) rfl ?_
  refine lv_istore (lv' := [(7, .int (-(feltS X n w0 w1 w2 i * rq * B (bidx (X i) (Y i)) / 10000))), (6, .int (((w0 * (bendI X n (nI i))) + (w1 * (bendI X n ((nI i) - 1)))) + (w2 * (bendI X n ((nI i) - 2))))), (5, .int (nI (48 * l_ + i))), (0, .ref mo), (1, .int (nI l_)), (2, .int (nI i)), (3, .int rq), (4, .int 1)]) hx hb dX9_moved_94 hl (by decide) rfl (fun ls hl => ?_)
  have J122 : ∀ (b8 : Int32) (ls : Array Slot) (H : Heap) (locs : List Loc), (b8 = refB (-(feltS X n w0 w1 w2 i * rq * B (bidx (X i) (Y i)) / 10000))) → lv_has ls 9 [(7, .int (-(feltS X n w0 w1 w2 i * rq * B (bidx (X i) (Y i)) / 10000))), (6, .int (((w0 * (bendI X n (nI i))) + (w1 * (bendI X n ((nI i) - 1)))) + (w2 * (bendI X n ((nI i) - 2))))), (5, .int (nI (48 * l_ + i))), (0, .ref mo), (1, .int (nI l_)), (2, .int (nI i)), (3, .int rq), (4, .int 1)] → gP g [gI g zb 64 fb, gO mo 9 [.int th, .ref zt, .int (nI tn), .int (nI sz), .ref zx, .ref zy, .ref zm, .ref zb, .int rt, .int w0, .int w1, .int w2, .int lg, .int nr, .int (nI yr), .ref va, .ref vb, .ref vc, .ref vd, .ref qa, .ref qb, .ref qc, .int (nI ln), .ref sa, .ref sb, .ref sc, .ref sd, .ref se, .int (nI pn), .ref ma, .ref mb, .ref mc, .ref rv, .int (nI mn), .int tol, .int (nI rn)], gI g zx 144 fx, gI g zy 144 fy, gI g zm 3 fm] H → va_D A [gI g zb 64 fb, gO mo 9 [.int th, .ref zt, .int (nI tn), .int (nI sz), .ref zx, .ref zy, .ref zm, .ref zb, .int rt, .int w0, .int w1, .int w2, .int lg, .int nr, .int (nI yr), .ref va, .ref vb, .ref vc, .ref vd, .ref qa, .ref qb, .ref qc, .int (nI ln), .ref sa, .ref sb, .ref sc, .ref sd, .ref se, .int (nI pn), .ref ma, .ref mb, .ref mc, .ref rv, .int (nI mn), .int tol, .int (nI rn)], gI g zx 144 fx, gI g zy 144 fy, gI g zm 3 fm] → va_S A s.heap H locs → W p l e rm_X9_moved s m args below meth c H locs 0 0 Q (F0 m 122 ls [.int b8]) := by
    intro b8 ls H locs hb8 hl hP hD hS
    refine lv_istore (lv' := [(7, .int b8), (6, .int (((w0 * (bendI X n (nI i))) + (w1 * (bendI X n ((nI i) - 1)))) + (w2 * (bendI X n ((nI i) - 2))))), (5, .int (nI (48 * l_ + i))), (0, .ref mo), (1, .int (nI l_)), (2, .int (nI i)), (3, .int rq), (4, .int 1)]) hx hb dX9_moved_122 hl (by decide) rfl (fun ls hl => ?_)
    refine lv_iload hx hb dX9_moved_124 (lv_at hl 7 rfl) ?_
    refine lv_if_eq (tgt := 139) hx hb dX9_moved_126 (by decide) (fun h => absurd h (by decide)) (fun _ => ?_)
    refine lv_aload_n hx hb dX9_moved_129 rfl (lv_at hl 3 rfl) ?_
    refine g_get (C := RX9) (T := TX9) (N := 36) F hK hP i_X9_moved_X9 1 rfl rfl 4 (by decide) k_X9_moved_f27 (v := .ref zx) rfl dX9_moved_130 ?_
    refine lv_iload hx hb dX9_moved_133 (lv_at hl 2 rfl) ?_
    refine g_iald (i := 48 * l_ + i) (v := (X i)) hx hb hK hP 2 rfl (by decide) (by omega) ((congrArg fx (show 48 * l_ + i = 48 * l_ + i by omega)).trans (hX i (by omega))) dX9_moved_135 ?_
    refine lv_goto (tgt := 146) hx hb dX9_moved_136 (by decide) ?_
    refine lv_iload hx hb dX9_moved_146 (lv_at hl 0 rfl) ?_
    refine lv_iadd hx hb dX9_moved_148 ?_
    refine lv_istore (lv' := [(8, .int ((X i) + b8)), (7, .int b8), (6, .int (((w0 * (bendI X n (nI i))) + (w1 * (bendI X n ((nI i) - 1)))) + (w2 * (bendI X n ((nI i) - 2))))), (5, .int (nI (48 * l_ + i))), (0, .ref mo), (1, .int (nI l_)), (2, .int (nI i)), (3, .int rq), (4, .int 1)]) hx hb dX9_moved_149 hl (by decide) rfl (fun ls hl => ?_)
    have J176 : ∀ (t8 : Int32) (ls : Array Slot) (H : Heap) (locs : List Loc), (t8 = refT (X i + b8)) → lv_has ls 9 [(8, .int ((X i) + b8)), (7, .int b8), (6, .int (((w0 * (bendI X n (nI i))) + (w1 * (bendI X n ((nI i) - 1)))) + (w2 * (bendI X n ((nI i) - 2))))), (5, .int (nI (48 * l_ + i))), (0, .ref mo), (1, .int (nI l_)), (2, .int (nI i)), (3, .int rq), (4, .int 1)] → gP g [gI g zb 64 fb, gO mo 9 [.int th, .ref zt, .int (nI tn), .int (nI sz), .ref zx, .ref zy, .ref zm, .ref zb, .int rt, .int w0, .int w1, .int w2, .int lg, .int nr, .int (nI yr), .ref va, .ref vb, .ref vc, .ref vd, .ref qa, .ref qb, .ref qc, .int (nI ln), .ref sa, .ref sb, .ref sc, .ref sd, .ref se, .int (nI pn), .ref ma, .ref mb, .ref mc, .ref rv, .int (nI mn), .int tol, .int (nI rn)], gI g zx 144 fx, gI g zy 144 fy, gI g zm 3 fm] H → va_D A [gI g zb 64 fb, gO mo 9 [.int th, .ref zt, .int (nI tn), .int (nI sz), .ref zx, .ref zy, .ref zm, .ref zb, .int rt, .int w0, .int w1, .int w2, .int lg, .int nr, .int (nI yr), .ref va, .ref vb, .ref vc, .ref vd, .ref qa, .ref qb, .ref qc, .int (nI ln), .ref sa, .ref sb, .ref sc, .ref sd, .ref se, .int (nI pn), .ref ma, .ref mb, .ref mc, .ref rv, .int (nI mn), .int tol, .int (nI rn)], gI g zx 144 fx, gI g zy 144 fy, gI g zm 3 fm] → va_S A s.heap H locs → W p l e rm_X9_moved s m args below meth c H locs 0 0 Q (F0 m 176 ls [.int t8]) := by
      intro t8 ls H locs ht8 hl hP hD hS
      have hP9 := hP.sub (ws' := [gO mo 9 [.int th, .ref zt, .int (nI tn), .int (nI sz), .ref zx, .ref zy, .ref zm, .ref zb, .int rt, .int w0, .int w1, .int w2, .int lg, .int nr, .int (nI yr), .ref va, .ref vb, .ref vc, .ref vd, .ref qa, .ref qb, .ref qc, .int (nI ln), .ref sa, .ref sb, .ref sc, .ref sd, .ref se, .int (nI pn), .ref ma, .ref mb, .ref mc, .ref rv, .int (nI mn), .int tol, .int (nI rn)], gI g zx 144 fx, gI g zy 144 fy, gI g zm 3 fm, gI g zb 64 fb]) [1, 2, 3, 4, 0] rfl
      have hD9 := hD.sub (ws' := [gO mo 9 [.int th, .ref zt, .int (nI tn), .int (nI sz), .ref zx, .ref zy, .ref zm, .ref zb, .int rt, .int w0, .int w1, .int w2, .int lg, .int nr, .int (nI yr), .ref va, .ref vb, .ref vc, .ref vd, .ref qa, .ref qb, .ref qc, .int (nI ln), .ref sa, .ref sb, .ref sc, .ref sd, .ref se, .int (nI pn), .ref ma, .ref mb, .ref mc, .ref rv, .int (nI mn), .int tol, .int (nI rn)], gI g zx 144 fx, gI g zy 144 fy, gI g zm 3 fm, gI g zb 64 fb]) [1, 2, 3, 4, 0] (by decide) rfl
      exact hret _ _ _ _ t8 () dX9_moved_176 rfl (by rw [ht8, hb8, Int32.mul_assoc]; exact mv_r hpx) hP9 hD9 hS
    refine lv_iload hx hb dX9_moved_151 (lv_at hl 0 rfl) ?_
    refine lv_if_ge (tgt := 160) hx hb dX9_moved_153 (by decide) (fun c_153 => ?_) (fun c_153 => ?_)
    · refine lv_iload hx hb dX9_moved_160 (lv_at hl 0 rfl) ?_
      refine lv_sipush (v := 511) hx hb dX9_moved_162 (by decide) ?_
      refine lv_icmp_le (tgt := 174) hx hb dX9_moved_165 (by decide) (fun c_165 => ?_) (fun c_165 => ?_)
      · refine lv_iload hx hb dX9_moved_174 (lv_at hl 0 rfl) ?_
        exact J176 ((X i) + b8) ls _ _ (by simp [refT, c_153, c_165]) hl hP hD hS
      · refine lv_sipush (v := 511) hx hb dX9_moved_168 (by decide) ?_
        refine lv_goto (tgt := 176) hx hb dX9_moved_171 (by decide) ?_
        exact J176 511 ls _ _ (by simp [refT, c_153, c_165]) hl hP hD hS
    · refine lv_iconst (v := 0) hx hb dX9_moved_156 (by decide) ?_
      refine lv_goto (tgt := 176) hx hb dX9_moved_157 (by decide) ?_
      exact J176 0 ls _ _ (by simp [refT, c_153]) hl hP hD hS
  refine lv_iload hx hb dX9_moved_96 (lv_at hl 0 rfl) ?_
  refine lv_bipush (v := 8) hx hb dX9_moved_98 (by decide) ?_
  refine lv_icmp_le (tgt := 108) hx hb dX9_moved_100 (by decide) (fun c_100 => ?_) (fun c_100 => ?_)
  · refine lv_iload hx hb dX9_moved_108 (lv_at hl 0 rfl) ?_
    refine lv_bipush (v := (-8)) hx hb dX9_moved_110 (by decide) ?_
    refine lv_icmp_ge (tgt := 120) hx hb dX9_moved_112 (by decide) (fun c_112 => ?_) (fun c_112 => ?_)
    · refine lv_iload hx hb dX9_moved_120 (lv_at hl 0 rfl) ?_
      exact J122 (-(feltS X n w0 w1 w2 i * rq * B (bidx (X i) (Y i)) / 10000)) ls _ _ (by simp [refB, c_100, c_112]) hl hP hD hS
    · refine lv_bipush (v := (-8)) hx hb dX9_moved_115 (by decide) ?_
      refine lv_goto (tgt := 122) hx hb dX9_moved_117 (by decide) ?_
      exact J122 (-8) ls _ _ (by simp [refB, c_100, c_112]) hl hP hD hS
  · refine lv_bipush (v := 8) hx hb dX9_moved_103 (by decide) ?_
    refine lv_goto (tgt := 122) hx hb dX9_moved_105 (by decide) ?_
    exact J122 8 ls _ _ (by simp [refB, c_100]) hl hP hD hS

set_option maxHeartbeats 4000000 in
set_option maxRecDepth 100000 in
theorem c_X9_moved_0 (l : Launch) (g : gT) (mo : Nat) (th : Int32) (zt : Nat) (tn : Nat) (sz : Nat) (zx : Nat) (zy : Nat) (zm : Nat) (zb : Nat) (rt : Int32) (w0 : Int32) (w1 : Int32) (w2 : Int32) (lg : Int32) (nr : Int32) (yr : Nat) (va : Nat) (vb : Nat) (vc : Nat) (vd : Nat) (qa : Nat) (qb : Nat) (qc : Nat) (ln : Nat) (sa : Nat) (sb : Nat) (sc : Nat) (sd : Nat) (se : Nat) (pn : Nat) (ma : Nat) (mb : Nat) (mc : Nat) (rv : Nat) (mn : Nat) (tol : Int32) (rn : Nat) (l_ : Nat) (n : Nat) (fm : Nat → Int32) (fx : Nat → Int32) (fy : Nat → Int32) (X : Nat → Int32) (Y : Nat → Int32) (fb : Nat → Int32) (B : Nat → Int32) (i : Nat) (rq : Int32) (hl3 : l_ < 3) (hm : fm l_ = nI n) (hn : n ≤ 48) (hX : ∀ k, k < n → fx (48 * l_ + k) = X k) (hY : ∀ k, k < n → fy (48 * l_ + k) = Y k) (hB : ∀ k, k < 64 → fb k = B k) (h2n : 2 ≤ n) (hi : i < n) (hpx : inP (X i)) (hpy : inP (Y i)) : CtI l g yX9_moved wsX9_moved rm_X9_moved [.ref mo, .int (nI l_), .int (nI i), .int rq, .int 0] [gO mo 9 [.int th, .ref zt, .int (nI tn), .int (nI sz), .ref zx, .ref zy, .ref zm, .ref zb, .int rt, .int w0, .int w1, .int w2, .int lg, .int nr, .int (nI yr), .ref va, .ref vb, .ref vc, .ref vd, .ref qa, .ref qb, .ref qc, .int (nI ln), .ref sa, .ref sb, .ref sc, .ref sd, .ref se, .int (nI pn), .ref ma, .ref mb, .ref mc, .ref rv, .int (nI mn), .int tol, .int (nI rn)], gI g zx 144 fx, gI g zy 144 fy, gI g zm 3 fm, gI g zb 64 fb] (fun (r : Int32) (_ : Unit) => r = mvS Y n w0 w1 w2 (rq * B (bidx (X i) (Y i))) i) (fun (_ : Unit) => [gO mo 9 [.int th, .ref zt, .int (nI tn), .int (nI sz), .ref zx, .ref zy, .ref zm, .ref zb, .int rt, .int w0, .int w1, .int w2, .int lg, .int nr, .int (nI yr), .ref va, .ref vb, .ref vc, .ref vd, .ref qa, .ref qb, .ref qc, .int (nI ln), .ref sa, .ref sb, .ref sc, .ref sd, .ref se, .int (nI pn), .ref ma, .ref mb, .ref mc, .ref rv, .int (nI mn), .int tol, .int (nI rn)], gI g zx 144 fx, gI g zy 144 fy, gI g zm 3 fm, gI g zb 64 fb]) := by
  refine CtI.of (cc := cX9_moved) (maxL := 9) (ret := .int) (by decide) rfl (Nat.le_of_ble_eq_true rfl) ?_
  intro p e s m args below meth c A Q hnm F hK hA hP hD hS hret ls hl
  have hx := F.1
  have hb := F.2.1
  have hl : lv_has ls 9 [(0, .ref mo), (1, .int (nI l_)), (2, .int (nI i)), (3, .int rq), (4, .int 0)] := hl
  refine lv_bipush (v := 48) hx hb dX9_moved_0 (by decide) ?_
  refine lv_iload_n hx hb dX9_moved_2 rfl (lv_at hl 1 rfl) ?_
  refine n_imul (a := 48) (b := l_) (d := 48 * l_) hx hb dX9_moved_3 (rfl) ?_
  refine lv_iload_n hx hb dX9_moved_4 rfl (lv_at hl 2 rfl) ?_
  refine n_iadd (a := 48 * l_) (b := i) (d := 48 * l_ + i) hx hb dX9_moved_5 (by omega) ?_
  refine lv_istore (lv' := [(5, .int (nI (48 * l_ + i))), (0, .ref mo), (1, .int (nI l_)), (2, .int (nI i)), (3, .int rq), (4, .int 0)]) hx hb dX9_moved_6 hl (by decide) rfl (fun ls hl => ?_)
  refine lv_aload_n hx hb dX9_moved_8 rfl (lv_at hl 1 rfl) ?_
  refine g_get (C := RX9) (T := TX9) (N := 36) F hK hP i_X9_moved_X9 0 rfl rfl 9 (by decide) k_X9_moved_f43 (v := .int w0) rfl dX9_moved_9 ?_
  refine lv_aload_n hx hb dX9_moved_12 rfl (lv_at hl 1 rfl) ?_
  refine lv_iload_n hx hb dX9_moved_13 rfl (lv_at hl 2 rfl) ?_
  refine lv_iload_n hx hb dX9_moved_14 rfl (lv_at hl 3 rfl) ?_
  refine lv_iload hx hb dX9_moved_15 (lv_at hl 5 rfl) ?_
  refine g_VI (wr := [gI g zb 64 fb]) (As := [.int (nI l_), .int (nI i), .int 0]) (rest := [.int w0]) (n := 3) F (c_X9_bend_0 l g mo th zt tn sz zx zy zm zb rt w0 w1 w2 lg nr yr va vb vc vd qa qb qc ln sa sb sc sd se pn ma mb mc rv mn tol rn l_ n fm fx fy X Y (nI i) (hl3) (hm) (hn) (hX) (hY) (h2n)) gX9_moved_X9_bend rfl (by decide) ⟨by decide, by decide⟩ 0 9 rfl rfl rfl rfl hl.1 rfl (Nat.le_of_ble_eq_true rfl) dX9_moved_17 ⟨Nat.le_of_ble_eq_true rfl, Nat.le_of_ble_eq_true rfl⟩ hK hP hD hS hA [0, 1, 2, 3] [4] (by decide) rfl rfl (by decide) (by decide) (fun r_17 u_17 H locs hw_17 hP hD hS => ?_)
  have hP : gP g [gI g zb 64 fb, gO mo 9 [.int th, .ref zt, .int (nI tn), .int (nI sz), .ref zx, .ref zy, .ref zm, .ref zb, .int rt, .int w0, .int w1, .int w2, .int lg, .int nr, .int (nI yr), .ref va, .ref vb, .ref vc, .ref vd, .ref qa, .ref qb, .ref qc, .int (nI ln), .ref sa, .ref sb, .ref sc, .ref sd, .ref se, .int (nI pn), .ref ma, .ref mb, .ref mc, .ref rv, .int (nI mn), .int tol, .int (nI rn)], gI g zx 144 fx, gI g zy 144 fy, gI g zm 3 fm] H := hP
  have hD : va_D A [gI g zb 64 fb, gO mo 9 [.int th, .ref zt, .int (nI tn), .int (nI sz), .ref zx, .ref zy, .ref zm, .ref zb, .int rt, .int w0, .int w1, .int w2, .int lg, .int nr, .int (nI yr), .ref va, .ref vb, .ref vc, .ref vd, .ref qa, .ref qb, .ref qc, .int (nI ln), .ref sa, .ref sb, .ref sc, .ref sd, .ref se, .int (nI pn), .ref ma, .ref mb, .ref mc, .ref rv, .int (nI mn), .int tol, .int (nI rn)], gI g zx 144 fx, gI g zy 144 fy, gI g zm 3 fm] := hD
  obtain rfl := hw_17
  refine lv_imul hx hb dX9_moved_20 ?_
  refine lv_aload_n hx hb dX9_moved_21 rfl (lv_at hl 1 rfl) ?_
  refine g_get (C := RX9) (T := TX9) (N := 36) F hK hP i_X9_moved_X9 1 rfl rfl 10 (by decide) k_X9_moved_f46 (v := .int w1) rfl dX9_moved_22 ?_
  refine lv_aload_n hx hb dX9_moved_25 rfl (lv_at hl 1 rfl) ?_
  refine lv_iload_n hx hb dX9_moved_26 rfl (lv_at hl 2 rfl) ?_
  refine lv_iload_n hx hb dX9_moved_27 rfl (lv_at hl 3 rfl) ?_
  refine lv_iconst (v := 1) hx hb dX9_moved_28 (by decide) ?_
  refine lv_isub hx hb dX9_moved_29 ?_
  refine lv_iload hx hb dX9_moved_30 (lv_at hl 5 rfl) ?_
  refine g_VI (wr := [gI g zb 64 fb]) (As := [.int (nI l_), .int ((nI i) - 1), .int 0]) (rest := [.int w1, .int (w0 * (bendI Y n (nI i)))]) (n := 3) F (c_X9_bend_0 l g mo th zt tn sz zx zy zm zb rt w0 w1 w2 lg nr yr va vb vc vd qa qb qc ln sa sb sc sd se pn ma mb mc rv mn tol rn l_ n fm fx fy X Y ((nI i) - 1) (hl3) (hm) (hn) (hX) (hY) (h2n)) gX9_moved_X9_bend rfl (by decide) ⟨by decide, by decide⟩ 1 9 rfl rfl rfl rfl hl.1 rfl (Nat.le_of_ble_eq_true rfl) dX9_moved_32 ⟨Nat.le_of_ble_eq_true rfl, Nat.le_of_ble_eq_true rfl⟩ hK hP hD hS hA [1, 2, 3, 4] [0] (by decide) rfl rfl (by decide) (by decide) (fun r_32 u_32 H locs hw_32 hP hD hS => ?_)
  have hP : gP g [gI g zb 64 fb, gO mo 9 [.int th, .ref zt, .int (nI tn), .int (nI sz), .ref zx, .ref zy, .ref zm, .ref zb, .int rt, .int w0, .int w1, .int w2, .int lg, .int nr, .int (nI yr), .ref va, .ref vb, .ref vc, .ref vd, .ref qa, .ref qb, .ref qc, .int (nI ln), .ref sa, .ref sb, .ref sc, .ref sd, .ref se, .int (nI pn), .ref ma, .ref mb, .ref mc, .ref rv, .int (nI mn), .int tol, .int (nI rn)], gI g zx 144 fx, gI g zy 144 fy, gI g zm 3 fm] H := hP
  have hD : va_D A [gI g zb 64 fb, gO mo 9 [.int th, .ref zt, .int (nI tn), .int (nI sz), .ref zx, .ref zy, .ref zm, .ref zb, .int rt, .int w0, .int w1, .int w2, .int lg, .int nr, .int (nI yr), .ref va, .ref vb, .ref vc, .ref vd, .ref qa, .ref qb, .ref qc, .int (nI ln), .ref sa, .ref sb, .ref sc, .ref sd, .ref se, .int (nI pn), .ref ma, .ref mb, .ref mc, .ref rv, .int (nI mn), .int tol, .int (nI rn)], gI g zx 144 fx, gI g zy 144 fy, gI g zm 3 fm] := hD
  obtain rfl := hw_32
  refine lv_imul hx hb dX9_moved_35 ?_
  refine lv_iadd hx hb dX9_moved_36 ?_
  refine lv_aload_n hx hb dX9_moved_37 rfl (lv_at hl 1 rfl) ?_
  refine g_get (C := RX9) (T := TX9) (N := 36) F hK hP i_X9_moved_X9 1 rfl rfl 11 (by decide) k_X9_moved_f49 (v := .int w2) rfl dX9_moved_38 ?_
  refine lv_aload_n hx hb dX9_moved_41 rfl (lv_at hl 1 rfl) ?_
  refine lv_iload_n hx hb dX9_moved_42 rfl (lv_at hl 2 rfl) ?_
  refine lv_iload_n hx hb dX9_moved_43 rfl (lv_at hl 3 rfl) ?_
  refine lv_iconst (v := 2) hx hb dX9_moved_44 (by decide) ?_
  refine lv_isub hx hb dX9_moved_45 ?_
  refine lv_iload hx hb dX9_moved_46 (lv_at hl 5 rfl) ?_
  refine g_VI (wr := [gI g zb 64 fb]) (As := [.int (nI l_), .int ((nI i) - 2), .int 0]) (rest := [.int w2, .int ((w0 * (bendI Y n (nI i))) + (w1 * (bendI Y n ((nI i) - 1))))]) (n := 3) F (c_X9_bend_0 l g mo th zt tn sz zx zy zm zb rt w0 w1 w2 lg nr yr va vb vc vd qa qb qc ln sa sb sc sd se pn ma mb mc rv mn tol rn l_ n fm fx fy X Y ((nI i) - 2) (hl3) (hm) (hn) (hX) (hY) (h2n)) gX9_moved_X9_bend rfl (by decide) ⟨by decide, by decide⟩ 1 9 rfl rfl rfl rfl hl.1 rfl (Nat.le_of_ble_eq_true rfl) dX9_moved_48 ⟨Nat.le_of_ble_eq_true rfl, Nat.le_of_ble_eq_true rfl⟩ hK hP hD hS hA [1, 2, 3, 4] [0] (by decide) rfl rfl (by decide) (by decide) (fun r_48 u_48 H locs hw_48 hP hD hS => ?_)
  have hP : gP g [gI g zb 64 fb, gO mo 9 [.int th, .ref zt, .int (nI tn), .int (nI sz), .ref zx, .ref zy, .ref zm, .ref zb, .int rt, .int w0, .int w1, .int w2, .int lg, .int nr, .int (nI yr), .ref va, .ref vb, .ref vc, .ref vd, .ref qa, .ref qb, .ref qc, .int (nI ln), .ref sa, .ref sb, .ref sc, .ref sd, .ref se, .int (nI pn), .ref ma, .ref mb, .ref mc, .ref rv, .int (nI mn), .int tol, .int (nI rn)], gI g zx 144 fx, gI g zy 144 fy, gI g zm 3 fm] H := hP
  have hD : va_D A [gI g zb 64 fb, gO mo 9 [.int th, .ref zt, .int (nI tn), .int (nI sz), .ref zx, .ref zy, .ref zm, .ref zb, .int rt, .int w0, .int w1, .int w2, .int lg, .int nr, .int (nI yr), .ref va, .ref vb, .ref vc, .ref vd, .ref qa, .ref qb, .ref qc, .int (nI ln), .ref sa, .ref sb, .ref sc, .ref sd, .ref se, .int (nI pn), .ref ma, .ref mb, .ref mc, .ref rv, .int (nI mn), .int tol, .int (nI rn)], gI g zx 144 fx, gI g zy 144 fy, gI g zm 3 fm] := hD
  obtain rfl := hw_48
  refine lv_imul hx hb dX9_moved_51 ?_
  refine lv_iadd hx hb dX9_moved_52 ?_
  refine lv_istore (lv' := [(6, .int (((w0 * (bendI Y n (nI i))) + (w1 * (bendI Y n ((nI i) - 1)))) + (w2 * (bendI Y n ((nI i) - 2))))), (5, .int (nI (48 * l_ + i))), (0, .ref mo), (1, .int (nI l_)), (2, .int (nI i)), (3, .int rq), (4, .int 0)]) hx hb dX9_moved_53 hl (by decide) rfl (fun ls hl => ?_)
  refine lv_iload hx hb dX9_moved_55 (lv_at hl 0 rfl) ?_
  refine lv_iload_n hx hb dX9_moved_57 rfl (lv_at hl 5 rfl) ?_
  refine lv_imul hx hb dX9_moved_58 ?_
  refine lv_aload_n hx hb dX9_moved_59 rfl (lv_at hl 2 rfl) ?_
  refine g_get (C := RX9) (T := TX9) (N := 36) F hK hP i_X9_moved_X9 1 rfl rfl 7 (by decide) k_X9_moved_f37 (v := .ref zb) rfl dX9_moved_60 ?_
  refine lv_bipush (v := 8) hx hb dX9_moved_63 (by decide) ?_
  refine lv_aload_n hx hb dX9_moved_65 rfl (lv_at hl 2 rfl) ?_
  refine g_get (C := RX9) (T := TX9) (N := 36) F hK hP i_X9_moved_X9 1 rfl rfl 5 (by decide) k_X9_moved_f31 (v := .ref zy) rfl dX9_moved_66 ?_
  refine lv_iload hx hb dX9_moved_69 (lv_at hl 1 rfl) ?_
  refine g_iald (i := 48 * l_ + i) (v := (Y i)) hx hb hK hP 3 rfl (by decide) (by omega) ((congrArg fy (show 48 * l_ + i = 48 * l_ + i by omega)).trans (hY i (by omega))) dX9_moved_71 ?_
  refine lv_bipush (v := 64) hx hb dX9_moved_72 (by decide) ?_
  refine lv_idiv hx hb dX9_moved_74 (by decide) ?_
  refine lv_imul hx hb dX9_moved_75 ?_
  refine lv_aload_n hx hb dX9_moved_76 rfl (lv_at hl 2 rfl) ?_
  refine g_get (C := RX9) (T := TX9) (N := 36) F hK hP i_X9_moved_X9 1 rfl rfl 4 (by decide) k_X9_moved_f27 (v := .ref zx) rfl dX9_moved_77 ?_
  refine lv_iload hx hb dX9_moved_80 (lv_at hl 1 rfl) ?_
  refine g_iald (i := 48 * l_ + i) (v := (X i)) hx hb hK hP 2 rfl (by decide) (by omega) ((congrArg fx (show 48 * l_ + i = 48 * l_ + i by omega)).trans (hX i (by omega))) dX9_moved_82 ?_
  refine lv_bipush (v := 64) hx hb dX9_moved_83 (by decide) ?_
  refine lv_idiv hx hb dX9_moved_85 (by decide) ?_
  refine lv_iadd hx hb dX9_moved_86 ?_
  refine g_ialdI hx hb hK hP 0 rfl (bidx_v hpx hpy) rfl dX9_moved_87 ?_
  refine g_eqi (y := (B (bidx (X i) (Y i)))) ((congrArg fb (bidx_c (X i) (Y i))).trans (hB _ (bidx_in hpx hpy).2)) ?_
  refine lv_imul hx hb dX9_moved_88 ?_
  refine lv_sipush (v := 10000) hx hb dX9_moved_89 (by decide) ?_
  refine lv_idiv hx hb dX9_moved_92 (by decide) ?_
  refine lv_ineg hx hb dX9_moved_93 ?_
  refine g_eqi (y := (-(feltS Y n w0 w1 w2 i * rq * B (bidx (X i) (Y i)) / 10000))) rfl ?_
  refine lv_istore (lv' := [(7, .int (-(feltS Y n w0 w1 w2 i * rq * B (bidx (X i) (Y i)) / 10000))), (6, .int (((w0 * (bendI Y n (nI i))) + (w1 * (bendI Y n ((nI i) - 1)))) + (w2 * (bendI Y n ((nI i) - 2))))), (5, .int (nI (48 * l_ + i))), (0, .ref mo), (1, .int (nI l_)), (2, .int (nI i)), (3, .int rq), (4, .int 0)]) hx hb dX9_moved_94 hl (by decide) rfl (fun ls hl => ?_)
  have J122 : ∀ (b8 : Int32) (ls : Array Slot) (H : Heap) (locs : List Loc), (b8 = refB (-(feltS Y n w0 w1 w2 i * rq * B (bidx (X i) (Y i)) / 10000))) → lv_has ls 9 [(7, .int (-(feltS Y n w0 w1 w2 i * rq * B (bidx (X i) (Y i)) / 10000))), (6, .int (((w0 * (bendI Y n (nI i))) + (w1 * (bendI Y n ((nI i) - 1)))) + (w2 * (bendI Y n ((nI i) - 2))))), (5, .int (nI (48 * l_ + i))), (0, .ref mo), (1, .int (nI l_)), (2, .int (nI i)), (3, .int rq), (4, .int 0)] → gP g [gI g zb 64 fb, gO mo 9 [.int th, .ref zt, .int (nI tn), .int (nI sz), .ref zx, .ref zy, .ref zm, .ref zb, .int rt, .int w0, .int w1, .int w2, .int lg, .int nr, .int (nI yr), .ref va, .ref vb, .ref vc, .ref vd, .ref qa, .ref qb, .ref qc, .int (nI ln), .ref sa, .ref sb, .ref sc, .ref sd, .ref se, .int (nI pn), .ref ma, .ref mb, .ref mc, .ref rv, .int (nI mn), .int tol, .int (nI rn)], gI g zx 144 fx, gI g zy 144 fy, gI g zm 3 fm] H → va_D A [gI g zb 64 fb, gO mo 9 [.int th, .ref zt, .int (nI tn), .int (nI sz), .ref zx, .ref zy, .ref zm, .ref zb, .int rt, .int w0, .int w1, .int w2, .int lg, .int nr, .int (nI yr), .ref va, .ref vb, .ref vc, .ref vd, .ref qa, .ref qb, .ref qc, .int (nI ln), .ref sa, .ref sb, .ref sc, .ref sd, .ref se, .int (nI pn), .ref ma, .ref mb, .ref mc, .ref rv, .int (nI mn), .int tol, .int (nI rn)], gI g zx 144 fx, gI g zy 144 fy, gI g zm 3 fm] → va_S A s.heap H locs → W p l e rm_X9_moved s m args below meth c H locs 0 0 Q (F0 m 122 ls [.int b8]) := by
    intro b8 ls H locs hb8 hl hP hD hS
    refine lv_istore (lv' := [(7, .int b8), (6, .int (((w0 * (bendI Y n (nI i))) + (w1 * (bendI Y n ((nI i) - 1)))) + (w2 * (bendI Y n ((nI i) - 2))))), (5, .int (nI (48 * l_ + i))), (0, .ref mo), (1, .int (nI l_)), (2, .int (nI i)), (3, .int rq), (4, .int 0)]) hx hb dX9_moved_122 hl (by decide) rfl (fun ls hl => ?_)
    refine lv_iload hx hb dX9_moved_124 (lv_at hl 7 rfl) ?_
    refine lv_if_eq (tgt := 139) hx hb dX9_moved_126 (by decide) (fun _ => ?_) (fun h => absurd (by decide) h)
    refine lv_aload_n hx hb dX9_moved_139 rfl (lv_at hl 3 rfl) ?_
    refine g_get (C := RX9) (T := TX9) (N := 36) F hK hP i_X9_moved_X9 1 rfl rfl 5 (by decide) k_X9_moved_f31 (v := .ref zy) rfl dX9_moved_140 ?_
    refine lv_iload hx hb dX9_moved_143 (lv_at hl 2 rfl) ?_
    refine g_iald (i := 48 * l_ + i) (v := (Y i)) hx hb hK hP 3 rfl (by decide) (by omega) ((congrArg fy (show 48 * l_ + i = 48 * l_ + i by omega)).trans (hY i (by omega))) dX9_moved_145 ?_
    refine lv_iload hx hb dX9_moved_146 (lv_at hl 0 rfl) ?_
    refine lv_iadd hx hb dX9_moved_148 ?_
    refine lv_istore (lv' := [(8, .int ((Y i) + b8)), (7, .int b8), (6, .int (((w0 * (bendI Y n (nI i))) + (w1 * (bendI Y n ((nI i) - 1)))) + (w2 * (bendI Y n ((nI i) - 2))))), (5, .int (nI (48 * l_ + i))), (0, .ref mo), (1, .int (nI l_)), (2, .int (nI i)), (3, .int rq), (4, .int 0)]) hx hb dX9_moved_149 hl (by decide) rfl (fun ls hl => ?_)
    have J176 : ∀ (t8 : Int32) (ls : Array Slot) (H : Heap) (locs : List Loc), (t8 = refT (Y i + b8)) → lv_has ls 9 [(8, .int ((Y i) + b8)), (7, .int b8), (6, .int (((w0 * (bendI Y n (nI i))) + (w1 * (bendI Y n ((nI i) - 1)))) + (w2 * (bendI Y n ((nI i) - 2))))), (5, .int (nI (48 * l_ + i))), (0, .ref mo), (1, .int (nI l_)), (2, .int (nI i)), (3, .int rq), (4, .int 0)] → gP g [gI g zb 64 fb, gO mo 9 [.int th, .ref zt, .int (nI tn), .int (nI sz), .ref zx, .ref zy, .ref zm, .ref zb, .int rt, .int w0, .int w1, .int w2, .int lg, .int nr, .int (nI yr), .ref va, .ref vb, .ref vc, .ref vd, .ref qa, .ref qb, .ref qc, .int (nI ln), .ref sa, .ref sb, .ref sc, .ref sd, .ref se, .int (nI pn), .ref ma, .ref mb, .ref mc, .ref rv, .int (nI mn), .int tol, .int (nI rn)], gI g zx 144 fx, gI g zy 144 fy, gI g zm 3 fm] H → va_D A [gI g zb 64 fb, gO mo 9 [.int th, .ref zt, .int (nI tn), .int (nI sz), .ref zx, .ref zy, .ref zm, .ref zb, .int rt, .int w0, .int w1, .int w2, .int lg, .int nr, .int (nI yr), .ref va, .ref vb, .ref vc, .ref vd, .ref qa, .ref qb, .ref qc, .int (nI ln), .ref sa, .ref sb, .ref sc, .ref sd, .ref se, .int (nI pn), .ref ma, .ref mb, .ref mc, .ref rv, .int (nI mn), .int tol, .int (nI rn)], gI g zx 144 fx, gI g zy 144 fy, gI g zm 3 fm] → va_S A s.heap H locs → W p l e rm_X9_moved s m args below meth c H locs 0 0 Q (F0 m 176 ls [.int t8]) := by
      intro t8 ls H locs ht8 hl hP hD hS
      have hP9 := hP.sub (ws' := [gO mo 9 [.int th, .ref zt, .int (nI tn), .int (nI sz), .ref zx, .ref zy, .ref zm, .ref zb, .int rt, .int w0, .int w1, .int w2, .int lg, .int nr, .int (nI yr), .ref va, .ref vb, .ref vc, .ref vd, .ref qa, .ref qb, .ref qc, .int (nI ln), .ref sa, .ref sb, .ref sc, .ref sd, .ref se, .int (nI pn), .ref ma, .ref mb, .ref mc, .ref rv, .int (nI mn), .int tol, .int (nI rn)], gI g zx 144 fx, gI g zy 144 fy, gI g zm 3 fm, gI g zb 64 fb]) [1, 2, 3, 4, 0] rfl
      have hD9 := hD.sub (ws' := [gO mo 9 [.int th, .ref zt, .int (nI tn), .int (nI sz), .ref zx, .ref zy, .ref zm, .ref zb, .int rt, .int w0, .int w1, .int w2, .int lg, .int nr, .int (nI yr), .ref va, .ref vb, .ref vc, .ref vd, .ref qa, .ref qb, .ref qc, .int (nI ln), .ref sa, .ref sb, .ref sc, .ref sd, .ref se, .int (nI pn), .ref ma, .ref mb, .ref mc, .ref rv, .int (nI mn), .int tol, .int (nI rn)], gI g zx 144 fx, gI g zy 144 fy, gI g zm 3 fm, gI g zb 64 fb]) [1, 2, 3, 4, 0] (by decide) rfl
      exact hret _ _ _ _ t8 () dX9_moved_176 rfl (by rw [ht8, hb8, Int32.mul_assoc]; exact mv_r hpy) hP9 hD9 hS
    refine lv_iload hx hb dX9_moved_151 (lv_at hl 0 rfl) ?_
    refine lv_if_ge (tgt := 160) hx hb dX9_moved_153 (by decide) (fun c_153 => ?_) (fun c_153 => ?_)
    · refine lv_iload hx hb dX9_moved_160 (lv_at hl 0 rfl) ?_
      refine lv_sipush (v := 511) hx hb dX9_moved_162 (by decide) ?_
      refine lv_icmp_le (tgt := 174) hx hb dX9_moved_165 (by decide) (fun c_165 => ?_) (fun c_165 => ?_)
      · refine lv_iload hx hb dX9_moved_174 (lv_at hl 0 rfl) ?_
        exact J176 ((Y i) + b8) ls _ _ (by simp [refT, c_153, c_165]) hl hP hD hS
      · refine lv_sipush (v := 511) hx hb dX9_moved_168 (by decide) ?_
        refine lv_goto (tgt := 176) hx hb dX9_moved_171 (by decide) ?_
        exact J176 511 ls _ _ (by simp [refT, c_153, c_165]) hl hP hD hS
    · refine lv_iconst (v := 0) hx hb dX9_moved_156 (by decide) ?_
      refine lv_goto (tgt := 176) hx hb dX9_moved_157 (by decide) ?_
      exact J176 0 ls _ _ (by simp [refT, c_153]) hl hP hD hS
  refine lv_iload hx hb dX9_moved_96 (lv_at hl 0 rfl) ?_
  refine lv_bipush (v := 8) hx hb dX9_moved_98 (by decide) ?_
  refine lv_icmp_le (tgt := 108) hx hb dX9_moved_100 (by decide) (fun c_100 => ?_) (fun c_100 => ?_)
  · refine lv_iload hx hb dX9_moved_108 (lv_at hl 0 rfl) ?_
    refine lv_bipush (v := (-8)) hx hb dX9_moved_110 (by decide) ?_
    refine lv_icmp_ge (tgt := 120) hx hb dX9_moved_112 (by decide) (fun c_112 => ?_) (fun c_112 => ?_)
    · refine lv_iload hx hb dX9_moved_120 (lv_at hl 0 rfl) ?_
      exact J122 (-(feltS Y n w0 w1 w2 i * rq * B (bidx (X i) (Y i)) / 10000)) ls _ _ (by simp [refB, c_100, c_112]) hl hP hD hS
    · refine lv_bipush (v := (-8)) hx hb dX9_moved_115 (by decide) ?_
      refine lv_goto (tgt := 122) hx hb dX9_moved_117 (by decide) ?_
      exact J122 (-8) ls _ _ (by simp [refB, c_100, c_112]) hl hP hD hS
  · refine lv_bipush (v := 8) hx hb dX9_moved_103 (by decide) ?_
    refine lv_goto (tgt := 122) hx hb dX9_moved_105 (by decide) ?_
    exact J122 8 ls _ _ (by simp [refB, c_100]) hl hP hD hS

