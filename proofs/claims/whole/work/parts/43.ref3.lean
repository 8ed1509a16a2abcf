theorem lnW_at {b k n : Nat} {X Z f g : RW} (h : lnW b k X f g) (hf : ∀ j, j < n → f (48 * b + j) = Z j) {j : Nat} (hk : k ≤ j) (hj : j < n) : g (48 * b + j) = Z j := (h.2 _ (by omega)).trans (hf j hj)
theorem lnW_X {b n m : Nat} {X Z f g : RW} (h : lnW b m X f g) (hm : m ≤ n) (hf : ∀ j, j < n → f (48 * b + j) = Z j) (he : ∀ j, m ≤ j → j < n → Z j = X j) (hn : n ≤ 48) : lnW b n X f g := by
  refine ⟨fun j hj => ?_, fun q hq => h.2 q (by omega)⟩
  by_cases e : j < m
  · exact h.1 j e
  · rw [lnW_at h hf (by omega) hj]; exact he j (by omega) hj
abbrev rm_X9_move : Room := { frames := 2, cells := 0, slots := 0, locals := 52 }
theorem i_X9_move_X9 : ∀ w ∈ wsX90, w ∈ wsX9_move := by decide +kernel
theorem k_X9_move_f34 : Cond.fieldLink RX9 34 (TX9 6).1 (TX9 6).2.1 (TX9 6).2.2.1 ∈ wsX9_move := by decide +kernel
theorem k_X9_move_f27 : Cond.fieldLink RX9 27 (TX9 4).1 (TX9 4).2.1 (TX9 4).2.2.1 ∈ wsX9_move := by decide +kernel
theorem k_X9_move_f58 : Cond.fieldLink RX9 58 (TX9 15).1 (TX9 15).2.1 (TX9 15).2.2.1 ∈ wsX9_move := by decide +kernel
theorem k_X9_move_f31 : Cond.fieldLink RX9 31 (TX9 5).1 (TX9 5).2.1 (TX9 5).2.2.1 ∈ wsX9_move := by decide +kernel
theorem k_X9_move_f61 : Cond.fieldLink RX9 61 (TX9 16).1 (TX9 16).2.1 (TX9 16).2.2.1 ∈ wsX9_move := by decide +kernel
set_option maxHeartbeats 4000000 in
set_option maxRecDepth 100000 in
theorem c_X9_move (l : Launch) (g : gT) (mo : Nat) (th : Int32) (zt : Nat) (tn : Nat) (sz : Nat) (zx : Nat) (zy : Nat) (zm : Nat) (zb : Nat) (rt : Int32) (w0 : Int32) (w1 : Int32) (w2 : Int32) (lg : Int32) (nr : Int32) (yr : Nat) (va : Nat) (vb : Nat) (vc : Nat) (vd : Nat) (qa : Nat) (qb : Nat) (qc : Nat) (ln : Nat) (sa : Nat) (sb : Nat) (sc : Nat) (sd : Nat) (se : Nat) (pn : Nat) (ma : Nat) (mb : Nat) (mc : Nat) (rv : Nat) (mn : Nat) (tol : Int32) (rn : Nat) (l_ : Nat) (n : Nat) (fm : Nat → Int32) (fx : Nat → Int32) (fy : Nat → Int32) (X : Nat → Int32) (Y : Nat → Int32) (fb : Nat → Int32) (B : Nat → Int32) (e1 : Nat → Int32) (e2 : Nat → Int32) (rq : Int32) (hl3 : l_ < 3) (hm : fm l_ = nI n) (hn : n ≤ 48) (hX : ∀ k, k < n → fx (48 * l_ + k) = X k) (hY : ∀ k, k < n → fy (48 * l_ + k) = Y k) (hB : ∀ k, k < 64 → fb k = B k) (h2n : 2 ≤ n) (hin : ∀ k, k < n → inP (X k) ∧ inP (Y k)) : CtV l g yX9_move wsX9_move rm_X9_move [.ref mo, .int (nI l_), .int rq] [gO mo 9 [.int th, .ref zt, .int (nI tn), .int (nI sz), .ref zx, .ref zy, .ref zm, .ref zb, .int rt, .int w0, .int w1, .int w2, .int lg, .int nr, .int (nI yr), .ref va, .ref vb, .ref vc, .ref vd, .ref qa, .ref qb, .ref qc, .int (nI ln), .ref sa, .ref sb, .ref sc, .ref sd, .ref se, .int (nI pn), .ref ma, .ref mb, .ref mc, .ref rv, .int (nI mn), .int tol, .int (nI rn)], gI g zx 144 fx, gI g zy 144 fy, gI g zm 3 fm, gI g zb 64 fb, gI g va 48 e1, gI g vb 48 e2] (fun (u : (Nat → Int32) × (Nat → Int32) × (Nat → Int32) × (Nat → Int32)) => lnW l_ n (mvR X X Y n B rq w0 w1 w2) fx u.1 ∧ lnW l_ n (mvR Y X Y n B rq w0 w1 w2) fy u.2.1) (fun (u : (Nat → Int32) × (Nat → Int32) × (Nat → Int32) × (Nat → Int32)) => [gO mo 9 [.int th, .ref zt, .int (nI tn), .int (nI sz), .ref zx, .ref zy, .ref zm, .ref zb, .int rt, .int w0, .int w1, .int w2, .int lg, .int nr, .int (nI yr), .ref va, .ref vb, .ref vc, .ref vd, .ref qa, .ref qb, .ref qc, .int (nI ln), .ref sa, .ref sb, .ref sc, .ref sd, .ref se, .int (nI pn), .ref ma, .ref mb, .ref mc, .ref rv, .int (nI mn), .int tol, .int (nI rn)], gI g zx 144 u.1, gI g zy 144 u.2.1, gI g zm 3 fm, gI g zb 64 fb, gI g va 48 u.2.2.1, gI g vb 48 u.2.2.2]) := by
  refine CtV.of (cc := cX9_move) (maxL := 4) (by decide) rfl (Nat.le_of_ble_eq_true rfl) ?_
  intro p e s m args below meth c A Q hnm F hK hA hP hD hS hret ls hl
  have hx := F.1
  have hb := F.2.1
  have hl : lv_has ls 4 [(0, .ref mo), (1, .int (nI l_)), (2, .int rq)] := hl
  refine lv_iconst (v := 1) hx hb dX9_move_0 (by decide) ?_
  refine lv_istore_n (lv' := [(3, .int 1), (0, .ref mo), (1, .int (nI l_)), (2, .int rq)]) hx hb dX9_move_1 rfl hl (by decide) rfl (fun ls hl => ?_)
  have L2 : ∀ (fuel : Nat) (k : Nat) (m1 : Nat → Int32) (m2 : Nat → Int32) (ls : Array Slot) (H : Heap) (locs : List Loc), n - k < fuel → (1 ≤ k) → (k ≤ n - 1) → (∀ j, 1 ≤ j → j < k → m1 j = (mvR X X Y n B rq w0 w1 w2) j) → (∀ j, 1 ≤ j → j < k → m2 j = (mvR Y X Y n B rq w0 w1 w2) j) → lv_has ls 4 [(0, .ref mo), (1, .int (nI l_)), (2, .int rq), (3, .int (nI k))] → gP g [gO mo 9 [.int th, .ref zt, .int (nI tn), .int (nI sz), .ref zx, .ref zy, .ref zm, .ref zb, .int rt, .int w0, .int w1, .int w2, .int lg, .int nr, .int (nI yr), .ref va, .ref vb, .ref vc, .ref vd, .ref qa, .ref qb, .ref qc, .int (nI ln), .ref sa, .ref sb, .ref sc, .ref sd, .ref se, .int (nI pn), .ref ma, .ref mb, .ref mc, .ref rv, .int (nI mn), .int tol, .int (nI rn)], gI g zx 144 fx, gI g zy 144 fy, gI g zm 3 fm, gI g zb 64 fb, gI g va 48 m1, gI g vb 48 m2] H → va_D A [gO mo 9 [.int th, .ref zt, .int (nI tn), .int (nI sz), .ref zx, .ref zy, .ref zm, .ref zb, .int rt, .int w0, .int w1, .int w2, .int lg, .int nr, .int (nI yr), .ref va, .ref vb, .ref vc, .ref vd, .ref qa, .ref qb, .ref qc, .int (nI ln), .ref sa, .ref sb, .ref sc, .ref sd, .ref se, .int (nI pn), .ref ma, .ref mb, .ref mc, .ref rv, .int (nI mn), .int tol, .int (nI rn)], gI g zx 144 fx, gI g zy 144 fy, gI g zm 3 fm, gI g zb 64 fb, gI g va 48 m1, gI g vb 48 m2] → va_S A s.heap H locs → W p l e rm_X9_move s m args below meth c H locs 0 0 Q (F0 m 2 ls []) := by
    intro fuel
    induction fuel with
    | zero => intro k m1 m2 _ _ _ hk; exact absurd hk (Nat.not_lt_zero _)
    | succ fuel_2 ih_2 =>
      intro k m1 m2 ls H locs hk_2 hk1 hk2 h1 h2 hl hP hD hS
      refine lv_iload_n hx hb dX9_move_2 rfl (lv_at hl 3 rfl) ?_
      refine lv_aload_n hx hb dX9_move_3 rfl (lv_at hl 0 rfl) ?_
      refine g_get (C := RX9) (T := TX9) (N := 36) F hK hP i_X9_move_X9 0 rfl rfl 6 (by decide) k_X9_move_f34 (v := .ref zm) rfl dX9_move_4 ?_
      refine lv_iload_n hx hb dX9_move_7 rfl (lv_at hl 1 rfl) ?_
      refine g_iald (i := l_) (v := (nI n)) hx hb hK hP 3 rfl (by decide) (by omega) (hm) dX9_move_8 ?_
      refine lv_iconst (v := 1) hx hb dX9_move_9 (by decide) ?_
      refine n_isub (a := n) (b := 1) (d := n - 1) hx hb dX9_move_10 (by omega) (by omega) ?_
      refine n_icmp_ge (a := k) (b := n - 1) (tgt := 48) hx hb dX9_move_11 (by decide) (by omega) (by omega) (fun c_11 => ?_) (fun c_11 => ?_)
      · refine lv_iconst (v := 1) hx hb dX9_move_48 (by decide) ?_
        refine lv_istore_n (lv' := [(3, .int 1), (0, .ref mo), (1, .int (nI l_)), (2, .int rq)]) hx hb dX9_move_49 rfl hl (by decide) rfl (fun ls hl => ?_)
        have L50 : ∀ (fuel : Nat) (k2 : Nat) (gx : Nat → Int32) (gy : Nat → Int32) (ls : Array Slot) (H : Heap) (locs : List Loc), n - k2 < fuel → (1 ≤ k2) → (k2 ≤ n - 1) → (lnW l_ k2 (mvR X X Y n B rq w0 w1 w2) fx gx) → (lnW l_ k2 (mvR Y X Y n B rq w0 w1 w2) fy gy) → lv_has ls 4 [(0, .ref mo), (1, .int (nI l_)), (2, .int rq), (3, .int (nI k2))] → gP g [gO mo 9 [.int th, .ref zt, .int (nI tn), .int (nI sz), .ref zx, .ref zy, .ref zm, .ref zb, .int rt, .int w0, .int w1, .int w2, .int lg, .int nr, .int (nI yr), .ref va, .ref vb, .ref vc, .ref vd, .ref qa, .ref qb, .ref qc, .int (nI ln), .ref sa, .ref sb, .ref sc, .ref sd, .ref se, .int (nI pn), .ref ma, .ref mb, .ref mc, .ref rv, .int (nI mn), .int tol, .int (nI rn)], gI g zx 144 gx, gI g zy 144 gy, gI g zm 3 fm, gI g zb 64 fb, gI g va 48 m1, gI g vb 48 m2] H → va_D A [gO mo 9 [.int th, .ref zt, .int (nI tn), .int (nI sz), .ref zx, .ref zy, .ref zm, .ref zb, .int rt, .int w0, .int w1, .int w2, .int lg, .int nr, .int (nI yr), .ref va, .ref vb, .ref vc, .ref vd, .ref qa, .ref qb, .ref qc, .int (nI ln), .ref sa, .ref sb, .ref sc, .ref sd, .ref se, .int (nI pn), .ref ma, .ref mb, .ref mc, .ref rv, .int (nI mn), .int tol, .int (nI rn)], gI g zx 144 gx, gI g zy 144 gy, gI g zm 3 fm, gI g zb 64 fb, gI g va 48 m1, gI g vb 48 m2] → va_S A s.heap H locs → W p l e rm_X9_move s m args below meth c H locs 0 0 Q (F0 m 50 ls []) := by
          intro fuel
          induction fuel with
          | zero => intro k2 gx gy _ _ _ hk; exact absurd hk (Nat.not_lt_zero _)
          | succ fuel_50 ih_50 =>
            intro k2 gx gy ls H locs hk_50 hk3 hk4 a1 a2 hl hP hD hS
            refine lv_iload_n hx hb dX9_move_50 rfl (lv_at hl 3 rfl) ?_
            refine lv_aload_n hx hb dX9_move_51 rfl (lv_at hl 0 rfl) ?_
            refine g_get (C := RX9) (T := TX9) (N := 36) F hK hP i_X9_move_X9 0 rfl rfl 6 (by decide) k_X9_move_f34 (v := .ref zm) rfl dX9_move_52 ?_
            refine lv_iload_n hx hb dX9_move_55 rfl (lv_at hl 1 rfl) ?_
            refine g_iald (i := l_) (v := (nI n)) hx hb hK hP 3 rfl (by decide) (by omega) (hm) dX9_move_56 ?_
            refine lv_iconst (v := 1) hx hb dX9_move_57 (by decide) ?_
            refine n_isub (a := n) (b := 1) (d := n - 1) hx hb dX9_move_58 (by omega) (by omega) ?_
            refine n_icmp_ge (a := k2) (b := n - 1) (tgt := 102) hx hb dX9_move_59 (by decide) (by omega) (by omega) (fun c_59 => ?_) (fun c_59 => ?_)
            · exact hret _ _ _ _ (gx, gy, m1, m2) dX9_move_102 (⟨lnW_X a1 (by omega) hX (fun j a b => mvR_o (by omega)) hn, lnW_X a2 (by omega) hY (fun j a b => mvR_o (by omega)) hn⟩) hP hD hS
            · refine lv_aload_n hx hb dX9_move_62 rfl (lv_at hl 0 rfl) ?_
              refine g_get (C := RX9) (T := TX9) (N := 36) F hK hP i_X9_move_X9 0 rfl rfl 4 (by decide) k_X9_move_f27 (v := .ref zx) rfl dX9_move_63 ?_
              refine lv_bipush (v := 48) hx hb dX9_move_66 (by decide) ?_
              refine lv_iload_n hx hb dX9_move_68 rfl (lv_at hl 1 rfl) ?_
              refine n_imul (a := 48) (b := l_) (d := 48 * l_) hx hb dX9_move_69 (rfl) ?_
              refine lv_iload_n hx hb dX9_move_70 rfl (lv_at hl 3 rfl) ?_
              refine n_iadd (a := 48 * l_) (b := k2) (d := 48 * l_ + k2) hx hb dX9_move_71 (by omega) ?_
              refine lv_aload_n hx hb dX9_move_72 rfl (lv_at hl 0 rfl) ?_
              refine g_get (C := RX9) (T := TX9) (N := 36) F hK hP i_X9_move_X9 0 rfl rfl 15 (by decide) k_X9_move_f58 (v := .ref va) rfl dX9_move_73 ?_
              refine lv_iload_n hx hb dX9_move_76 rfl (lv_at hl 3 rfl) ?_
              refine g_iald (i := k2) (v := (m1 k2)) hx hb hK hP 5 rfl (by decide) (by omega) (rfl) dX9_move_77 ?_
              refine g_iast (i := 48 * l_ + k2) (ws2 := [gO mo 9 [.int th, .ref zt, .int (nI tn), .int (nI sz), .ref zx, .ref zy, .ref zm, .ref zb, .int rt, .int w0, .int w1, .int w2, .int lg, .int nr, .int (nI yr), .ref va, .ref vb, .ref vc, .ref vd, .ref qa, .ref qb, .ref qc, .int (nI ln), .ref sa, .ref sb, .ref sc, .ref sd, .ref se, .int (nI pn), .ref ma, .ref mb, .ref mc, .ref rv, .int (nI mn), .int tol, .int (nI rn)], gI g zx 144 (upd gx (48 * l_ + k2) (m1 k2)), gI g zy 144 gy, gI g zm 3 fm, gI g zb 64 fb, gI g va 48 m1, gI g vb 48 m2]) hx hb hK hP hD hS 1 rfl (by decide) (by omega) rfl dX9_move_78 (fun H locs hP hD hS => ?_)
              refine lv_aload_n hx hb dX9_move_79 rfl (lv_at hl 0 rfl) ?_
              refine g_get (C := RX9) (T := TX9) (N := 36) F hK hP i_X9_move_X9 0 rfl rfl 5 (by decide) k_X9_move_f31 (v := .ref zy) rfl dX9_move_80 ?_
              refine lv_bipush (v := 48) hx hb dX9_move_83 (by decide) ?_
              refine lv_iload_n hx hb dX9_move_85 rfl (lv_at hl 1 rfl) ?_
              refine n_imul (a := 48) (b := l_) (d := 48 * l_) hx hb dX9_move_86 (rfl) ?_
              refine lv_iload_n hx hb dX9_move_87 rfl (lv_at hl 3 rfl) ?_
              refine n_iadd (a := 48 * l_) (b := k2) (d := 48 * l_ + k2) hx hb dX9_move_88 (by omega) ?_
              refine lv_aload_n hx hb dX9_move_89 rfl (lv_at hl 0 rfl) ?_
              refine g_get (C := RX9) (T := TX9) (N := 36) F hK hP i_X9_move_X9 0 rfl rfl 16 (by decide) k_X9_move_f61 (v := .ref vb) rfl dX9_move_90 ?_
              refine lv_iload_n hx hb dX9_move_93 rfl (lv_at hl 3 rfl) ?_
              refine g_iald (i := k2) (v := (m2 k2)) hx hb hK hP 6 rfl (by decide) (by omega) (rfl) dX9_move_94 ?_
              refine g_iast (i := 48 * l_ + k2) (ws2 := [gO mo 9 [.int th, .ref zt, .int (nI tn), .int (nI sz), .ref zx, .ref zy, .ref zm, .ref zb, .int rt, .int w0, .int w1, .int w2, .int lg, .int nr, .int (nI yr), .ref va, .ref vb, .ref vc, .ref vd, .ref qa, .ref qb, .ref qc, .int (nI ln), .ref sa, .ref sb, .ref sc, .ref sd, .ref se, .int (nI pn), .ref ma, .ref mb, .ref mc, .ref rv, .int (nI mn), .int tol, .int (nI rn)], gI g zx 144 (upd gx (48 * l_ + k2) (m1 k2)), gI g zy 144 (upd gy (48 * l_ + k2) (m2 k2)), gI g zm 3 fm, gI g zb 64 fb, gI g va 48 m1, gI g vb 48 m2]) hx hb hK hP hD hS 2 rfl (by decide) (by omega) rfl dX9_move_95 (fun H locs hP hD hS => ?_)
              refine lv_iinc (v := (nI (k2 + 1))) (lv' := [(3, .int (nI (k2 + 1))), (0, .ref mo), (1, .int (nI l_)), (2, .int rq)]) hx hb dX9_move_96 hl (k := 3) rfl (g_inc k2 1 (by decide)) (by decide) rfl (fun ls hl => ?_)
              refine lv_goto (tgt := 50) hx hb dX9_move_99 (by decide) ?_
              exact ih_50 (k2 + 1) (upd gx (48 * l_ + k2) (m1 k2)) (upd gy (48 * l_ + k2) (m2 k2)) ls _ _ (by omega) (by omega) (by omega) (lnW_s a1 (h1 k2 (by omega) (by omega))) (lnW_s a2 (h2 k2 (by omega) (by omega))) (lv_sub hl [1, 2, 3, 0] rfl) hP hD hS
        exact L50 ((n - 1) + 1) 1 fx fy ls _ _ (Nat.lt_succ_self _) (by omega) (by omega) (lnW_X (n := 1) (lnW_0 l_ (mvR X X Y n B rq w0 w1 w2) fx) (by decide) (fun j hj => hX j (by omega)) (fun j _ _ => mvR_o (by omega)) (by decide)) (lnW_X (n := 1) (lnW_0 l_ (mvR Y X Y n B rq w0 w1 w2) fy) (by decide) (fun j hj => hY j (by omega)) (fun j _ _ => mvR_o (by omega)) (by decide)) (lv_sub hl [1, 2, 3, 0] rfl) hP hD hS
      · refine lv_aload_n hx hb dX9_move_14 rfl (lv_at hl 0 rfl) ?_
        refine g_get (C := RX9) (T := TX9) (N := 36) F hK hP i_X9_move_X9 0 rfl rfl 15 (by decide) k_X9_move_f58 (v := .ref va) rfl dX9_move_15 ?_
        refine lv_iload_n hx hb dX9_move_18 rfl (lv_at hl 3 rfl) ?_
        refine lv_aload_n hx hb dX9_move_19 rfl (lv_at hl 0 rfl) ?_
        refine lv_iload_n hx hb dX9_move_20 rfl (lv_at hl 1 rfl) ?_
        refine lv_iload_n hx hb dX9_move_21 rfl (lv_at hl 3 rfl) ?_
        refine lv_iload_n hx hb dX9_move_22 rfl (lv_at hl 2 rfl) ?_
        refine lv_iconst (v := 1) hx hb dX9_move_23 (by decide) ?_
        refine g_VI (wr := [gI g va 48 m1, gI g vb 48 m2]) (As := [.int (nI l_), .int (nI k), .int rq, .int 1]) (rest := [.int (nI k), .ref va]) (n := 4) F (c_X9_moved_1 l g mo th zt tn sz zx zy zm zb rt w0 w1 w2 lg nr yr va vb vc vd qa qb qc ln sa sb sc sd se pn ma mb mc rv mn tol rn l_ n fm fx fy X Y fb B k rq (hl3) (hm) (hn) (hX) (hY) (hB) (h2n) (by omega) ((hin k (by omega)).1) ((hin k (by omega)).2)) gX9_move_X9_moved rfl (by decide) ⟨by decide, by decide⟩ 0 9 rfl rfl rfl rfl hl.1 rfl (Nat.le_of_ble_eq_true rfl) dX9_move_24 ⟨Nat.le_of_ble_eq_true rfl, Nat.le_of_ble_eq_true rfl⟩ hK hP hD hS hA [0, 1, 2, 3, 4] [5, 6] (by decide) rfl rfl (by decide) (by decide) (fun r_24 u_24 H locs hw_24 hP hD hS => ?_)
        have hP : gP g [gI g va 48 m1, gI g vb 48 m2, gO mo 9 [.int th, .ref zt, .int (nI tn), .int (nI sz), .ref zx, .ref zy, .ref zm, .ref zb, .int rt, .int w0, .int w1, .int w2, .int lg, .int nr, .int (nI yr), .ref va, .ref vb, .ref vc, .ref vd, .ref qa, .ref qb, .ref qc, .int (nI ln), .ref sa, .ref sb, .ref sc, .ref sd, .ref se, .int (nI pn), .ref ma, .ref mb, .ref mc, .ref rv, .int (nI mn), .int tol, .int (nI rn)], gI g zx 144 fx, gI g zy 144 fy, gI g zm 3 fm, gI g zb 64 fb] H := hP
        have hD : va_D A [gI g va 48 m1, gI g vb 48 m2, gO mo 9 [.int th, .ref zt, .int (nI tn), .int (nI sz), .ref zx, .ref zy, .ref zm, .ref zb, .int rt, .int w0, .int w1, .int w2, .int lg, .int nr, .int (nI yr), .ref va, .ref vb, .ref vc, .ref vd, .ref qa, .ref qb, .ref qc, .int (nI ln), .ref sa, .ref sb, .ref sc, .ref sd, .ref se, .int (nI pn), .ref ma, .ref mb, .ref mc, .ref rv, .int (nI mn), .int tol, .int (nI rn)], gI g zx 144 fx, gI g zy 144 fy, gI g zm 3 fm, gI g zb 64 fb] := hD
        obtain rfl := hw_24
        refine g_iast (i := k) (ws2 := [gI g va 48 (upd m1 k (mvS X n w0 w1 w2 (rq * B (bidx (X k) (Y k))) k)), gI g vb 48 m2, gO mo 9 [.int th, .ref zt, .int (nI tn), .int (nI sz), .ref zx, .ref zy, .ref zm, .ref zb, .int rt, .int w0, .int w1, .int w2, .int lg, .int nr, .int (nI yr), .ref va, .ref vb, .ref vc, .ref vd, .ref qa, .ref qb, .ref qc, .int (nI ln), .ref sa, .ref sb, .ref sc, .ref sd, .ref se, .int (nI pn), .ref ma, .ref mb, .ref mc, .ref rv, .int (nI mn), .int tol, .int (nI rn)], gI g zx 144 fx, gI g zy 144 fy, gI g zm 3 fm, gI g zb 64 fb]) hx hb hK hP hD hS 0 rfl (by decide) (by omega) rfl dX9_move_27 (fun H locs hP hD hS => ?_)
        refine lv_aload_n hx hb dX9_move_28 rfl (lv_at hl 0 rfl) ?_
        refine g_get (C := RX9) (T := TX9) (N := 36) F hK hP i_X9_move_X9 2 rfl rfl 16 (by decide) k_X9_move_f61 (v := .ref vb) rfl dX9_move_29 ?_
        refine lv_iload_n hx hb dX9_move_32 rfl (lv_at hl 3 rfl) ?_
        refine lv_aload_n hx hb dX9_move_33 rfl (lv_at hl 0 rfl) ?_
        refine lv_iload_n hx hb dX9_move_34 rfl (lv_at hl 1 rfl) ?_
        refine lv_iload_n hx hb dX9_move_35 rfl (lv_at hl 3 rfl) ?_
        refine lv_iload_n hx hb dX9_move_36 rfl (lv_at hl 2 rfl) ?_
        refine lv_iconst (v := 0) hx hb dX9_move_37 (by decide) ?_
        refine g_VI (wr := [gI g va 48 (upd m1 k (mvS X n w0 w1 w2 (rq * B (bidx (X k) (Y k))) k)), gI g vb 48 m2]) (As := [.int (nI l_), .int (nI k), .int rq, .int 0]) (rest := [.int (nI k), .ref vb]) (n := 4) F (c_X9_moved_0 l g mo th zt tn sz zx zy zm zb rt w0 w1 w2 lg nr yr va vb vc vd qa qb qc ln sa sb sc sd se pn ma mb mc rv mn tol rn l_ n fm fx fy X Y fb B k rq (hl3) (hm) (hn) (hX) (hY) (hB) (h2n) (by omega) ((hin k (by omega)).1) ((hin k (by omega)).2)) gX9_move_X9_moved rfl (by decide) ⟨by decide, by decide⟩ 2 9 rfl rfl rfl rfl hl.1 rfl (Nat.le_of_ble_eq_true rfl) dX9_move_38 ⟨Nat.le_of_ble_eq_true rfl, Nat.le_of_ble_eq_true rfl⟩ hK hP hD hS hA [2, 3, 4, 5, 6] [0, 1] (by decide) rfl rfl (by decide) (by decide) (fun r_38 u_38 H locs hw_38 hP hD hS => ?_)
        have hP : gP g [gI g va 48 (upd m1 k (mvS X n w0 w1 w2 (rq * B (bidx (X k) (Y k))) k)), gI g vb 48 m2, gO mo 9 [.int th, .ref zt, .int (nI tn), .int (nI sz), .ref zx, .ref zy, .ref zm, .ref zb, .int rt, .int w0, .int w1, .int w2, .int lg, .int nr, .int (nI yr), .ref va, .ref vb, .ref vc, .ref vd, .ref qa, .ref qb, .ref qc, .int (nI ln), .ref sa, .ref sb, .ref sc, .ref sd, .ref se, .int (nI pn), .ref ma, .ref mb, .ref mc, .ref rv, .int (nI mn), .int tol, .int (nI rn)], gI g zx 144 fx, gI g zy 144 fy, gI g zm 3 fm, gI g zb 64 fb] H := hP
        have hD : va_D A [gI g va 48 (upd m1 k (mvS X n w0 w1 w2 (rq * B (bidx (X k) (Y k))) k)), gI g vb 48 m2, gO mo 9 [.int th, .ref zt, .int (nI tn), .int (nI sz), .ref zx, .ref zy, .ref zm, .ref zb, .int rt, .int w0, .int w1, .int w2, .int lg, .int nr, .int (nI yr), .ref va, .ref vb, .ref vc, .ref vd, .ref qa, .ref qb, .ref qc, .int (nI ln), .ref sa, .ref sb, .ref sc, .ref sd, .ref se, .int (nI pn), .ref ma, .ref mb, .ref mc, .ref rv, .int (nI mn), .int tol, .int (nI rn)], gI g zx 144 fx, gI g zy 144 fy, gI g zm 3 fm, gI g zb 64 fb] := hD
        obtain rfl := hw_38
        refine g_iast (i := k) (ws2 := [gI g va 48 (upd m1 k (mvS X n w0 w1 w2 (rq * B (bidx (X k) (Y k))) k)), gI g vb 48 (upd m2 k (mvS Y n w0 w1 w2 (rq * B (bidx (X k) (Y k))) k)), gO mo 9 [.int th, .ref zt, .int (nI tn), .int (nI sz), .ref zx, .ref zy, .ref zm, .ref zb, .int rt, .int w0, .int w1, .int w2, .int lg, .int nr, .int (nI yr), .ref va, .ref vb, .ref vc, .ref vd, .ref qa, .ref qb, .ref qc, .int (nI ln), .ref sa, .ref sb, .ref sc, .ref sd, .ref se, .int (nI pn), .ref ma, .ref mb, .ref mc, .ref rv, .int (nI mn), .int tol, .int (nI rn)], gI g zx 144 fx, gI g zy 144 fy, gI g zm 3 fm, gI g zb 64 fb]) hx hb hK hP hD hS 1 rfl (by decide) (by omega) rfl dX9_move_41 (fun H locs hP hD hS => ?_)
        refine lv_iinc (v := (nI (k + 1))) (lv' := [(3, .int (nI (k + 1))), (0, .ref mo), (1, .int (nI l_)), (2, .int rq)]) hx hb dX9_move_42 hl (k := 3) rfl (g_inc k 1 (by decide)) (by decide) rfl (fun ls hl => ?_)
        refine lv_goto (tgt := 2) hx hb dX9_move_45 (by decide) ?_
        exact ih_2 (k + 1) (upd m1 k (mvS X n w0 w1 w2 (rq * B (bidx (X k) (Y k))) k)) (upd m2 k (mvS Y n w0 w1 w2 (rq * B (bidx (X k) (Y k))) k)) ls _ _ (by omega) (by omega) (by omega) (fun j a b => by by_cases e : j = k; (subst e; rw [pk_us]; exact mvR_i ⟨by omega, by omega⟩); (rw [pk_un e]; exact h1 j a (by omega))) (fun j a b => by by_cases e : j = k; (subst e; rw [pk_us]; exact mvR_i ⟨by omega, by omega⟩); (rw [pk_un e]; exact h2 j a (by omega))) (lv_sub hl [1, 2, 3, 0] rfl) (hP.sub [2, 3, 4, 5, 6, 0, 1] rfl) (hD.sub [2, 3, 4, 5, 6, 0, 1] (by decide) rfl) hS
  exact L2 ((n - 1) + 1) 1 e1 e2 ls _ _ (Nat.lt_succ_self _) (by omega) (by omega) (fun j a b => absurd b (by omega)) (fun j a b => absurd b (by omega)) (lv_sub hl [1, 2, 3, 0] rfl) hP hD hS

