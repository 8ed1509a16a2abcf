theorem abv_i {X Y : RW} {a b : Nat} {x y : Int32} (h1 : inP (X a)) (h2 : inP (Y a)) (h3 : inP (X b)) (h4 : inP (Y b)) (h5 : inP x) (h6 : inP y) : abvB X Y a b x y = true ↔ (¬ x < X a ∧ x < X b) ∧ ¬ (Y a - y) * (X b - X a) + (Y b - Y a) * (x - X a) ≤ 0 := by
  rw [abvB, Bool.and_eq_true, Bool.and_eq_true, decide_eq_true_eq, decide_eq_true_eq, decide_eq_true_eq, ← abv_r h1 h2 h3 h4 h5 h6, Int32.not_le]
theorem isW_p {x : Int32} {m : Int32} (h : isW 0 m x) (hm : m.toInt ≤ 511) : inP x := by
  obtain ⟨h1, h2⟩ := h
  rw [Int32.lt_iff_toInt_lt] at h1 h2
  rw [ti_0] at h1
  exact ⟨by omega, by omega⟩
theorem side_p {x y : Int32} (h : hasSideP x y) : inP x ∧ inP y := ⟨isW_p h.1 (by decide), isW_p h.2 (by decide)⟩
abbrev rm_X9_sideOf : Room := { frames := 0, cells := 0, slots := 0, locals := 0 }
theorem i_X9_sideOf_X9 : ∀ w ∈ wsX90, w ∈ wsX9_sideOf := by decide +kernel
theorem k_X9_sideOf_f34 : Cond.fieldLink RX9 34 (TX9 6).1 (TX9 6).2.1 (TX9 6).2.2.1 ∈ wsX9_sideOf := by decide +kernel
theorem k_X9_sideOf_f27 : Cond.fieldLink RX9 27 (TX9 4).1 (TX9 4).2.1 (TX9 4).2.2.1 ∈ wsX9_sideOf := by decide +kernel
theorem k_X9_sideOf_f31 : Cond.fieldLink RX9 31 (TX9 5).1 (TX9 5).2.1 (TX9 5).2.2.1 ∈ wsX9_sideOf := by decide +kernel
set_option maxHeartbeats 4000000 in
set_option maxRecDepth 100000 in
theorem c_X9_sideOf (l : Launch) (g : gT) (mo : Nat) (th : Int32) (zt : Nat) (tn : Nat) (sz : Nat) (zx : Nat) (zy : Nat) (zm : Nat) (zb : Nat) (rt : Int32) (w0 : Int32) (w1 : Int32) (w2 : Int32) (lg : Int32) (nr : Int32) (yr : Nat) (va : Nat) (vb : Nat) (vc : Nat) (vd : Nat) (qa : Nat) (qb : Nat) (qc : Nat) (ln : Nat) (sa : Nat) (sb : Nat) (sc : Nat) (sd : Nat) (se : Nat) (pn : Nat) (ma : Nat) (mb : Nat) (mc : Nat) (rv : Nat) (mn : Nat) (tol : Int32) (rn : Nat) (l_ : Nat) (n : Nat) (fm : Nat → Int32) (fx : Nat → Int32) (fy : Nat → Int32) (X : Nat → Int32) (Y : Nat → Int32) (x : Int32) (y : Int32) (hl3 : l_ < 3) (hm : fm l_ = nI n) (hn : n ≤ 48) (hX : ∀ k, k < n → fx (48 * l_ + k) = X k) (hY : ∀ k, k < n → fy (48 * l_ + k) = Y k) (h1n : 1 ≤ n) (hin : ∀ k, k < n → inP (X k) ∧ inP (Y k)) (hpx : inP x) (hpy : inP y) : CtI l g yX9_sideOf wsX9_sideOf rm_X9_sideOf [.ref mo, .int (nI l_), .int x, .int y] [gO mo 9 [.int th, .ref zt, .int (nI tn), .int (nI sz), .ref zx, .ref zy, .ref zm, .ref zb, .int rt, .int w0, .int w1, .int w2, .int lg, .int nr, .int (nI yr), .ref va, .ref vb, .ref vc, .ref vd, .ref qa, .ref qb, .ref qc, .int (nI ln), .ref sa, .ref sb, .ref sc, .ref sd, .ref se, .int (nI pn), .ref ma, .ref mb, .ref mc, .ref rv, .int (nI mn), .int tol, .int (nI rn)], gI g zx 144 fx, gI g zy 144 fy, gI g zm 3 fm] (fun (r : Int32) (_ : Unit) => r = nI (sideS X Y n x y)) (fun (_ : Unit) => [gO mo 9 [.int th, .ref zt, .int (nI tn), .int (nI sz), .ref zx, .ref zy, .ref zm, .ref zb, .int rt, .int w0, .int w1, .int w2, .int lg, .int nr, .int (nI yr), .ref va, .ref vb, .ref vc, .ref vd, .ref qa, .ref qb, .ref qc, .int (nI ln), .ref sa, .ref sb, .ref sc, .ref sd, .ref se, .int (nI pn), .ref ma, .ref mb, .ref mc, .ref rv, .int (nI mn), .int tol, .int (nI rn)], gI g zx 144 fx, gI g zy 144 fy, gI g zm 3 fm]) := by
  refine CtI.of (cc := cX9_sideOf) (maxL := 11) (ret := .int) (by decide) rfl (Nat.le_of_ble_eq_true rfl) ?_
  intro p e s m args below meth c A Q hnm F hK hA hP hD hS hret ls hl
  have hx := F.1
  have hb := F.2.1
  have hl : lv_has ls 11 [(0, .ref mo), (1, .int (nI l_)), (2, .int x), (3, .int y)] := hl
  refine lv_iconst (v := 0) hx hb dX9_sideOf_0 (by decide) ?_
  refine lv_istore (lv' := [(4, .int 0), (0, .ref mo), (1, .int (nI l_)), (2, .int x), (3, .int y)]) hx hb dX9_sideOf_1 hl (by decide) rfl (fun ls hl => ?_)
  refine lv_iconst (v := 0) hx hb dX9_sideOf_3 (by decide) ?_
  refine lv_istore (lv' := [(5, .int 0), (4, .int 0), (0, .ref mo), (1, .int (nI l_)), (2, .int x), (3, .int y)]) hx hb dX9_sideOf_4 hl (by decide) rfl (fun ls hl => ?_)
  have L6 : ∀ (fuel : Nat) (cn : Nat) (k : Nat) (ls : Array Slot) (H : Heap) (locs : List Loc), n - k < fuel → (k ≤ n - 1) → (cn = cntB (pabB X Y x y) k) → lv_has ls 11 [(0, .ref mo), (1, .int (nI l_)), (2, .int x), (3, .int y), (4, .int (nI cn)), (5, .int (nI k))] → gP g [gO mo 9 [.int th, .ref zt, .int (nI tn), .int (nI sz), .ref zx, .ref zy, .ref zm, .ref zb, .int rt, .int w0, .int w1, .int w2, .int lg, .int nr, .int (nI yr), .ref va, .ref vb, .ref vc, .ref vd, .ref qa, .ref qb, .ref qc, .int (nI ln), .ref sa, .ref sb, .ref sc, .ref sd, .ref se, .int (nI pn), .ref ma, .ref mb, .ref mc, .ref rv, .int (nI mn), .int tol, .int (nI rn)], gI g zx 144 fx, gI g zy 144 fy, gI g zm 3 fm] H → va_D A [gO mo 9 [.int th, .ref zt, .int (nI tn), .int (nI sz), .ref zx, .ref zy, .ref zm, .ref zb, .int rt, .int w0, .int w1, .int w2, .int lg, .int nr, .int (nI yr), .ref va, .ref vb, .ref vc, .ref vd, .ref qa, .ref qb, .ref qc, .int (nI ln), .ref sa, .ref sb, .ref sc, .ref sd, .ref se, .int (nI pn), .ref ma, .ref mb, .ref mc, .ref rv, .int (nI mn), .int tol, .int (nI rn)], gI g zx 144 fx, gI g zy 144 fy, gI g zm 3 fm] → va_S A s.heap H locs → W p l e rm_X9_sideOf s m args below meth c H locs 0 0 Q (F0 m 6 ls []) := by
    intro fuel
    induction fuel with
    | zero => intro cn k _ _ _ hk; exact absurd hk (Nat.not_lt_zero _)
    | succ fuel_6 ih_6 =>
      intro cn k ls H locs hk_6 hk hc hl hP hD hS
      have hcl : cn ≤ k := by rw [hc]; exact cntB_le _ _
      refine lv_iload hx hb dX9_sideOf_6 (lv_at hl 5 rfl) ?_
      refine lv_aload_n hx hb dX9_sideOf_8 rfl (lv_at hl 0 rfl) ?_
      refine g_get (C := RX9) (T := TX9) (N := 36) F hK hP i_X9_sideOf_X9 0 rfl rfl 6 (by decide) k_X9_sideOf_f34 (v := .ref zm) rfl dX9_sideOf_9 ?_
      refine lv_iload_n hx hb dX9_sideOf_12 rfl (lv_at hl 1 rfl) ?_
      refine g_iald (i := l_) (v := (nI n)) hx hb hK hP 3 rfl (by decide) (by omega) (hm) dX9_sideOf_13 ?_
      refine lv_iconst (v := 1) hx hb dX9_sideOf_14 (by decide) ?_
      refine n_isub (a := n) (b := 1) (d := n - 1) hx hb dX9_sideOf_15 (by omega) (by omega) ?_
      refine n_icmp_ge (a := k) (b := n - 1) (tgt := 185) hx hb dX9_sideOf_16 (by decide) (by omega) (by omega) (fun c_16 => ?_) (fun c_16 => ?_)
      · refine lv_iload hx hb dX9_sideOf_185 (lv_at hl 4 rfl) ?_
        refine lv_iconst (v := 2) hx hb dX9_sideOf_187 (by decide) ?_
        refine n_irem (a := cn) (b := 2) (d := cn % 2) hx hb dX9_sideOf_188 (by omega) (by decide) (by decide) (rfl) ?_
        exact hret _ _ _ _ (nI (cn % 2)) () dX9_sideOf_189 rfl (by rw [hc, show k = n - 1 by omega]; rfl) hP hD hS
      · refine lv_bipush (v := 48) hx hb dX9_sideOf_19 (by decide) ?_
        refine lv_iload_n hx hb dX9_sideOf_21 rfl (lv_at hl 1 rfl) ?_
        refine n_imul (a := 48) (b := l_) (d := 48 * l_) hx hb dX9_sideOf_22 (rfl) ?_
        refine lv_iload hx hb dX9_sideOf_23 (lv_at hl 5 rfl) ?_
        refine n_iadd (a := 48 * l_) (b := k) (d := 48 * l_ + k) hx hb dX9_sideOf_25 (by omega) ?_
        refine lv_istore (lv' := [(6, .int (nI (48 * l_ + k))), (0, .ref mo), (1, .int (nI l_)), (2, .int x), (3, .int y), (4, .int (nI cn)), (5, .int (nI k))]) hx hb dX9_sideOf_26 hl (by decide) rfl (fun ls hl => ?_)
        obtain ⟨ha1, ha2⟩ := hin k (by omega)
        obtain ⟨hb1, hb2⟩ := hin (k + 1) (by omega)
        refine lv_aload_n hx hb dX9_sideOf_28 rfl (lv_at hl 1 rfl) ?_
        refine g_get (C := RX9) (T := TX9) (N := 36) F hK hP i_X9_sideOf_X9 0 rfl rfl 4 (by decide) k_X9_sideOf_f27 (v := .ref zx) rfl dX9_sideOf_29 ?_
        refine lv_iload hx hb dX9_sideOf_32 (lv_at hl 0 rfl) ?_
        refine g_iald (i := 48 * l_ + k) (v := (X k)) hx hb hK hP 1 rfl (by decide) (by omega) ((congrArg fx (show 48 * l_ + k = 48 * l_ + k by omega)).trans (hX k (by omega))) dX9_sideOf_34 ?_
        refine lv_aload_n hx hb dX9_sideOf_35 rfl (lv_at hl 1 rfl) ?_
        refine g_get (C := RX9) (T := TX9) (N := 36) F hK hP i_X9_sideOf_X9 0 rfl rfl 4 (by decide) k_X9_sideOf_f27 (v := .ref zx) rfl dX9_sideOf_36 ?_
        refine lv_iload hx hb dX9_sideOf_39 (lv_at hl 0 rfl) ?_
        refine lv_iconst (v := 1) hx hb dX9_sideOf_41 (by decide) ?_
        refine n_iadd (a := 48 * l_ + k) (b := 1) (d := 48 * l_ + k + 1) hx hb dX9_sideOf_42 (by omega) ?_
        refine g_iald (i := 48 * l_ + k + 1) (v := (X (k + 1))) hx hb hK hP 1 rfl (by decide) (by omega) ((congrArg fx (show 48 * l_ + k + 1 = 48 * l_ + (k + 1) by omega)).trans (hX (k + 1) (by omega))) dX9_sideOf_43 ?_
        refine lv_icmp_le (tgt := 51) hx hb dX9_sideOf_44 (by decide) (fun c_44 => ?_) (fun c_44 => ?_)
        · refine lv_iconst (v := 0) hx hb dX9_sideOf_51 (by decide) ?_
          refine lv_istore (lv' := [(7, .int 0), (6, .int (nI (48 * l_ + k))), (0, .ref mo), (1, .int (nI l_)), (2, .int x), (3, .int y), (4, .int (nI cn)), (5, .int (nI k))]) hx hb dX9_sideOf_52 hl (by decide) rfl (fun ls hl => ?_)
          refine lv_iload hx hb dX9_sideOf_54 (lv_at hl 0 rfl) ?_
          refine lv_if_eq (tgt := 66) hx hb dX9_sideOf_56 (by decide) (fun _ => ?_) (fun h => absurd (by decide) h)
          refine lv_iload hx hb dX9_sideOf_66 (lv_at hl 1 rfl) ?_
          refine lv_istore (lv' := [(8, .int (nI (48 * l_ + k))), (7, .int 0), (6, .int (nI (48 * l_ + k))), (0, .ref mo), (1, .int (nI l_)), (2, .int x), (3, .int y), (4, .int (nI cn)), (5, .int (nI k))]) hx hb dX9_sideOf_68 hl (by decide) rfl (fun ls hl => ?_)
          refine lv_iload hx hb dX9_sideOf_70 (lv_at hl 1 rfl) ?_
          refine lv_if_eq (tgt := 80) hx hb dX9_sideOf_72 (by decide) (fun _ => ?_) (fun h => absurd (by decide) h)
          refine lv_iload hx hb dX9_sideOf_80 (lv_at hl 2 rfl) ?_
          refine lv_iconst (v := 1) hx hb dX9_sideOf_82 (by decide) ?_
          refine n_iadd (a := 48 * l_ + k) (b := 1) (d := 48 * l_ + k + 1) hx hb dX9_sideOf_83 (by omega) ?_
          refine lv_istore (lv' := [(9, .int (nI (48 * l_ + k + 1))), (8, .int (nI (48 * l_ + k))), (7, .int 0), (6, .int (nI (48 * l_ + k))), (0, .ref mo), (1, .int (nI l_)), (2, .int x), (3, .int y), (4, .int (nI cn)), (5, .int (nI k))]) hx hb dX9_sideOf_84 hl (by decide) rfl (fun ls hl => ?_)
          refine lv_iload_n hx hb dX9_sideOf_86 rfl (lv_at hl 6 rfl) ?_
          refine lv_aload_n hx hb dX9_sideOf_87 rfl (lv_at hl 4 rfl) ?_
          refine g_get (C := RX9) (T := TX9) (N := 36) F hK hP i_X9_sideOf_X9 0 rfl rfl 4 (by decide) k_X9_sideOf_f27 (v := .ref zx) rfl dX9_sideOf_88 ?_
          refine lv_iload hx hb dX9_sideOf_91 (lv_at hl 1 rfl) ?_
          refine g_iald (i := 48 * l_ + k) (v := (X k)) hx hb hK hP 1 rfl (by decide) (by omega) ((congrArg fx (show 48 * l_ + k = 48 * l_ + k by omega)).trans (hX k (by omega))) dX9_sideOf_93 ?_
          refine lv_icmp_lt (tgt := 179) hx hb dX9_sideOf_94 (by decide) (fun c_94 => ?_) (fun c_94 => ?_)
          · refine lv_iinc (v := (nI (k + 1))) (lv' := [(5, .int (nI (k + 1))), (9, .int (nI (48 * l_ + k + 1))), (8, .int (nI (48 * l_ + k))), (7, .int 0), (6, .int (nI (48 * l_ + k))), (0, .ref mo), (1, .int (nI l_)), (2, .int x), (3, .int y), (4, .int (nI cn))]) hx hb dX9_sideOf_179 hl (k := 9) rfl (g_inc k 1 (by decide)) (by decide) rfl (fun ls hl => ?_)
            refine lv_goto (tgt := 6) hx hb dX9_sideOf_182 (by decide) ?_
            exact ih_6 cn (k + 1) ls _ _ (by omega) (by omega) (by rw [hc]; exact (cntB_n (by rw [pab_f (Int32.not_lt.mpr c_44)]; intro z; have h := (abv_i ha1 ha2 hb1 hb2 hpx hpy).mp z; exact h.1.1 c_94)).symm) (lv_sub hl [5, 6, 7, 8, 9, 0] rfl) hP hD hS
          · refine lv_iload_n hx hb dX9_sideOf_97 rfl (lv_at hl 6 rfl) ?_
            refine lv_aload_n hx hb dX9_sideOf_98 rfl (lv_at hl 4 rfl) ?_
            refine g_get (C := RX9) (T := TX9) (N := 36) F hK hP i_X9_sideOf_X9 0 rfl rfl 4 (by decide) k_X9_sideOf_f27 (v := .ref zx) rfl dX9_sideOf_99 ?_
            refine lv_iload hx hb dX9_sideOf_102 (lv_at hl 0 rfl) ?_
            refine g_iald (i := 48 * l_ + k + 1) (v := (X (k + 1))) hx hb hK hP 1 rfl (by decide) (by omega) ((congrArg fx (show 48 * l_ + k + 1 = 48 * l_ + (k + 1) by omega)).trans (hX (k + 1) (by omega))) dX9_sideOf_104 ?_
            refine lv_icmp_lt (tgt := 111) hx hb dX9_sideOf_105 (by decide) (fun c_105 => ?_) (fun c_105 => ?_)
            · refine lv_aload_n hx hb dX9_sideOf_111 rfl (lv_at hl 4 rfl) ?_
              refine g_get (C := RX9) (T := TX9) (N := 36) F hK hP i_X9_sideOf_X9 0 rfl rfl 5 (by decide) k_X9_sideOf_f31 (v := .ref zy) rfl dX9_sideOf_112 ?_
              refine lv_iload hx hb dX9_sideOf_115 (lv_at hl 1 rfl) ?_
              refine g_iald (i := 48 * l_ + k) (v := (Y k)) hx hb hK hP 2 rfl (by decide) (by omega) ((congrArg fy (show 48 * l_ + k = 48 * l_ + k by omega)).trans (hY k (by omega))) dX9_sideOf_117 ?_
              refine lv_iload_n hx hb dX9_sideOf_118 rfl (lv_at hl 7 rfl) ?_
              refine lv_isub hx hb dX9_sideOf_119 ?_
              refine lv_aload_n hx hb dX9_sideOf_120 rfl (lv_at hl 4 rfl) ?_
              refine g_get (C := RX9) (T := TX9) (N := 36) F hK hP i_X9_sideOf_X9 0 rfl rfl 4 (by decide) k_X9_sideOf_f27 (v := .ref zx) rfl dX9_sideOf_121 ?_
              refine lv_iload hx hb dX9_sideOf_124 (lv_at hl 0 rfl) ?_
              refine g_iald (i := 48 * l_ + k + 1) (v := (X (k + 1))) hx hb hK hP 1 rfl (by decide) (by omega) ((congrArg fx (show 48 * l_ + k + 1 = 48 * l_ + (k + 1) by omega)).trans (hX (k + 1) (by omega))) dX9_sideOf_126 ?_
              refine lv_aload_n hx hb dX9_sideOf_127 rfl (lv_at hl 4 rfl) ?_
              refine g_get (C := RX9) (T := TX9) (N := 36) F hK hP i_X9_sideOf_X9 0 rfl rfl 4 (by decide) k_X9_sideOf_f27 (v := .ref zx) rfl dX9_sideOf_128 ?_
              refine lv_iload hx hb dX9_sideOf_131 (lv_at hl 1 rfl) ?_
              refine g_iald (i := 48 * l_ + k) (v := (X k)) hx hb hK hP 1 rfl (by decide) (by omega) ((congrArg fx (show 48 * l_ + k = 48 * l_ + k by omega)).trans (hX k (by omega))) dX9_sideOf_133 ?_
              refine lv_isub hx hb dX9_sideOf_134 ?_
              refine lv_imul hx hb dX9_sideOf_135 ?_
              refine lv_aload_n hx hb dX9_sideOf_136 rfl (lv_at hl 4 rfl) ?_
              refine g_get (C := RX9) (T := TX9) (N := 36) F hK hP i_X9_sideOf_X9 0 rfl rfl 5 (by decide) k_X9_sideOf_f31 (v := .ref zy) rfl dX9_sideOf_137 ?_
              refine lv_iload hx hb dX9_sideOf_140 (lv_at hl 0 rfl) ?_
              refine g_iald (i := 48 * l_ + k + 1) (v := (Y (k + 1))) hx hb hK hP 2 rfl (by decide) (by omega) ((congrArg fy (show 48 * l_ + k + 1 = 48 * l_ + (k + 1) by omega)).trans (hY (k + 1) (by omega))) dX9_sideOf_142 ?_
              refine lv_aload_n hx hb dX9_sideOf_143 rfl (lv_at hl 4 rfl) ?_
              refine g_get (C := RX9) (T := TX9) (N := 36) F hK hP i_X9_sideOf_X9 0 rfl rfl 5 (by decide) k_X9_sideOf_f31 (v := .ref zy) rfl dX9_sideOf_144 ?_
              refine lv_iload hx hb dX9_sideOf_147 (lv_at hl 1 rfl) ?_
              refine g_iald (i := 48 * l_ + k) (v := (Y k)) hx hb hK hP 2 rfl (by decide) (by omega) ((congrArg fy (show 48 * l_ + k = 48 * l_ + k by omega)).trans (hY k (by omega))) dX9_sideOf_149 ?_
              refine lv_isub hx hb dX9_sideOf_150 ?_
              refine lv_iload_n hx hb dX9_sideOf_151 rfl (lv_at hl 6 rfl) ?_
              refine lv_aload_n hx hb dX9_sideOf_152 rfl (lv_at hl 4 rfl) ?_
              refine g_get (C := RX9) (T := TX9) (N := 36) F hK hP i_X9_sideOf_X9 0 rfl rfl 4 (by decide) k_X9_sideOf_f27 (v := .ref zx) rfl dX9_sideOf_153 ?_
              refine lv_iload hx hb dX9_sideOf_156 (lv_at hl 1 rfl) ?_
              refine g_iald (i := 48 * l_ + k) (v := (X k)) hx hb hK hP 1 rfl (by decide) (by omega) ((congrArg fx (show 48 * l_ + k = 48 * l_ + k by omega)).trans (hX k (by omega))) dX9_sideOf_158 ?_
              refine lv_isub hx hb dX9_sideOf_159 ?_
              refine lv_imul hx hb dX9_sideOf_160 ?_
              refine lv_iadd hx hb dX9_sideOf_161 ?_
              refine lv_istore (lv' := [(10, .int ((((Y k) - y) * ((X (k + 1)) - (X k))) + (((Y (k + 1)) - (Y k)) * (x - (X k))))), (9, .int (nI (48 * l_ + k + 1))), (8, .int (nI (48 * l_ + k))), (7, .int 0), (6, .int (nI (48 * l_ + k))), (0, .ref mo), (1, .int (nI l_)), (2, .int x), (3, .int y), (4, .int (nI cn)), (5, .int (nI k))]) hx hb dX9_sideOf_162 hl (by decide) rfl (fun ls hl => ?_)
              refine lv_iload hx hb dX9_sideOf_164 (lv_at hl 9 rfl) ?_
              refine lv_iload hx hb dX9_sideOf_166 (lv_at hl 0 rfl) ?_
              refine lv_if_le (tgt := 175) hx hb dX9_sideOf_168 (by decide) (fun c_168 => ?_) (fun c_168 => ?_)
              · refine lv_iconst (v := 0) hx hb dX9_sideOf_175 (by decide) ?_
                refine n_iadd (a := cn) (b := 0) (d := cn) hx hb dX9_sideOf_176 (by omega) ?_
                refine lv_istore (lv' := [(4, .int (nI cn)), (10, .int ((((Y k) - y) * ((X (k + 1)) - (X k))) + (((Y (k + 1)) - (Y k)) * (x - (X k))))), (9, .int (nI (48 * l_ + k + 1))), (8, .int (nI (48 * l_ + k))), (7, .int 0), (6, .int (nI (48 * l_ + k))), (0, .ref mo), (1, .int (nI l_)), (2, .int x), (3, .int y), (5, .int (nI k))]) hx hb dX9_sideOf_177 hl (by decide) rfl (fun ls hl => ?_)
                refine lv_iinc (v := (nI (k + 1))) (lv' := [(5, .int (nI (k + 1))), (4, .int (nI cn)), (10, .int ((((Y k) - y) * ((X (k + 1)) - (X k))) + (((Y (k + 1)) - (Y k)) * (x - (X k))))), (9, .int (nI (48 * l_ + k + 1))), (8, .int (nI (48 * l_ + k))), (7, .int 0), (6, .int (nI (48 * l_ + k))), (0, .ref mo), (1, .int (nI l_)), (2, .int x), (3, .int y)]) hx hb dX9_sideOf_179 hl (k := 10) rfl (g_inc k 1 (by decide)) (by decide) rfl (fun ls hl => ?_)
                refine lv_goto (tgt := 6) hx hb dX9_sideOf_182 (by decide) ?_
                exact ih_6 cn (k + 1) ls _ _ (by omega) (by omega) (by rw [hc]; exact (cntB_n (by rw [pab_f (Int32.not_lt.mpr c_44)]; intro z; have h := (abv_i ha1 ha2 hb1 hb2 hpx hpy).mp z; exact h.2 c_168)).symm) (lv_sub hl [7, 8, 9, 10, 1, 0] rfl) hP hD hS
              · refine lv_iconst (v := 1) hx hb dX9_sideOf_171 (by decide) ?_
                refine lv_goto (tgt := 176) hx hb dX9_sideOf_172 (by decide) ?_
                refine n_iadd (a := cn) (b := 1) (d := cn + 1) hx hb dX9_sideOf_176 (by omega) ?_
                refine lv_istore (lv' := [(4, .int (nI (cn + 1))), (10, .int ((((Y k) - y) * ((X (k + 1)) - (X k))) + (((Y (k + 1)) - (Y k)) * (x - (X k))))), (9, .int (nI (48 * l_ + k + 1))), (8, .int (nI (48 * l_ + k))), (7, .int 0), (6, .int (nI (48 * l_ + k))), (0, .ref mo), (1, .int (nI l_)), (2, .int x), (3, .int y), (5, .int (nI k))]) hx hb dX9_sideOf_177 hl (by decide) rfl (fun ls hl => ?_)
                refine lv_iinc (v := (nI (k + 1))) (lv' := [(5, .int (nI (k + 1))), (4, .int (nI (cn + 1))), (10, .int ((((Y k) - y) * ((X (k + 1)) - (X k))) + (((Y (k + 1)) - (Y k)) * (x - (X k))))), (9, .int (nI (48 * l_ + k + 1))), (8, .int (nI (48 * l_ + k))), (7, .int 0), (6, .int (nI (48 * l_ + k))), (0, .ref mo), (1, .int (nI l_)), (2, .int x), (3, .int y)]) hx hb dX9_sideOf_179 hl (k := 10) rfl (g_inc k 1 (by decide)) (by decide) rfl (fun ls hl => ?_)
                refine lv_goto (tgt := 6) hx hb dX9_sideOf_182 (by decide) ?_
                exact ih_6 (cn + 1) (k + 1) ls _ _ (by omega) (by omega) (by rw [hc]; exact (cntB_y (by rw [pab_f (Int32.not_lt.mpr c_44)]; exact (abv_i ha1 ha2 hb1 hb2 hpx hpy).mpr ⟨⟨c_94, c_105⟩, c_168⟩)).symm) (lv_sub hl [7, 8, 9, 10, 1, 0] rfl) hP hD hS
            · refine lv_goto (tgt := 179) hx hb dX9_sideOf_108 (by decide) ?_
              refine lv_iinc (v := (nI (k + 1))) (lv' := [(5, .int (nI (k + 1))), (9, .int (nI (48 * l_ + k + 1))), (8, .int (nI (48 * l_ + k))), (7, .int 0), (6, .int (nI (48 * l_ + k))), (0, .ref mo), (1, .int (nI l_)), (2, .int x), (3, .int y), (4, .int (nI cn))]) hx hb dX9_sideOf_179 hl (k := 9) rfl (g_inc k 1 (by decide)) (by decide) rfl (fun ls hl => ?_)
              refine lv_goto (tgt := 6) hx hb dX9_sideOf_182 (by decide) ?_
              exact ih_6 cn (k + 1) ls _ _ (by omega) (by omega) (by rw [hc]; exact (cntB_n (by rw [pab_f (Int32.not_lt.mpr c_44)]; intro z; have h := (abv_i ha1 ha2 hb1 hb2 hpx hpy).mp z; exact c_105 h.1.2)).symm) (lv_sub hl [5, 6, 7, 8, 9, 0] rfl) hP hD hS
        · refine lv_iconst (v := 1) hx hb dX9_sideOf_47 (by decide) ?_
          refine lv_goto (tgt := 52) hx hb dX9_sideOf_48 (by decide) ?_
          refine lv_istore (lv' := [(7, .int 1), (6, .int (nI (48 * l_ + k))), (0, .ref mo), (1, .int (nI l_)), (2, .int x), (3, .int y), (4, .int (nI cn)), (5, .int (nI k))]) hx hb dX9_sideOf_52 hl (by decide) rfl (fun ls hl => ?_)
          refine lv_iload hx hb dX9_sideOf_54 (lv_at hl 0 rfl) ?_
          refine lv_if_eq (tgt := 66) hx hb dX9_sideOf_56 (by decide) (fun h => absurd h (by decide)) (fun _ => ?_)
          refine lv_iload hx hb dX9_sideOf_59 (lv_at hl 1 rfl) ?_
          refine lv_iconst (v := 1) hx hb dX9_sideOf_61 (by decide) ?_
          refine n_iadd (a := 48 * l_ + k) (b := 1) (d := 48 * l_ + k + 1) hx hb dX9_sideOf_62 (by omega) ?_
          refine lv_goto (tgt := 68) hx hb dX9_sideOf_63 (by decide) ?_
          refine lv_istore (lv' := [(8, .int (nI (48 * l_ + k + 1))), (7, .int 1), (6, .int (nI (48 * l_ + k))), (0, .ref mo), (1, .int (nI l_)), (2, .int x), (3, .int y), (4, .int (nI cn)), (5, .int (nI k))]) hx hb dX9_sideOf_68 hl (by decide) rfl (fun ls hl => ?_)
          refine lv_iload hx hb dX9_sideOf_70 (lv_at hl 1 rfl) ?_
          refine lv_if_eq (tgt := 80) hx hb dX9_sideOf_72 (by decide) (fun h => absurd h (by decide)) (fun _ => ?_)
          refine lv_iload hx hb dX9_sideOf_75 (lv_at hl 2 rfl) ?_
          refine lv_goto (tgt := 84) hx hb dX9_sideOf_77 (by decide) ?_
          refine lv_istore (lv' := [(9, .int (nI (48 * l_ + k))), (8, .int (nI (48 * l_ + k + 1))), (7, .int 1), (6, .int (nI (48 * l_ + k))), (0, .ref mo), (1, .int (nI l_)), (2, .int x), (3, .int y), (4, .int (nI cn)), (5, .int (nI k))]) hx hb dX9_sideOf_84 hl (by decide) rfl (fun ls hl => ?_)
          refine lv_iload_n hx hb dX9_sideOf_86 rfl (lv_at hl 6 rfl) ?_
          refine lv_aload_n hx hb dX9_sideOf_87 rfl (lv_at hl 4 rfl) ?_
          refine g_get (C := RX9) (T := TX9) (N := 36) F hK hP i_X9_sideOf_X9 0 rfl rfl 4 (by decide) k_X9_sideOf_f27 (v := .ref zx) rfl dX9_sideOf_88 ?_
          refine lv_iload hx hb dX9_sideOf_91 (lv_at hl 1 rfl) ?_
          refine g_iald (i := 48 * l_ + k + 1) (v := (X (k + 1))) hx hb hK hP 1 rfl (by decide) (by omega) ((congrArg fx (show 48 * l_ + k + 1 = 48 * l_ + (k + 1) by omega)).trans (hX (k + 1) (by omega))) dX9_sideOf_93 ?_
          refine lv_icmp_lt (tgt := 179) hx hb dX9_sideOf_94 (by decide) (fun c_94 => ?_) (fun c_94 => ?_)
          · refine lv_iinc (v := (nI (k + 1))) (lv' := [(5, .int (nI (k + 1))), (9, .int (nI (48 * l_ + k))), (8, .int (nI (48 * l_ + k + 1))), (7, .int 1), (6, .int (nI (48 * l_ + k))), (0, .ref mo), (1, .int (nI l_)), (2, .int x), (3, .int y), (4, .int (nI cn))]) hx hb dX9_sideOf_179 hl (k := 9) rfl (g_inc k 1 (by decide)) (by decide) rfl (fun ls hl => ?_)
            refine lv_goto (tgt := 6) hx hb dX9_sideOf_182 (by decide) ?_
            exact ih_6 cn (k + 1) ls _ _ (by omega) (by omega) (by rw [hc]; exact (cntB_n (by rw [pab_t (Int32.not_le.mp c_44)]; intro z; have h := (abv_i hb1 hb2 ha1 ha2 hpx hpy).mp z; exact h.1.1 c_94)).symm) (lv_sub hl [5, 6, 7, 8, 9, 0] rfl) hP hD hS
          · refine lv_iload_n hx hb dX9_sideOf_97 rfl (lv_at hl 6 rfl) ?_
            refine lv_aload_n hx hb dX9_sideOf_98 rfl (lv_at hl 4 rfl) ?_
            refine g_get (C := RX9) (T := TX9) (N := 36) F hK hP i_X9_sideOf_X9 0 rfl rfl 4 (by decide) k_X9_sideOf_f27 (v := .ref zx) rfl dX9_sideOf_99 ?_
            refine lv_iload hx hb dX9_sideOf_102 (lv_at hl 0 rfl) ?_
            refine g_iald (i := 48 * l_ + k) (v := (X k)) hx hb hK hP 1 rfl (by decide) (by omega) ((congrArg fx (show 48 * l_ + k = 48 * l_ + k by omega)).trans (hX k (by omega))) dX9_sideOf_104 ?_
            refine lv_icmp_lt (tgt := 111) hx hb dX9_sideOf_105 (by decide) (fun c_105 => ?_) (fun c_105 => ?_)
            · refine lv_aload_n hx hb dX9_sideOf_111 rfl (lv_at hl 4 rfl) ?_
              refine g_get (C := RX9) (T := TX9) (N := 36) F hK hP i_X9_sideOf_X9 0 rfl rfl 5 (by decide) k_X9_sideOf_f31 (v := .ref zy) rfl dX9_sideOf_112 ?_
              refine lv_iload hx hb dX9_sideOf_115 (lv_at hl 1 rfl) ?_
              refine g_iald (i := 48 * l_ + k + 1) (v := (Y (k + 1))) hx hb hK hP 2 rfl (by decide) (by omega) ((congrArg fy (show 48 * l_ + k + 1 = 48 * l_ + (k + 1) by omega)).trans (hY (k + 1) (by omega))) dX9_sideOf_117 ?_
              refine lv_iload_n hx hb dX9_sideOf_118 rfl (lv_at hl 7 rfl) ?_
              refine lv_isub hx hb dX9_sideOf_119 ?_
              refine lv_aload_n hx hb dX9_sideOf_120 rfl (lv_at hl 4 rfl) ?_
              refine g_get (C := RX9) (T := TX9) (N := 36) F hK hP i_X9_sideOf_X9 0 rfl rfl 4 (by decide) k_X9_sideOf_f27 (v := .ref zx) rfl dX9_sideOf_121 ?_
              refine lv_iload hx hb dX9_sideOf_124 (lv_at hl 0 rfl) ?_
              refine g_iald (i := 48 * l_ + k) (v := (X k)) hx hb hK hP 1 rfl (by decide) (by omega) ((congrArg fx (show 48 * l_ + k = 48 * l_ + k by omega)).trans (hX k (by omega))) dX9_sideOf_126 ?_
              refine lv_aload_n hx hb dX9_sideOf_127 rfl (lv_at hl 4 rfl) ?_
              refine g_get (C := RX9) (T := TX9) (N := 36) F hK hP i_X9_sideOf_X9 0 rfl rfl 4 (by decide) k_X9_sideOf_f27 (v := .ref zx) rfl dX9_sideOf_128 ?_
              refine lv_iload hx hb dX9_sideOf_131 (lv_at hl 1 rfl) ?_
              refine g_iald (i := 48 * l_ + k + 1) (v := (X (k + 1))) hx hb hK hP 1 rfl (by decide) (by omega) ((congrArg fx (show 48 * l_ + k + 1 = 48 * l_ + (k + 1) by omega)).trans (hX (k + 1) (by omega))) dX9_sideOf_133 ?_
              refine lv_isub hx hb dX9_sideOf_134 ?_
              refine lv_imul hx hb dX9_sideOf_135 ?_
              refine lv_aload_n hx hb dX9_sideOf_136 rfl (lv_at hl 4 rfl) ?_
              refine g_get (C := RX9) (T := TX9) (N := 36) F hK hP i_X9_sideOf_X9 0 rfl rfl 5 (by decide) k_X9_sideOf_f31 (v := .ref zy) rfl dX9_sideOf_137 ?_
              refine lv_iload hx hb dX9_sideOf_140 (lv_at hl 0 rfl) ?_
              refine g_iald (i := 48 * l_ + k) (v := (Y k)) hx hb hK hP 2 rfl (by decide) (by omega) ((congrArg fy (show 48 * l_ + k = 48 * l_ + k by omega)).trans (hY k (by omega))) dX9_sideOf_142 ?_
              refine lv_aload_n hx hb dX9_sideOf_143 rfl (lv_at hl 4 rfl) ?_
              refine g_get (C := RX9) (T := TX9) (N := 36) F hK hP i_X9_sideOf_X9 0 rfl rfl 5 (by decide) k_X9_sideOf_f31 (v := .ref zy) rfl dX9_sideOf_144 ?_
              refine lv_iload hx hb dX9_sideOf_147 (lv_at hl 1 rfl) ?_
              refine g_iald (i := 48 * l_ + k + 1) (v := (Y (k + 1))) hx hb hK hP 2 rfl (by decide) (by omega) ((congrArg fy (show 48 * l_ + k + 1 = 48 * l_ + (k + 1) by omega)).trans (hY (k + 1) (by omega))) dX9_sideOf_149 ?_
              refine lv_isub hx hb dX9_sideOf_150 ?_
              refine lv_iload_n hx hb dX9_sideOf_151 rfl (lv_at hl 6 rfl) ?_
              refine lv_aload_n hx hb dX9_sideOf_152 rfl (lv_at hl 4 rfl) ?_
              refine g_get (C := RX9) (T := TX9) (N := 36) F hK hP i_X9_sideOf_X9 0 rfl rfl 4 (by decide) k_X9_sideOf_f27 (v := .ref zx) rfl dX9_sideOf_153 ?_
              refine lv_iload hx hb dX9_sideOf_156 (lv_at hl 1 rfl) ?_
              refine g_iald (i := 48 * l_ + k + 1) (v := (X (k + 1))) hx hb hK hP 1 rfl (by decide) (by omega) ((congrArg fx (show 48 * l_ + k + 1 = 48 * l_ + (k + 1) by omega)).trans (hX (k + 1) (by omega))) dX9_sideOf_158 ?_
              refine lv_isub hx hb dX9_sideOf_159 ?_
              refine lv_imul hx hb dX9_sideOf_160 ?_
              refine lv_iadd hx hb dX9_sideOf_161 ?_
              refine lv_istore (lv' := [(10, .int ((((Y (k + 1)) - y) * ((X k) - (X (k + 1)))) + (((Y k) - (Y (k + 1))) * (x - (X (k + 1)))))), (9, .int (nI (48 * l_ + k))), (8, .int (nI (48 * l_ + k + 1))), (7, .int 1), (6, .int (nI (48 * l_ + k))), (0, .ref mo), (1, .int (nI l_)), (2, .int x), (3, .int y), (4, .int (nI cn)), (5, .int (nI k))]) hx hb dX9_sideOf_162 hl (by decide) rfl (fun ls hl => ?_)
              refine lv_iload hx hb dX9_sideOf_164 (lv_at hl 9 rfl) ?_
              refine lv_iload hx hb dX9_sideOf_166 (lv_at hl 0 rfl) ?_
              refine lv_if_le (tgt := 175) hx hb dX9_sideOf_168 (by decide) (fun c_168 => ?_) (fun c_168 => ?_)
              · refine lv_iconst (v := 0) hx hb dX9_sideOf_175 (by decide) ?_
                refine n_iadd (a := cn) (b := 0) (d := cn) hx hb dX9_sideOf_176 (by omega) ?_
                refine lv_istore (lv' := [(4, .int (nI cn)), (10, .int ((((Y (k + 1)) - y) * ((X k) - (X (k + 1)))) + (((Y k) - (Y (k + 1))) * (x - (X (k + 1)))))), (9, .int (nI (48 * l_ + k))), (8, .int (nI (48 * l_ + k + 1))), (7, .int 1), (6, .int (nI (48 * l_ + k))), (0, .ref mo), (1, .int (nI l_)), (2, .int x), (3, .int y), (5, .int (nI k))]) hx hb dX9_sideOf_177 hl (by decide) rfl (fun ls hl => ?_)
                refine lv_iinc (v := (nI (k + 1))) (lv' := [(5, .int (nI (k + 1))), (4, .int (nI cn)), (10, .int ((((Y (k + 1)) - y) * ((X k) - (X (k + 1)))) + (((Y k) - (Y (k + 1))) * (x - (X (k + 1)))))), (9, .int (nI (48 * l_ + k))), (8, .int (nI (48 * l_ + k + 1))), (7, .int 1), (6, .int (nI (48 * l_ + k))), (0, .ref mo), (1, .int (nI l_)), (2, .int x), (3, .int y)]) hx hb dX9_sideOf_179 hl (k := 10) rfl (g_inc k 1 (by decide)) (by decide) rfl (fun ls hl => ?_)
                refine lv_goto (tgt := 6) hx hb dX9_sideOf_182 (by decide) ?_
                exact ih_6 cn (k + 1) ls _ _ (by omega) (by omega) (by rw [hc]; exact (cntB_n (by rw [pab_t (Int32.not_le.mp c_44)]; intro z; have h := (abv_i hb1 hb2 ha1 ha2 hpx hpy).mp z; exact h.2 c_168)).symm) (lv_sub hl [7, 8, 9, 10, 1, 0] rfl) hP hD hS
              · refine lv_iconst (v := 1) hx hb dX9_sideOf_171 (by decide) ?_
                refine lv_goto (tgt := 176) hx hb dX9_sideOf_172 (by decide) ?_
                refine n_iadd (a := cn) (b := 1) (d := cn + 1) hx hb dX9_sideOf_176 (by omega) ?_
                refine lv_istore (lv' := [(4, .int (nI (cn + 1))), (10, .int ((((Y (k + 1)) - y) * ((X k) - (X (k + 1)))) + (((Y k) - (Y (k + 1))) * (x - (X (k + 1)))))), (9, .int (nI (48 * l_ + k))), (8, .int (nI (48 * l_ + k + 1))), (7, .int 1), (6, .int (nI (48 * l_ + k))), (0, .ref mo), (1, .int (nI l_)), (2, .int x), (3, .int y), (5, .int (nI k))]) hx hb dX9_sideOf_177 hl (by decide) rfl (fun ls hl => ?_)
                refine lv_iinc (v := (nI (k + 1))) (lv' := [(5, .int (nI (k + 1))), (4, .int (nI (cn + 1))), (10, .int ((((Y (k + 1)) - y) * ((X k) - (X (k + 1)))) + (((Y k) - (Y (k + 1))) * (x - (X (k + 1)))))), (9, .int (nI (48 * l_ + k))), (8, .int (nI (48 * l_ + k + 1))), (7, .int 1), (6, .int (nI (48 * l_ + k))), (0, .ref mo), (1, .int (nI l_)), (2, .int x), (3, .int y)]) hx hb dX9_sideOf_179 hl (k := 10) rfl (g_inc k 1 (by decide)) (by decide) rfl (fun ls hl => ?_)
                refine lv_goto (tgt := 6) hx hb dX9_sideOf_182 (by decide) ?_
                exact ih_6 (cn + 1) (k + 1) ls _ _ (by omega) (by omega) (by rw [hc]; exact (cntB_y (by rw [pab_t (Int32.not_le.mp c_44)]; exact (abv_i hb1 hb2 ha1 ha2 hpx hpy).mpr ⟨⟨c_94, c_105⟩, c_168⟩)).symm) (lv_sub hl [7, 8, 9, 10, 1, 0] rfl) hP hD hS
            · refine lv_goto (tgt := 179) hx hb dX9_sideOf_108 (by decide) ?_
              refine lv_iinc (v := (nI (k + 1))) (lv' := [(5, .int (nI (k + 1))), (9, .int (nI (48 * l_ + k))), (8, .int (nI (48 * l_ + k + 1))), (7, .int 1), (6, .int (nI (48 * l_ + k))), (0, .ref mo), (1, .int (nI l_)), (2, .int x), (3, .int y), (4, .int (nI cn))]) hx hb dX9_sideOf_179 hl (k := 9) rfl (g_inc k 1 (by decide)) (by decide) rfl (fun ls hl => ?_)
              refine lv_goto (tgt := 6) hx hb dX9_sideOf_182 (by decide) ?_
              exact ih_6 cn (k + 1) ls _ _ (by omega) (by omega) (by rw [hc]; exact (cntB_n (by rw [pab_t (Int32.not_le.mp c_44)]; intro z; have h := (abv_i hb1 hb2 ha1 ha2 hpx hpy).mp z; exact c_105 h.1.2)).symm) (lv_sub hl [5, 6, 7, 8, 9, 0] rfl) hP hD hS
  exact L6 ((n - 0) + 1) 0 0 ls _ _ (Nat.lt_succ_self _) (by omega) (rfl) (lv_sub hl [2, 3, 4, 5, 1, 0] rfl) hP hD hS

abbrev rm_X9_side : Room := { frames := 2, cells := 0, slots := 0, locals := 43 }
theorem i_X9_side_X9 : ∀ w ∈ wsX90, w ∈ wsX9_side := by decide +kernel
theorem k_X9_side_f1 : Cond.fieldLink RX9 1 (TX9 0).1 (TX9 0).2.1 (TX9 0).2.2.1 ∈ wsX9_side := by decide +kernel
set_option maxHeartbeats 4000000 in
set_option maxRecDepth 100000 in
theorem c_X9_side_n (l : Launch) (g : gT) (mo : Nat) (th : Int32) (zt : Nat) (tn : Nat) (sz : Nat) (zx : Nat) (zy : Nat) (zm : Nat) (zb : Nat) (rt : Int32) (w0 : Int32) (w1 : Int32) (w2 : Int32) (lg : Int32) (nr : Int32) (yr : Nat) (va : Nat) (vb : Nat) (vc : Nat) (vd : Nat) (qa : Nat) (qb : Nat) (qc : Nat) (ln : Nat) (sa : Nat) (sb : Nat) (sc : Nat) (sd : Nat) (se : Nat) (pn : Nat) (ma : Nat) (mb : Nat) (mc : Nat) (rv : Nat) (mn : Nat) (tol : Int32) (rn : Nat) (x : Int32) (y : Int32) (h : ¬ hasSideP x y) : CtI l g yX9_side wsX9_side rm_X9_side [.ref mo, .int x, .int y] [gO mo 9 [.int th, .ref zt, .int (nI tn), .int (nI sz), .ref zx, .ref zy, .ref zm, .ref zb, .int rt, .int w0, .int w1, .int w2, .int lg, .int nr, .int (nI yr), .ref va, .ref vb, .ref vc, .ref vd, .ref qa, .ref qb, .ref qc, .int (nI ln), .ref sa, .ref sb, .ref sc, .ref sd, .ref se, .int (nI pn), .ref ma, .ref mb, .ref mc, .ref rv, .int (nI mn), .int tol, .int (nI rn)]] (fun (r : Int32) (_ : Unit) => r = -1) (fun (_ : Unit) => [gO mo 9 [.int 0, .ref zt, .int (nI tn), .int (nI sz), .ref zx, .ref zy, .ref zm, .ref zb, .int rt, .int w0, .int w1, .int w2, .int lg, .int nr, .int (nI yr), .ref va, .ref vb, .ref vc, .ref vd, .ref qa, .ref qb, .ref qc, .int (nI ln), .ref sa, .ref sb, .ref sc, .ref sd, .ref se, .int (nI pn), .ref ma, .ref mb, .ref mc, .ref rv, .int (nI mn), .int tol, .int (nI rn)]]) := by
  refine CtI.of (cc := cX9_side) (maxL := 3) (ret := .int) (by decide) rfl (Nat.le_of_ble_eq_true rfl) ?_
  intro p e s m args below meth c A Q hnm F hK hA hP hD hS hret ls hl
  have hx := F.1
  have hb := F.2.1
  have hl : lv_has ls 3 [(0, .ref mo), (1, .int x), (2, .int y)] := hl
  refine lv_aload_n hx hb dX9_side_0 rfl (lv_at hl 0 rfl) ?_
  refine lv_iconst (v := 0) hx hb dX9_side_1 (by decide) ?_
  refine g_put (C := RX9) (T := TX9) (N := 36) (ws2 := [gO mo 9 [.int 0, .ref zt, .int (nI tn), .int (nI sz), .ref zx, .ref zy, .ref zm, .ref zb, .int rt, .int w0, .int w1, .int w2, .int lg, .int nr, .int (nI yr), .ref va, .ref vb, .ref vc, .ref vd, .ref qa, .ref qb, .ref qc, .int (nI ln), .ref sa, .ref sb, .ref sc, .ref sd, .ref se, .int (nI pn), .ref ma, .ref mb, .ref mc, .ref rv, .int (nI mn), .int tol, .int (nI rn)]]) F hK hP hD hS i_X9_side_X9 tyX9 tyX9_ok nmX9 0 rfl rfl 0 (by decide) k_X9_side_f1 rfl (v := .int 0) rfl rfl (Nat.le_of_ble_eq_true rfl) rfl dX9_side_2 (fun H locs hP hD hS => ?_)
  refine lv_iload_n hx hb dX9_side_5 rfl (lv_at hl 1 rfl) ?_
  refine lv_iload_n hx hb dX9_side_6 rfl (lv_at hl 2 rfl) ?_
  refine g_SI (wr := [gO mo 9 [.int 0, .ref zt, .int (nI tn), .int (nI sz), .ref zx, .ref zy, .ref zm, .ref zb, .int rt, .int w0, .int w1, .int w2, .int lg, .int nr, .int (nI yr), .ref va, .ref vb, .ref vc, .ref vd, .ref qa, .ref qb, .ref qc, .int (nI ln), .ref sa, .ref sb, .ref sc, .ref sd, .ref se, .int (nI pn), .ref ma, .ref mb, .ref mc, .ref rv, .int (nI mn), .int tol, .int (nI rn)]]) (As := [.int x, .int y]) (rest := []) (n := 2) F (c_X9_isPlace l g x y) gX9_side_X9_isPlace rfl (by decide) ⟨by decide, by decide⟩ rfl hl.1 rfl (Nat.le_of_ble_eq_true rfl) dX9_side_7 ⟨Nat.le_of_ble_eq_true rfl, Nat.le_of_ble_eq_true rfl⟩ hK hP hD hS hA [] [0] (by decide) rfl rfl (by decide) (by decide) (fun r_7 u_7 H locs hw_7 hP hD hS => ?_)
  have hP : gP g [gO mo 9 [.int 0, .ref zt, .int (nI tn), .int (nI sz), .ref zx, .ref zy, .ref zm, .ref zb, .int rt, .int w0, .int w1, .int w2, .int lg, .int nr, .int (nI yr), .ref va, .ref vb, .ref vc, .ref vd, .ref qa, .ref qb, .ref qc, .int (nI ln), .ref sa, .ref sb, .ref sc, .ref sd, .ref se, .int (nI pn), .ref ma, .ref mb, .ref mc, .ref rv, .int (nI mn), .int tol, .int (nI rn)]] H := hP
  have hD : va_D A [gO mo 9 [.int 0, .ref zt, .int (nI tn), .int (nI sz), .ref zx, .ref zy, .ref zm, .ref zb, .int rt, .int w0, .int w1, .int w2, .int lg, .int nr, .int (nI yr), .ref va, .ref vb, .ref vc, .ref vd, .ref qa, .ref qb, .ref qc, .int (nI ln), .ref sa, .ref sb, .ref sc, .ref sd, .ref se, .int (nI pn), .ref ma, .ref mb, .ref mc, .ref rv, .int (nI mn), .int tol, .int (nI rn)]] := hD
  rcases hw_7 with ⟨rfl, b_7⟩ | ⟨rfl, b_7⟩
  · exact absurd b_7 h
  · refine lv_if_eq (tgt := 23) hx hb dX9_side_10 (by decide) (fun _ => ?_) (fun h => absurd (by decide) h)
    refine lv_iconst (v := (-1)) hx hb dX9_side_23 (by decide) ?_
    exact hret _ _ _ _ (-1) () dX9_side_24 rfl (rfl) hP hD hS

set_option maxHeartbeats 4000000 in
set_option maxRecDepth 100000 in
theorem c_X9_side_y (l : Launch) (g : gT) (mo : Nat) (th : Int32) (zt : Nat) (tn : Nat) (sz : Nat) (zx : Nat) (zy : Nat) (zm : Nat) (zb : Nat) (rt : Int32) (w0 : Int32) (w1 : Int32) (w2 : Int32) (lg : Int32) (nr : Int32) (yr : Nat) (va : Nat) (vb : Nat) (vc : Nat) (vd : Nat) (qa : Nat) (qb : Nat) (qc : Nat) (ln : Nat) (sa : Nat) (sb : Nat) (sc : Nat) (sd : Nat) (se : Nat) (pn : Nat) (ma : Nat) (mb : Nat) (mc : Nat) (rv : Nat) (mn : Nat) (tol : Int32) (rn : Nat) (n : Nat) (fm : Nat → Int32) (fx : Nat → Int32) (fy : Nat → Int32) (X : Nat → Int32) (Y : Nat → Int32) (x : Int32) (y : Int32) (hm0 : fm 0 = nI n) (hn : n ≤ 48) (hX0 : ∀ k, k < n → fx (48 * 0 + k) = X k) (hY0 : ∀ k, k < n → fy (48 * 0 + k) = Y k) (hok : okL (n, X, Y)) (h : hasSideP x y) : CtI l g yX9_side wsX9_side rm_X9_side [.ref mo, .int x, .int y] [gO mo 9 [.int th, .ref zt, .int (nI tn), .int (nI sz), .ref zx, .ref zy, .ref zm, .ref zb, .int rt, .int w0, .int w1, .int w2, .int lg, .int nr, .int (nI yr), .ref va, .ref vb, .ref vc, .ref vd, .ref qa, .ref qb, .ref qc, .int (nI ln), .ref sa, .ref sb, .ref sc, .ref sd, .ref se, .int (nI pn), .ref ma, .ref mb, .ref mc, .ref rv, .int (nI mn), .int tol, .int (nI rn)], gI g zx 144 fx, gI g zy 144 fy, gI g zm 3 fm] (fun (r : Int32) (_ : Unit) => r = nI (sideS X Y n x y)) (fun (_ : Unit) => [gO mo 9 [.int 0, .ref zt, .int (nI tn), .int (nI sz), .ref zx, .ref zy, .ref zm, .ref zb, .int rt, .int w0, .int w1, .int w2, .int lg, .int nr, .int (nI yr), .ref va, .ref vb, .ref vc, .ref vd, .ref qa, .ref qb, .ref qc, .int (nI ln), .ref sa, .ref sb, .ref sc, .ref sd, .ref se, .int (nI pn), .ref ma, .ref mb, .ref mc, .ref rv, .int (nI mn), .int tol, .int (nI rn)], gI g zx 144 fx, gI g zy 144 fy, gI g zm 3 fm]) := by
  refine CtI.of (cc := cX9_side) (maxL := 3) (ret := .int) (by decide) rfl (Nat.le_of_ble_eq_true rfl) ?_
  intro p e s m args below meth c A Q hnm F hK hA hP hD hS hret ls hl
  have hx := F.1
  have hb := F.2.1
  have hl : lv_has ls 3 [(0, .ref mo), (1, .int x), (2, .int y)] := hl
  have h1n : 1 ≤ n := by have := hok.1; have h : 4 ≤ n := this; omega
  refine lv_aload_n hx hb dX9_side_0 rfl (lv_at hl 0 rfl) ?_
  refine lv_iconst (v := 0) hx hb dX9_side_1 (by decide) ?_
  refine g_put (C := RX9) (T := TX9) (N := 36) (ws2 := [gO mo 9 [.int 0, .ref zt, .int (nI tn), .int (nI sz), .ref zx, .ref zy, .ref zm, .ref zb, .int rt, .int w0, .int w1, .int w2, .int lg, .int nr, .int (nI yr), .ref va, .ref vb, .ref vc, .ref vd, .ref qa, .ref qb, .ref qc, .int (nI ln), .ref sa, .ref sb, .ref sc, .ref sd, .ref se, .int (nI pn), .ref ma, .ref mb, .ref mc, .ref rv, .int (nI mn), .int tol, .int (nI rn)], gI g zx 144 fx, gI g zy 144 fy, gI g zm 3 fm]) F hK hP hD hS i_X9_side_X9 tyX9 tyX9_ok nmX9 0 rfl rfl 0 (by decide) k_X9_side_f1 rfl (v := .int 0) rfl rfl (Nat.le_of_ble_eq_true rfl) rfl dX9_side_2 (fun H locs hP hD hS => ?_)
  refine lv_iload_n hx hb dX9_side_5 rfl (lv_at hl 1 rfl) ?_
  refine lv_iload_n hx hb dX9_side_6 rfl (lv_at hl 2 rfl) ?_
  refine g_SI (wr := [gO mo 9 [.int 0, .ref zt, .int (nI tn), .int (nI sz), .ref zx, .ref zy, .ref zm, .ref zb, .int rt, .int w0, .int w1, .int w2, .int lg, .int nr, .int (nI yr), .ref va, .ref vb, .ref vc, .ref vd, .ref qa, .ref qb, .ref qc, .int (nI ln), .ref sa, .ref sb, .ref sc, .ref sd, .ref se, .int (nI pn), .ref ma, .ref mb, .ref mc, .ref rv, .int (nI mn), .int tol, .int (nI rn)], gI g zx 144 fx, gI g zy 144 fy, gI g zm 3 fm]) (As := [.int x, .int y]) (rest := []) (n := 2) F (c_X9_isPlace l g x y) gX9_side_X9_isPlace rfl (by decide) ⟨by decide, by decide⟩ rfl hl.1 rfl (Nat.le_of_ble_eq_true rfl) dX9_side_7 ⟨Nat.le_of_ble_eq_true rfl, Nat.le_of_ble_eq_true rfl⟩ hK hP hD hS hA [] [0, 1, 2, 3] (by decide) rfl rfl (by decide) (by decide) (fun r_7 u_7 H locs hw_7 hP hD hS => ?_)
  have hP : gP g [gO mo 9 [.int 0, .ref zt, .int (nI tn), .int (nI sz), .ref zx, .ref zy, .ref zm, .ref zb, .int rt, .int w0, .int w1, .int w2, .int lg, .int nr, .int (nI yr), .ref va, .ref vb, .ref vc, .ref vd, .ref qa, .ref qb, .ref qc, .int (nI ln), .ref sa, .ref sb, .ref sc, .ref sd, .ref se, .int (nI pn), .ref ma, .ref mb, .ref mc, .ref rv, .int (nI mn), .int tol, .int (nI rn)], gI g zx 144 fx, gI g zy 144 fy, gI g zm 3 fm] H := hP
  have hD : va_D A [gO mo 9 [.int 0, .ref zt, .int (nI tn), .int (nI sz), .ref zx, .ref zy, .ref zm, .ref zb, .int rt, .int w0, .int w1, .int w2, .int lg, .int nr, .int (nI yr), .ref va, .ref vb, .ref vc, .ref vd, .ref qa, .ref qb, .ref qc, .int (nI ln), .ref sa, .ref sb, .ref sc, .ref sd, .ref se, .int (nI pn), .ref ma, .ref mb, .ref mc, .ref rv, .int (nI mn), .int tol, .int (nI rn)], gI g zx 144 fx, gI g zy 144 fy, gI g zm 3 fm] := hD
  rcases hw_7 with ⟨rfl, b_7⟩ | ⟨rfl, b_7⟩
  · refine lv_if_eq (tgt := 23) hx hb dX9_side_10 (by decide) (fun h => absurd h (by decide)) (fun _ => ?_)
    refine lv_aload_n hx hb dX9_side_13 rfl (lv_at hl 0 rfl) ?_
    refine lv_iconst (v := 0) hx hb dX9_side_14 (by decide) ?_
    refine lv_iload_n hx hb dX9_side_15 rfl (lv_at hl 1 rfl) ?_
    refine lv_iload_n hx hb dX9_side_16 rfl (lv_at hl 2 rfl) ?_
    refine g_VI (wr := []) (As := [.int 0, .int x, .int y]) (rest := []) (n := 3) F (c_X9_sideOf l g mo 0 zt tn sz zx zy zm zb rt w0 w1 w2 lg nr yr va vb vc vd qa qb qc ln sa sb sc sd se pn ma mb mc rv mn tol rn 0 n fm fx fy X Y x y (by decide) (hm0) (hn) (hX0) (hY0) (h1n) (hok.2.2) ((side_p h).1) ((side_p h).2)) gX9_side_X9_sideOf rfl (by decide) ⟨by decide, by decide⟩ 0 9 rfl rfl rfl rfl hl.1 rfl (Nat.le_of_ble_eq_true rfl) dX9_side_17 ⟨Nat.le_of_ble_eq_true rfl, Nat.le_of_ble_eq_true rfl⟩ hK hP hD hS hA [0, 1, 2, 3] [] (by decide) rfl rfl (by decide) (by decide) (fun r_17 u_17 H locs hw_17 hP hD hS => ?_)
    have hP : gP g [gO mo 9 [.int 0, .ref zt, .int (nI tn), .int (nI sz), .ref zx, .ref zy, .ref zm, .ref zb, .int rt, .int w0, .int w1, .int w2, .int lg, .int nr, .int (nI yr), .ref va, .ref vb, .ref vc, .ref vd, .ref qa, .ref qb, .ref qc, .int (nI ln), .ref sa, .ref sb, .ref sc, .ref sd, .ref se, .int (nI pn), .ref ma, .ref mb, .ref mc, .ref rv, .int (nI mn), .int tol, .int (nI rn)], gI g zx 144 fx, gI g zy 144 fy, gI g zm 3 fm] H := hP
    have hD : va_D A [gO mo 9 [.int 0, .ref zt, .int (nI tn), .int (nI sz), .ref zx, .ref zy, .ref zm, .ref zb, .int rt, .int w0, .int w1, .int w2, .int lg, .int nr, .int (nI yr), .ref va, .ref vb, .ref vc, .ref vd, .ref qa, .ref qb, .ref qc, .int (nI ln), .ref sa, .ref sb, .ref sc, .ref sd, .ref se, .int (nI pn), .ref ma, .ref mb, .ref mc, .ref rv, .int (nI mn), .int tol, .int (nI rn)], gI g zx 144 fx, gI g zy 144 fy, gI g zm 3 fm] := hD
    obtain rfl := hw_17
    refine lv_goto (tgt := 24) hx hb dX9_side_20 (by decide) ?_
    exact hret _ _ _ _ (nI (sideS X Y n x y)) () dX9_side_24 rfl (rfl) hP hD hS
  · exact absurd h b_7

abbrev rm_X9_plot : Room := { frames := 2, cells := 0, slots := 0, locals := 43 }
theorem i_X9_plot_X9 : ∀ w ∈ wsX90, w ∈ wsX9_plot := by decide +kernel
theorem k_X9_plot_f1 : Cond.fieldLink RX9 1 (TX9 0).1 (TX9 0).2.1 (TX9 0).2.2.1 ∈ wsX9_plot := by decide +kernel
theorem k_X9_plot_f126 : Cond.fieldLink RX9 126 (TX9 28).1 (TX9 28).2.1 (TX9 28).2.2.1 ∈ wsX9_plot := by decide +kernel
set_option maxHeartbeats 4000000 in
set_option maxRecDepth 100000 in
theorem c_X9_plot_n (l : Launch) (g : gT) (mo : Nat) (th : Int32) (zt : Nat) (tn : Nat) (sz : Nat) (zx : Nat) (zy : Nat) (zm : Nat) (zb : Nat) (rt : Int32) (w0 : Int32) (w1 : Int32) (w2 : Int32) (lg : Int32) (nr : Int32) (yr : Nat) (va : Nat) (vb : Nat) (vc : Nat) (vd : Nat) (qa : Nat) (qb : Nat) (qc : Nat) (ln : Nat) (sa : Nat) (sb : Nat) (sc : Nat) (sd : Nat) (se : Nat) (pn : Nat) (ma : Nat) (mb : Nat) (mc : Nat) (rv : Nat) (mn : Nat) (tol : Int32) (rn : Nat) (x : Int32) (y : Int32) (hpn : pn ≤ 20) (h : ¬ hasSideP x y) : CtI l g yX9_plot wsX9_plot rm_X9_plot [.ref mo, .int x, .int y] [gO mo 9 [.int th, .ref zt, .int (nI tn), .int (nI sz), .ref zx, .ref zy, .ref zm, .ref zb, .int rt, .int w0, .int w1, .int w2, .int lg, .int nr, .int (nI yr), .ref va, .ref vb, .ref vc, .ref vd, .ref qa, .ref qb, .ref qc, .int (nI ln), .ref sa, .ref sb, .ref sc, .ref sd, .ref se, .int (nI pn), .ref ma, .ref mb, .ref mc, .ref rv, .int (nI mn), .int tol, .int (nI rn)]] (fun (r : Int32) (_ : Unit) => r = -1) (fun (_ : Unit) => [gO mo 9 [.int 0, .ref zt, .int (nI tn), .int (nI sz), .ref zx, .ref zy, .ref zm, .ref zb, .int rt, .int w0, .int w1, .int w2, .int lg, .int nr, .int (nI yr), .ref va, .ref vb, .ref vc, .ref vd, .ref qa, .ref qb, .ref qc, .int (nI ln), .ref sa, .ref sb, .ref sc, .ref sd, .ref se, .int (nI pn), .ref ma, .ref mb, .ref mc, .ref rv, .int (nI mn), .int tol, .int (nI rn)]]) := by
  refine CtI.of (cc := cX9_plot) (maxL := 3) (ret := .int) (by decide) rfl (Nat.le_of_ble_eq_true rfl) ?_
  intro p e s m args below meth c A Q hnm F hK hA hP hD hS hret ls hl
  have hx := F.1
  have hb := F.2.1
  have hl : lv_has ls 3 [(0, .ref mo), (1, .int x), (2, .int y)] := hl
  refine lv_aload_n hx hb dX9_plot_0 rfl (lv_at hl 0 rfl) ?_
  refine lv_iconst (v := 0) hx hb dX9_plot_1 (by decide) ?_
  refine g_put (C := RX9) (T := TX9) (N := 36) (ws2 := [gO mo 9 [.int 0, .ref zt, .int (nI tn), .int (nI sz), .ref zx, .ref zy, .ref zm, .ref zb, .int rt, .int w0, .int w1, .int w2, .int lg, .int nr, .int (nI yr), .ref va, .ref vb, .ref vc, .ref vd, .ref qa, .ref qb, .ref qc, .int (nI ln), .ref sa, .ref sb, .ref sc, .ref sd, .ref se, .int (nI pn), .ref ma, .ref mb, .ref mc, .ref rv, .int (nI mn), .int tol, .int (nI rn)]]) F hK hP hD hS i_X9_plot_X9 tyX9 tyX9_ok nmX9 0 rfl rfl 0 (by decide) k_X9_plot_f1 rfl (v := .int 0) rfl rfl (Nat.le_of_ble_eq_true rfl) rfl dX9_plot_2 (fun H locs hP hD hS => ?_)
  refine lv_aload_n hx hb dX9_plot_5 rfl (lv_at hl 0 rfl) ?_
  refine g_get (C := RX9) (T := TX9) (N := 36) F hK hP i_X9_plot_X9 0 rfl rfl 28 (by decide) k_X9_plot_f126 (v := .int (nI pn)) rfl dX9_plot_6 ?_
  refine lv_bipush (v := 20) hx hb dX9_plot_9 (by decide) ?_
  refine n_icmp_eq (a := pn) (b := 20) (tgt := 22) hx hb dX9_plot_11 (by decide) (by omega) (by omega) (fun c_11 => ?_) (fun c_11 => ?_)
  · refine lv_iconst (v := (-1)) hx hb dX9_plot_22 (by decide) ?_
    exact hret _ _ _ _ (-1) () dX9_plot_23 rfl (rfl) hP hD hS
  · refine lv_iload_n hx hb dX9_plot_14 rfl (lv_at hl 1 rfl) ?_
    refine lv_iload_n hx hb dX9_plot_15 rfl (lv_at hl 2 rfl) ?_
    refine g_SI (wr := [gO mo 9 [.int 0, .ref zt, .int (nI tn), .int (nI sz), .ref zx, .ref zy, .ref zm, .ref zb, .int rt, .int w0, .int w1, .int w2, .int lg, .int nr, .int (nI yr), .ref va, .ref vb, .ref vc, .ref vd, .ref qa, .ref qb, .ref qc, .int (nI ln), .ref sa, .ref sb, .ref sc, .ref sd, .ref se, .int (nI pn), .ref ma, .ref mb, .ref mc, .ref rv, .int (nI mn), .int tol, .int (nI rn)]]) (As := [.int x, .int y]) (rest := []) (n := 2) F (c_X9_isPlace l g x y) gX9_plot_X9_isPlace rfl (by decide) ⟨by decide, by decide⟩ rfl hl.1 rfl (Nat.le_of_ble_eq_true rfl) dX9_plot_16 ⟨Nat.le_of_ble_eq_true rfl, Nat.le_of_ble_eq_true rfl⟩ hK hP hD hS hA [] [0] (by decide) rfl rfl (by decide) (by decide) (fun r_16 u_16 H locs hw_16 hP hD hS => ?_)
    have hP : gP g [gO mo 9 [.int 0, .ref zt, .int (nI tn), .int (nI sz), .ref zx, .ref zy, .ref zm, .ref zb, .int rt, .int w0, .int w1, .int w2, .int lg, .int nr, .int (nI yr), .ref va, .ref vb, .ref vc, .ref vd, .ref qa, .ref qb, .ref qc, .int (nI ln), .ref sa, .ref sb, .ref sc, .ref sd, .ref se, .int (nI pn), .ref ma, .ref mb, .ref mc, .ref rv, .int (nI mn), .int tol, .int (nI rn)]] H := hP
    have hD : va_D A [gO mo 9 [.int 0, .ref zt, .int (nI tn), .int (nI sz), .ref zx, .ref zy, .ref zm, .ref zb, .int rt, .int w0, .int w1, .int w2, .int lg, .int nr, .int (nI yr), .ref va, .ref vb, .ref vc, .ref vd, .ref qa, .ref qb, .ref qc, .int (nI ln), .ref sa, .ref sb, .ref sc, .ref sd, .ref se, .int (nI pn), .ref ma, .ref mb, .ref mc, .ref rv, .int (nI mn), .int tol, .int (nI rn)]] := hD
    rcases hw_16 with ⟨rfl, b_16⟩ | ⟨rfl, b_16⟩
    · exact absurd b_16 h
    · refine lv_if_ne (tgt := 24) hx hb dX9_plot_19 (by decide) (fun h => absurd (by decide) h) (fun _ => ?_)
      refine lv_iconst (v := (-1)) hx hb dX9_plot_22 (by decide) ?_
      exact hret _ _ _ _ (-1) () dX9_plot_23 rfl (rfl) hP hD hS

set_option maxHeartbeats 4000000 in
set_option maxRecDepth 100000 in
theorem c_X9_plot_f (l : Launch) (g : gT) (mo : Nat) (th : Int32) (zt : Nat) (tn : Nat) (sz : Nat) (zx : Nat) (zy : Nat) (zm : Nat) (zb : Nat) (rt : Int32) (w0 : Int32) (w1 : Int32) (w2 : Int32) (lg : Int32) (nr : Int32) (yr : Nat) (va : Nat) (vb : Nat) (vc : Nat) (vd : Nat) (qa : Nat) (qb : Nat) (qc : Nat) (ln : Nat) (sa : Nat) (sb : Nat) (sc : Nat) (sd : Nat) (se : Nat) (pn : Nat) (ma : Nat) (mb : Nat) (mc : Nat) (rv : Nat) (mn : Nat) (tol : Int32) (rn : Nat) (x : Int32) (y : Int32) (hpn : pn = 20) : CtI l g yX9_plot wsX9_plot rm_X9_plot [.ref mo, .int x, .int y] [gO mo 9 [.int th, .ref zt, .int (nI tn), .int (nI sz), .ref zx, .ref zy, .ref zm, .ref zb, .int rt, .int w0, .int w1, .int w2, .int lg, .int nr, .int (nI yr), .ref va, .ref vb, .ref vc, .ref vd, .ref qa, .ref qb, .ref qc, .int (nI ln), .ref sa, .ref sb, .ref sc, .ref sd, .ref se, .int (nI pn), .ref ma, .ref mb, .ref mc, .ref rv, .int (nI mn), .int tol, .int (nI rn)]] (fun (r : Int32) (_ : Unit) => r = -1) (fun (_ : Unit) => [gO mo 9 [.int 0, .ref zt, .int (nI tn), .int (nI sz), .ref zx, .ref zy, .ref zm, .ref zb, .int rt, .int w0, .int w1, .int w2, .int lg, .int nr, .int (nI yr), .ref va, .ref vb, .ref vc, .ref vd, .ref qa, .ref qb, .ref qc, .int (nI ln), .ref sa, .ref sb, .ref sc, .ref sd, .ref se, .int (nI pn), .ref ma, .ref mb, .ref mc, .ref rv, .int (nI mn), .int tol, .int (nI rn)]]) := by
  refine CtI.of (cc := cX9_plot) (maxL := 3) (ret := .int) (by decide) rfl (Nat.le_of_ble_eq_true rfl) ?_
  intro p e s m args below meth c A Q hnm F hK hA hP hD hS hret ls hl
  have hx := F.1
  have hb := F.2.1
  have hl : lv_has ls 3 [(0, .ref mo), (1, .int x), (2, .int y)] := hl
  refine lv_aload_n hx hb dX9_plot_0 rfl (lv_at hl 0 rfl) ?_
  refine lv_iconst (v := 0) hx hb dX9_plot_1 (by decide) ?_
  refine g_put (C := RX9) (T := TX9) (N := 36) (ws2 := [gO mo 9 [.int 0, .ref zt, .int (nI tn), .int (nI sz), .ref zx, .ref zy, .ref zm, .ref zb, .int rt, .int w0, .int w1, .int w2, .int lg, .int nr, .int (nI yr), .ref va, .ref vb, .ref vc, .ref vd, .ref qa, .ref qb, .ref qc, .int (nI ln), .ref sa, .ref sb, .ref sc, .ref sd, .ref se, .int (nI pn), .ref ma, .ref mb, .ref mc, .ref rv, .int (nI mn), .int tol, .int (nI rn)]]) F hK hP hD hS i_X9_plot_X9 tyX9 tyX9_ok nmX9 0 rfl rfl 0 (by decide) k_X9_plot_f1 rfl (v := .int 0) rfl rfl (Nat.le_of_ble_eq_true rfl) rfl dX9_plot_2 (fun H locs hP hD hS => ?_)
  refine lv_aload_n hx hb dX9_plot_5 rfl (lv_at hl 0 rfl) ?_
  refine g_get (C := RX9) (T := TX9) (N := 36) F hK hP i_X9_plot_X9 0 rfl rfl 28 (by decide) k_X9_plot_f126 (v := .int (nI pn)) rfl dX9_plot_6 ?_
  refine lv_bipush (v := 20) hx hb dX9_plot_9 (by decide) ?_
  refine n_icmp_eq (a := pn) (b := 20) (tgt := 22) hx hb dX9_plot_11 (by decide) (by omega) (by omega) (fun c_11 => ?_) (fun h => absurd hpn h)
  refine lv_iconst (v := (-1)) hx hb dX9_plot_22 (by decide) ?_
  exact hret _ _ _ _ (-1) () dX9_plot_23 rfl (rfl) hP hD hS

theorem k_X9_plot_f79 : Cond.fieldLink RX9 79 (TX9 23).1 (TX9 23).2.1 (TX9 23).2.2.1 ∈ wsX9_plot := by decide +kernel
theorem k_X9_plot_f82 : Cond.fieldLink RX9 82 (TX9 24).1 (TX9 24).2.1 (TX9 24).2.2.1 ∈ wsX9_plot := by decide +kernel
theorem k_X9_plot_f85 : Cond.fieldLink RX9 85 (TX9 25).1 (TX9 25).2.1 (TX9 25).2.2.1 ∈ wsX9_plot := by decide +kernel
theorem k_X9_plot_f88 : Cond.fieldLink RX9 88 (TX9 26).1 (TX9 26).2.1 (TX9 26).2.2.1 ∈ wsX9_plot := by decide +kernel
set_option maxHeartbeats 4000000 in
set_option maxRecDepth 100000 in
theorem c_X9_plot_y (l : Launch) (g : gT) (mo : Nat) (th : Int32) (zt : Nat) (tn : Nat) (sz : Nat) (zx : Nat) (zy : Nat) (zm : Nat) (zb : Nat) (rt : Int32) (w0 : Int32) (w1 : Int32) (w2 : Int32) (lg : Int32) (nr : Int32) (yr : Nat) (va : Nat) (vb : Nat) (vc : Nat) (vd : Nat) (qa : Nat) (qb : Nat) (qc : Nat) (ln : Nat) (sa : Nat) (sb : Nat) (sc : Nat) (sd : Nat) (se : Nat) (pn : Nat) (ma : Nat) (mb : Nat) (mc : Nat) (rv : Nat) (mn : Nat) (tol : Int32) (rn : Nat) (n : Nat) (fm : Nat → Int32) (fx : Nat → Int32) (fy : Nat → Int32) (X : Nat → Int32) (Y : Nat → Int32) (d1 : Nat → Int32) (d2 : Nat → Int32) (d3 : Nat → Int32) (d4 : Nat → Int32) (d5 : Nat → Int32) (x : Int32) (y : Int32) (hm0 : fm 0 = nI n) (hn : n ≤ 48) (hX0 : ∀ k, k < n → fx (48 * 0 + k) = X k) (hY0 : ∀ k, k < n → fy (48 * 0 + k) = Y k) (hok : okL (n, X, Y)) (hpn : pn < 20) (h : hasSideP x y) : CtI l g yX9_plot wsX9_plot rm_X9_plot [.ref mo, .int x, .int y] [gO mo 9 [.int th, .ref zt, .int (nI tn), .int (nI sz), .ref zx, .ref zy, .ref zm, .ref zb, .int rt, .int w0, .int w1, .int w2, .int lg, .int nr, .int (nI yr), .ref va, .ref vb, .ref vc, .ref vd, .ref qa, .ref qb, .ref qc, .int (nI ln), .ref sa, .ref sb, .ref sc, .ref sd, .ref se, .int (nI pn), .ref ma, .ref mb, .ref mc, .ref rv, .int (nI mn), .int tol, .int (nI rn)], gI g zx 144 fx, gI g zy 144 fy, gI g zm 3 fm, gI g sa 20 d1, gI g sb 20 d2, gI g sc 20 d3, gI g sd 20 d4, gI g se 20 d5] (fun (r : Int32) (_ : Unit) => r = nI pn) (fun (_ : Unit) => [gO mo 9 [.int 0, .ref zt, .int (nI tn), .int (nI sz), .ref zx, .ref zy, .ref zm, .ref zb, .int rt, .int w0, .int w1, .int w2, .int lg, .int nr, .int (nI yr), .ref va, .ref vb, .ref vc, .ref vd, .ref qa, .ref qb, .ref qc, .int (nI ln), .ref sa, .ref sb, .ref sc, .ref sd, .ref se, .int (nI (pn + 1)), .ref ma, .ref mb, .ref mc, .ref rv, .int (nI mn), .int tol, .int (nI rn)], gI g zx 144 fx, gI g zy 144 fy, gI g zm 3 fm, gI g sa 20 (upd d1 pn x), gI g sb 20 (upd d2 pn y), gI g sc 20 (upd d3 pn (nI (sideS X Y n x y))), gI g sd 20 (upd d4 pn 0), gI g se 20 d5]) := by
  refine CtI.of (cc := cX9_plot) (maxL := 3) (ret := .int) (by decide) rfl (Nat.le_of_ble_eq_true rfl) ?_
  intro p e s m args below meth c A Q hnm F hK hA hP hD hS hret ls hl
  have hx := F.1
  have hb := F.2.1
  have hl : lv_has ls 3 [(0, .ref mo), (1, .int x), (2, .int y)] := hl
  have h1n : 1 ≤ n := by have := hok.1; have h : 4 ≤ n := this; omega
  refine lv_aload_n hx hb dX9_plot_0 rfl (lv_at hl 0 rfl) ?_
  refine lv_iconst (v := 0) hx hb dX9_plot_1 (by decide) ?_
  refine g_put (C := RX9) (T := TX9) (N := 36) (ws2 := [gO mo 9 [.int 0, .ref zt, .int (nI tn), .int (nI sz), .ref zx, .ref zy, .ref zm, .ref zb, .int rt, .int w0, .int w1, .int w2, .int lg, .int nr, .int (nI yr), .ref va, .ref vb, .ref vc, .ref vd, .ref qa, .ref qb, .ref qc, .int (nI ln), .ref sa, .ref sb, .ref sc, .ref sd, .ref se, .int (nI pn), .ref ma, .ref mb, .ref mc, .ref rv, .int (nI mn), .int tol, .int (nI rn)], gI g zx 144 fx, gI g zy 144 fy, gI g zm 3 fm, gI g sa 20 d1, gI g sb 20 d2, gI g sc 20 d3, gI g sd 20 d4, gI g se 20 d5]) F hK hP hD hS i_X9_plot_X9 tyX9 tyX9_ok nmX9 0 rfl rfl 0 (by decide) k_X9_plot_f1 rfl (v := .int 0) rfl rfl (Nat.le_of_ble_eq_true rfl) rfl dX9_plot_2 (fun H locs hP hD hS => ?_)
  refine lv_aload_n hx hb dX9_plot_5 rfl (lv_at hl 0 rfl) ?_
  refine g_get (C := RX9) (T := TX9) (N := 36) F hK hP i_X9_plot_X9 0 rfl rfl 28 (by decide) k_X9_plot_f126 (v := .int (nI pn)) rfl dX9_plot_6 ?_
  refine lv_bipush (v := 20) hx hb dX9_plot_9 (by decide) ?_
  refine n_icmp_eq (a := pn) (b := 20) (tgt := 22) hx hb dX9_plot_11 (by decide) (by omega) (by omega) (fun h => absurd h (by omega)) (fun c_11 => ?_)
  refine lv_iload_n hx hb dX9_plot_14 rfl (lv_at hl 1 rfl) ?_
  refine lv_iload_n hx hb dX9_plot_15 rfl (lv_at hl 2 rfl) ?_
  refine g_SI (wr := [gO mo 9 [.int 0, .ref zt, .int (nI tn), .int (nI sz), .ref zx, .ref zy, .ref zm, .ref zb, .int rt, .int w0, .int w1, .int w2, .int lg, .int nr, .int (nI yr), .ref va, .ref vb, .ref vc, .ref vd, .ref qa, .ref qb, .ref qc, .int (nI ln), .ref sa, .ref sb, .ref sc, .ref sd, .ref se, .int (nI pn), .ref ma, .ref mb, .ref mc, .ref rv, .int (nI mn), .int tol, .int (nI rn)], gI g zx 144 fx, gI g zy 144 fy, gI g zm 3 fm, gI g sa 20 d1, gI g sb 20 d2, gI g sc 20 d3, gI g sd 20 d4, gI g se 20 d5]) (As := [.int x, .int y]) (rest := []) (n := 2) F (c_X9_isPlace l g x y) gX9_plot_X9_isPlace rfl (by decide) ⟨by decide, by decide⟩ rfl hl.1 rfl (Nat.le_of_ble_eq_true rfl) dX9_plot_16 ⟨Nat.le_of_ble_eq_true rfl, Nat.le_of_ble_eq_true rfl⟩ hK hP hD hS hA [] [0, 1, 2, 3, 4, 5, 6, 7, 8] (by decide) rfl rfl (by decide) (by decide) (fun r_16 u_16 H locs hw_16 hP hD hS => ?_)
  have hP : gP g [gO mo 9 [.int 0, .ref zt, .int (nI tn), .int (nI sz), .ref zx, .ref zy, .ref zm, .ref zb, .int rt, .int w0, .int w1, .int w2, .int lg, .int nr, .int (nI yr), .ref va, .ref vb, .ref vc, .ref vd, .ref qa, .ref qb, .ref qc, .int (nI ln), .ref sa, .ref sb, .ref sc, .ref sd, .ref se, .int (nI pn), .ref ma, .ref mb, .ref mc, .ref rv, .int (nI mn), .int tol, .int (nI rn)], gI g zx 144 fx, gI g zy 144 fy, gI g zm 3 fm, gI g sa 20 d1, gI g sb 20 d2, gI g sc 20 d3, gI g sd 20 d4, gI g se 20 d5] H := hP
  have hD : va_D A [gO mo 9 [.int 0, .ref zt, .int (nI tn), .int (nI sz), .ref zx, .ref zy, .ref zm, .ref zb, .int rt, .int w0, .int w1, .int w2, .int lg, .int nr, .int (nI yr), .ref va, .ref vb, .ref vc, .ref vd, .ref qa, .ref qb, .ref qc, .int (nI ln), .ref sa, .ref sb, .ref sc, .ref sd, .ref se, .int (nI pn), .ref ma, .ref mb, .ref mc, .ref rv, .int (nI mn), .int tol, .int (nI rn)], gI g zx 144 fx, gI g zy 144 fy, gI g zm 3 fm, gI g sa 20 d1, gI g sb 20 d2, gI g sc 20 d3, gI g sd 20 d4, gI g se 20 d5] := hD
  rcases hw_16 with ⟨rfl, b_16⟩ | ⟨rfl, b_16⟩
  · refine lv_if_ne (tgt := 24) hx hb dX9_plot_19 (by decide) (fun _ => ?_) (fun h => absurd h (by decide))
    refine lv_aload_n hx hb dX9_plot_24 rfl (lv_at hl 0 rfl) ?_
    refine g_get (C := RX9) (T := TX9) (N := 36) F hK hP i_X9_plot_X9 0 rfl rfl 23 (by decide) k_X9_plot_f79 (v := .ref sa) rfl dX9_plot_25 ?_
    refine lv_aload_n hx hb dX9_plot_28 rfl (lv_at hl 0 rfl) ?_
    refine g_get (C := RX9) (T := TX9) (N := 36) F hK hP i_X9_plot_X9 0 rfl rfl 28 (by decide) k_X9_plot_f126 (v := .int (nI pn)) rfl dX9_plot_29 ?_
    refine lv_iload_n hx hb dX9_plot_32 rfl (lv_at hl 1 rfl) ?_
    refine g_iast (i := pn) (ws2 := [gO mo 9 [.int 0, .ref zt, .int (nI tn), .int (nI sz), .ref zx, .ref zy, .ref zm, .ref zb, .int rt, .int w0, .int w1, .int w2, .int lg, .int nr, .int (nI yr), .ref va, .ref vb, .ref vc, .ref vd, .ref qa, .ref qb, .ref qc, .int (nI ln), .ref sa, .ref sb, .ref sc, .ref sd, .ref se, .int (nI pn), .ref ma, .ref mb, .ref mc, .ref rv, .int (nI mn), .int tol, .int (nI rn)], gI g zx 144 fx, gI g zy 144 fy, gI g zm 3 fm, gI g sa 20 (upd d1 pn x), gI g sb 20 d2, gI g sc 20 d3, gI g sd 20 d4, gI g se 20 d5]) hx hb hK hP hD hS 4 rfl (by decide) (by omega) rfl dX9_plot_33 (fun H locs hP hD hS => ?_)
    refine lv_aload_n hx hb dX9_plot_34 rfl (lv_at hl 0 rfl) ?_
    refine g_get (C := RX9) (T := TX9) (N := 36) F hK hP i_X9_plot_X9 0 rfl rfl 24 (by decide) k_X9_plot_f82 (v := .ref sb) rfl dX9_plot_35 ?_
    refine lv_aload_n hx hb dX9_plot_38 rfl (lv_at hl 0 rfl) ?_
    refine g_get (C := RX9) (T := TX9) (N := 36) F hK hP i_X9_plot_X9 0 rfl rfl 28 (by decide) k_X9_plot_f126 (v := .int (nI pn)) rfl dX9_plot_39 ?_
    refine lv_iload_n hx hb dX9_plot_42 rfl (lv_at hl 2 rfl) ?_
    refine g_iast (i := pn) (ws2 := [gO mo 9 [.int 0, .ref zt, .int (nI tn), .int (nI sz), .ref zx, .ref zy, .ref zm, .ref zb, .int rt, .int w0, .int w1, .int w2, .int lg, .int nr, .int (nI yr), .ref va, .ref vb, .ref vc, .ref vd, .ref qa, .ref qb, .ref qc, .int (nI ln), .ref sa, .ref sb, .ref sc, .ref sd, .ref se, .int (nI pn), .ref ma, .ref mb, .ref mc, .ref rv, .int (nI mn), .int tol, .int (nI rn)], gI g zx 144 fx, gI g zy 144 fy, gI g zm 3 fm, gI g sa 20 (upd d1 pn x), gI g sb 20 (upd d2 pn y), gI g sc 20 d3, gI g sd 20 d4, gI g se 20 d5]) hx hb hK hP hD hS 5 rfl (by decide) (by omega) rfl dX9_plot_43 (fun H locs hP hD hS => ?_)
    refine lv_aload_n hx hb dX9_plot_44 rfl (lv_at hl 0 rfl) ?_
    refine g_get (C := RX9) (T := TX9) (N := 36) F hK hP i_X9_plot_X9 0 rfl rfl 25 (by decide) k_X9_plot_f85 (v := .ref sc) rfl dX9_plot_45 ?_
    refine lv_aload_n hx hb dX9_plot_48 rfl (lv_at hl 0 rfl) ?_
    refine g_get (C := RX9) (T := TX9) (N := 36) F hK hP i_X9_plot_X9 0 rfl rfl 28 (by decide) k_X9_plot_f126 (v := .int (nI pn)) rfl dX9_plot_49 ?_
    refine lv_aload_n hx hb dX9_plot_52 rfl (lv_at hl 0 rfl) ?_
    refine lv_iconst (v := 0) hx hb dX9_plot_53 (by decide) ?_
    refine lv_iload_n hx hb dX9_plot_54 rfl (lv_at hl 1 rfl) ?_
    refine lv_iload_n hx hb dX9_plot_55 rfl (lv_at hl 2 rfl) ?_
    refine g_VI (wr := [gI g sa 20 (upd d1 pn x), gI g sb 20 (upd d2 pn y), gI g sc 20 d3, gI g sd 20 d4, gI g se 20 d5]) (As := [.int 0, .int x, .int y]) (rest := [.int (nI pn), .ref sc]) (n := 3) F (c_X9_sideOf l g mo 0 zt tn sz zx zy zm zb rt w0 w1 w2 lg nr yr va vb vc vd qa qb qc ln sa sb sc sd se pn ma mb mc rv mn tol rn 0 n fm fx fy X Y x y (by decide) (hm0) (hn) (hX0) (hY0) (h1n) (hok.2.2) ((side_p h).1) ((side_p h).2)) gX9_plot_X9_sideOf rfl (by decide) ⟨by decide, by decide⟩ 0 9 rfl rfl rfl rfl hl.1 rfl (Nat.le_of_ble_eq_true rfl) dX9_plot_56 ⟨Nat.le_of_ble_eq_true rfl, Nat.le_of_ble_eq_true rfl⟩ hK hP hD hS hA [0, 1, 2, 3] [4, 5, 6, 7, 8] (by decide) rfl rfl (by decide) (by decide) (fun r_56 u_56 H locs hw_56 hP hD hS => ?_)
    have hP : gP g [gI g sa 20 (upd d1 pn x), gI g sb 20 (upd d2 pn y), gI g sc 20 d3, gI g sd 20 d4, gI g se 20 d5, gO mo 9 [.int 0, .ref zt, .int (nI tn), .int (nI sz), .ref zx, .ref zy, .ref zm, .ref zb, .int rt, .int w0, .int w1, .int w2, .int lg, .int nr, .int (nI yr), .ref va, .ref vb, .ref vc, .ref vd, .ref qa, .ref qb, .ref qc, .int (nI ln), .ref sa, .ref sb, .ref sc, .ref sd, .ref se, .int (nI pn), .ref ma, .ref mb, .ref mc, .ref rv, .int (nI mn), .int tol, .int (nI rn)], gI g zx 144 fx, gI g zy 144 fy, gI g zm 3 fm] H := hP
    have hD : va_D A [gI g sa 20 (upd d1 pn x), gI g sb 20 (upd d2 pn y), gI g sc 20 d3, gI g sd 20 d4, gI g se 20 d5, gO mo 9 [.int 0, .ref zt, .int (nI tn), .int (nI sz), .ref zx, .ref zy, .ref zm, .ref zb, .int rt, .int w0, .int w1, .int w2, .int lg, .int nr, .int (nI yr), .ref va, .ref vb, .ref vc, .ref vd, .ref qa, .ref qb, .ref qc, .int (nI ln), .ref sa, .ref sb, .ref sc, .ref sd, .ref se, .int (nI pn), .ref ma, .ref mb, .ref mc, .ref rv, .int (nI mn), .int tol, .int (nI rn)], gI g zx 144 fx, gI g zy 144 fy, gI g zm 3 fm] := hD
    obtain rfl := hw_56
    refine g_iast (i := pn) (ws2 := [gI g sa 20 (upd d1 pn x), gI g sb 20 (upd d2 pn y), gI g sc 20 (upd d3 pn (nI (sideS X Y n x y))), gI g sd 20 d4, gI g se 20 d5, gO mo 9 [.int 0, .ref zt, .int (nI tn), .int (nI sz), .ref zx, .ref zy, .ref zm, .ref zb, .int rt, .int w0, .int w1, .int w2, .int lg, .int nr, .int (nI yr), .ref va, .ref vb, .ref vc, .ref vd, .ref qa, .ref qb, .ref qc, .int (nI ln), .ref sa, .ref sb, .ref sc, .ref sd, .ref se, .int (nI pn), .ref ma, .ref mb, .ref mc, .ref rv, .int (nI mn), .int tol, .int (nI rn)], gI g zx 144 fx, gI g zy 144 fy, gI g zm 3 fm]) hx hb hK hP hD hS 2 rfl (by decide) (by omega) rfl dX9_plot_59 (fun H locs hP hD hS => ?_)
    refine lv_aload_n hx hb dX9_plot_60 rfl (lv_at hl 0 rfl) ?_
    refine g_get (C := RX9) (T := TX9) (N := 36) F hK hP i_X9_plot_X9 5 rfl rfl 26 (by decide) k_X9_plot_f88 (v := .ref sd) rfl dX9_plot_61 ?_
    refine lv_aload_n hx hb dX9_plot_64 rfl (lv_at hl 0 rfl) ?_
    refine g_get (C := RX9) (T := TX9) (N := 36) F hK hP i_X9_plot_X9 5 rfl rfl 28 (by decide) k_X9_plot_f126 (v := .int (nI pn)) rfl dX9_plot_65 ?_
    refine lv_iconst (v := 0) hx hb dX9_plot_68 (by decide) ?_
    refine g_iast (i := pn) (ws2 := [gI g sa 20 (upd d1 pn x), gI g sb 20 (upd d2 pn y), gI g sc 20 (upd d3 pn (nI (sideS X Y n x y))), gI g sd 20 (upd d4 pn 0), gI g se 20 d5, gO mo 9 [.int 0, .ref zt, .int (nI tn), .int (nI sz), .ref zx, .ref zy, .ref zm, .ref zb, .int rt, .int w0, .int w1, .int w2, .int lg, .int nr, .int (nI yr), .ref va, .ref vb, .ref vc, .ref vd, .ref qa, .ref qb, .ref qc, .int (nI ln), .ref sa, .ref sb, .ref sc, .ref sd, .ref se, .int (nI pn), .ref ma, .ref mb, .ref mc, .ref rv, .int (nI mn), .int tol, .int (nI rn)], gI g zx 144 fx, gI g zy 144 fy, gI g zm 3 fm]) hx hb hK hP hD hS 3 rfl (by decide) (by omega) rfl dX9_plot_69 (fun H locs hP hD hS => ?_)
    refine lv_aload_n hx hb dX9_plot_70 rfl (lv_at hl 0 rfl) ?_
    refine lv_dup hx hb dX9_plot_71 rfl ?_
    refine g_get (C := RX9) (T := TX9) (N := 36) F hK hP i_X9_plot_X9 5 rfl rfl 28 (by decide) k_X9_plot_f126 (v := .int (nI pn)) rfl dX9_plot_72 ?_
    refine lv_iconst (v := 1) hx hb dX9_plot_75 (by decide) ?_
    refine n_iadd (a := pn) (b := 1) (d := pn + 1) hx hb dX9_plot_76 (by omega) ?_
    refine g_put (C := RX9) (T := TX9) (N := 36) (ws2 := [gI g sa 20 (upd d1 pn x), gI g sb 20 (upd d2 pn y), gI g sc 20 (upd d3 pn (nI (sideS X Y n x y))), gI g sd 20 (upd d4 pn 0), gI g se 20 d5, gO mo 9 [.int 0, .ref zt, .int (nI tn), .int (nI sz), .ref zx, .ref zy, .ref zm, .ref zb, .int rt, .int w0, .int w1, .int w2, .int lg, .int nr, .int (nI yr), .ref va, .ref vb, .ref vc, .ref vd, .ref qa, .ref qb, .ref qc, .int (nI ln), .ref sa, .ref sb, .ref sc, .ref sd, .ref se, .int (nI (pn + 1)), .ref ma, .ref mb, .ref mc, .ref rv, .int (nI mn), .int tol, .int (nI rn)], gI g zx 144 fx, gI g zy 144 fy, gI g zm 3 fm]) F hK hP hD hS i_X9_plot_X9 tyX9 tyX9_ok nmX9 5 rfl rfl 28 (by decide) k_X9_plot_f126 rfl (v := .int (nI (pn + 1))) rfl rfl (Nat.le_of_ble_eq_true rfl) rfl dX9_plot_77 (fun H locs hP hD hS => ?_)
    refine lv_aload_n hx hb dX9_plot_80 rfl (lv_at hl 0 rfl) ?_
    refine g_get (C := RX9) (T := TX9) (N := 36) F hK hP i_X9_plot_X9 5 rfl rfl 28 (by decide) k_X9_plot_f126 (v := .int (nI (pn + 1))) rfl dX9_plot_81 ?_
    refine lv_iconst (v := 1) hx hb dX9_plot_84 (by decide) ?_
    refine n_isub (a := pn + 1) (b := 1) (d := pn) hx hb dX9_plot_85 (by omega) (by omega) ?_
    have hP9 := hP.sub (ws' := [gO mo 9 [.int 0, .ref zt, .int (nI tn), .int (nI sz), .ref zx, .ref zy, .ref zm, .ref zb, .int rt, .int w0, .int w1, .int w2, .int lg, .int nr, .int (nI yr), .ref va, .ref vb, .ref vc, .ref vd, .ref qa, .ref qb, .ref qc, .int (nI ln), .ref sa, .ref sb, .ref sc, .ref sd, .ref se, .int (nI (pn + 1)), .ref ma, .ref mb, .ref mc, .ref rv, .int (nI mn), .int tol, .int (nI rn)], gI g zx 144 fx, gI g zy 144 fy, gI g zm 3 fm, gI g sa 20 (upd d1 pn x), gI g sb 20 (upd d2 pn y), gI g sc 20 (upd d3 pn (nI (sideS X Y n x y))), gI g sd 20 (upd d4 pn 0), gI g se 20 d5]) [5, 6, 7, 8, 0, 1, 2, 3, 4] rfl
    have hD9 := hD.sub (ws' := [gO mo 9 [.int 0, .ref zt, .int (nI tn), .int (nI sz), .ref zx, .ref zy, .ref zm, .ref zb, .int rt, .int w0, .int w1, .int w2, .int lg, .int nr, .int (nI yr), .ref va, .ref vb, .ref vc, .ref vd, .ref qa, .ref qb, .ref qc, .int (nI ln), .ref sa, .ref sb, .ref sc, .ref sd, .ref se, .int (nI (pn + 1)), .ref ma, .ref mb, .ref mc, .ref rv, .int (nI mn), .int tol, .int (nI rn)], gI g zx 144 fx, gI g zy 144 fy, gI g zm 3 fm, gI g sa 20 (upd d1 pn x), gI g sb 20 (upd d2 pn y), gI g sc 20 (upd d3 pn (nI (sideS X Y n x y))), gI g sd 20 (upd d4 pn 0), gI g se 20 d5]) [5, 6, 7, 8, 0, 1, 2, 3, 4] (by decide) rfl
    exact hret _ _ _ _ (nI pn) () dX9_plot_86 rfl (rfl) hP9 hD9 hS
  · exact absurd h b_16

abbrev rm_X9_mark : Room := { frames := 1, cells := 0, slots := 0, locals := 22 }
theorem i_X9_mark_X9 : ∀ w ∈ wsX90, w ∈ wsX9_mark := by decide +kernel
theorem k_X9_mark_f1 : Cond.fieldLink RX9 1 (TX9 0).1 (TX9 0).2.1 (TX9 0).2.2.1 ∈ wsX9_mark := by decide +kernel
theorem k_X9_mark_f187 : Cond.fieldLink RX9 187 (TX9 33).1 (TX9 33).2.1 (TX9 33).2.2.1 ∈ wsX9_mark := by decide +kernel
set_option maxHeartbeats 4000000 in
set_option maxRecDepth 100000 in
theorem c_X9_mark_n (l : Launch) (g : gT) (mo : Nat) (th : Int32) (zt : Nat) (tn : Nat) (sz : Nat) (zx : Nat) (zy : Nat) (zm : Nat) (zb : Nat) (rt : Int32) (w0 : Int32) (w1 : Int32) (w2 : Int32) (lg : Int32) (nr : Int32) (yr : Nat) (va : Nat) (vb : Nat) (vc : Nat) (vd : Nat) (qa : Nat) (qb : Nat) (qc : Nat) (ln : Nat) (sa : Nat) (sb : Nat) (sc : Nat) (sd : Nat) (se : Nat) (pn : Nat) (ma : Nat) (mb : Nat) (mc : Nat) (rv : Nat) (mn : Nat) (tol : Int32) (rn : Nat) (x : Int32) (y : Int32) (ye : Int32) (hmn : mn ≤ 30) (h : ¬ mrkP x y ye) : CtI l g yX9_mark wsX9_mark rm_X9_mark [.ref mo, .int x, .int y, .int ye] [gO mo 9 [.int th, .ref zt, .int (nI tn), .int (nI sz), .ref zx, .ref zy, .ref zm, .ref zb, .int rt, .int w0, .int w1, .int w2, .int lg, .int nr, .int (nI yr), .ref va, .ref vb, .ref vc, .ref vd, .ref qa, .ref qb, .ref qc, .int (nI ln), .ref sa, .ref sb, .ref sc, .ref sd, .ref se, .int (nI pn), .ref ma, .ref mb, .ref mc, .ref rv, .int (nI mn), .int tol, .int (nI rn)]] (fun (r : Int32) (_ : Unit) => r = -1) (fun (_ : Unit) => [gO mo 9 [.int 0, .ref zt, .int (nI tn), .int (nI sz), .ref zx, .ref zy, .ref zm, .ref zb, .int rt, .int w0, .int w1, .int w2, .int lg, .int nr, .int (nI yr), .ref va, .ref vb, .ref vc, .ref vd, .ref qa, .ref qb, .ref qc, .int (nI ln), .ref sa, .ref sb, .ref sc, .ref sd, .ref se, .int (nI pn), .ref ma, .ref mb, .ref mc, .ref rv, .int (nI mn), .int tol, .int (nI rn)]]) := by
  refine CtI.of (cc := cX9_mark) (maxL := 4) (ret := .int) (by decide) rfl (Nat.le_of_ble_eq_true rfl) ?_
  intro p e s m args below meth c A Q hnm F hK hA hP hD hS hret ls hl
  have hx := F.1
  have hb := F.2.1
  have hl : lv_has ls 4 [(0, .ref mo), (1, .int x), (2, .int y), (3, .int ye)] := hl
  refine lv_aload_n hx hb dX9_mark_0 rfl (lv_at hl 0 rfl) ?_
  refine lv_iconst (v := 0) hx hb dX9_mark_1 (by decide) ?_
  refine g_put (C := RX9) (T := TX9) (N := 36) (ws2 := [gO mo 9 [.int 0, .ref zt, .int (nI tn), .int (nI sz), .ref zx, .ref zy, .ref zm, .ref zb, .int rt, .int w0, .int w1, .int w2, .int lg, .int nr, .int (nI yr), .ref va, .ref vb, .ref vc, .ref vd, .ref qa, .ref qb, .ref qc, .int (nI ln), .ref sa, .ref sb, .ref sc, .ref sd, .ref se, .int (nI pn), .ref ma, .ref mb, .ref mc, .ref rv, .int (nI mn), .int tol, .int (nI rn)]]) F hK hP hD hS i_X9_mark_X9 tyX9 tyX9_ok nmX9 0 rfl rfl 0 (by decide) k_X9_mark_f1 rfl (v := .int 0) rfl rfl (Nat.le_of_ble_eq_true rfl) rfl dX9_mark_2 (fun H locs hP hD hS => ?_)
  refine lv_aload_n hx hb dX9_mark_5 rfl (lv_at hl 0 rfl) ?_
  refine g_get (C := RX9) (T := TX9) (N := 36) F hK hP i_X9_mark_X9 0 rfl rfl 33 (by decide) k_X9_mark_f187 (v := .int (nI mn)) rfl dX9_mark_6 ?_
  refine lv_bipush (v := 30) hx hb dX9_mark_9 (by decide) ?_
  refine n_icmp_eq (a := mn) (b := 30) (tgt := 46) hx hb dX9_mark_11 (by decide) (by omega) (by omega) (fun c_11 => ?_) (fun c_11 => ?_)
  · refine lv_iconst (v := (-1)) hx hb dX9_mark_46 (by decide) ?_
    exact hret _ _ _ _ (-1) () dX9_mark_47 rfl (rfl) hP hD hS
  · refine lv_iload_n hx hb dX9_mark_14 rfl (lv_at hl 1 rfl) ?_
    refine lv_iconst (v := 0) hx hb dX9_mark_15 (by decide) ?_
    refine lv_sipush (v := 511) hx hb dX9_mark_16 (by decide) ?_
    refine g_SI (wr := [gO mo 9 [.int 0, .ref zt, .int (nI tn), .int (nI sz), .ref zx, .ref zy, .ref zm, .ref zb, .int rt, .int w0, .int w1, .int w2, .int lg, .int nr, .int (nI yr), .ref va, .ref vb, .ref vc, .ref vd, .ref qa, .ref qb, .ref qc, .int (nI ln), .ref sa, .ref sb, .ref sc, .ref sd, .ref se, .int (nI pn), .ref ma, .ref mb, .ref mc, .ref rv, .int (nI mn), .int tol, .int (nI rn)]]) (As := [.int x, .int 0, .int 511]) (rest := []) (n := 3) F (c_X9_isIn l g x 0 511) gX9_mark_X9_isIn rfl (by decide) ⟨by decide, by decide⟩ rfl hl.1 rfl (Nat.le_of_ble_eq_true rfl) dX9_mark_19 ⟨Nat.le_of_ble_eq_true rfl, Nat.le_of_ble_eq_true rfl⟩ hK hP hD hS hA [] [0] (by decide) rfl rfl (by decide) (by decide) (fun r_19 u_19 H locs hw_19 hP hD hS => ?_)
    have hP : gP g [gO mo 9 [.int 0, .ref zt, .int (nI tn), .int (nI sz), .ref zx, .ref zy, .ref zm, .ref zb, .int rt, .int w0, .int w1, .int w2, .int lg, .int nr, .int (nI yr), .ref va, .ref vb, .ref vc, .ref vd, .ref qa, .ref qb, .ref qc, .int (nI ln), .ref sa, .ref sb, .ref sc, .ref sd, .ref se, .int (nI pn), .ref ma, .ref mb, .ref mc, .ref rv, .int (nI mn), .int tol, .int (nI rn)]] H := hP
    have hD : va_D A [gO mo 9 [.int 0, .ref zt, .int (nI tn), .int (nI sz), .ref zx, .ref zy, .ref zm, .ref zb, .int rt, .int w0, .int w1, .int w2, .int lg, .int nr, .int (nI yr), .ref va, .ref vb, .ref vc, .ref vd, .ref qa, .ref qb, .ref qc, .int (nI ln), .ref sa, .ref sb, .ref sc, .ref sd, .ref se, .int (nI pn), .ref ma, .ref mb, .ref mc, .ref rv, .int (nI mn), .int tol, .int (nI rn)]] := hD
    rcases hw_19 with ⟨rfl, b_19⟩ | ⟨rfl, b_19⟩
    · refine lv_if_eq (tgt := 46) hx hb dX9_mark_22 (by decide) (fun h => absurd h (by decide)) (fun _ => ?_)
      refine lv_iload_n hx hb dX9_mark_25 rfl (lv_at hl 2 rfl) ?_
      refine lv_iconst (v := 0) hx hb dX9_mark_26 (by decide) ?_
      refine lv_sipush (v := 511) hx hb dX9_mark_27 (by decide) ?_
      refine g_SI (wr := [gO mo 9 [.int 0, .ref zt, .int (nI tn), .int (nI sz), .ref zx, .ref zy, .ref zm, .ref zb, .int rt, .int w0, .int w1, .int w2, .int lg, .int nr, .int (nI yr), .ref va, .ref vb, .ref vc, .ref vd, .ref qa, .ref qb, .ref qc, .int (nI ln), .ref sa, .ref sb, .ref sc, .ref sd, .ref se, .int (nI pn), .ref ma, .ref mb, .ref mc, .ref rv, .int (nI mn), .int tol, .int (nI rn)]]) (As := [.int y, .int 0, .int 511]) (rest := []) (n := 3) F (c_X9_isIn l g y 0 511) gX9_mark_X9_isIn rfl (by decide) ⟨by decide, by decide⟩ rfl hl.1 rfl (Nat.le_of_ble_eq_true rfl) dX9_mark_30 ⟨Nat.le_of_ble_eq_true rfl, Nat.le_of_ble_eq_true rfl⟩ hK hP hD hS hA [] [0] (by decide) rfl rfl (by decide) (by decide) (fun r_30 u_30 H locs hw_30 hP hD hS => ?_)
      have hP : gP g [gO mo 9 [.int 0, .ref zt, .int (nI tn), .int (nI sz), .ref zx, .ref zy, .ref zm, .ref zb, .int rt, .int w0, .int w1, .int w2, .int lg, .int nr, .int (nI yr), .ref va, .ref vb, .ref vc, .ref vd, .ref qa, .ref qb, .ref qc, .int (nI ln), .ref sa, .ref sb, .ref sc, .ref sd, .ref se, .int (nI pn), .ref ma, .ref mb, .ref mc, .ref rv, .int (nI mn), .int tol, .int (nI rn)]] H := hP
      have hD : va_D A [gO mo 9 [.int 0, .ref zt, .int (nI tn), .int (nI sz), .ref zx, .ref zy, .ref zm, .ref zb, .int rt, .int w0, .int w1, .int w2, .int lg, .int nr, .int (nI yr), .ref va, .ref vb, .ref vc, .ref vd, .ref qa, .ref qb, .ref qc, .int (nI ln), .ref sa, .ref sb, .ref sc, .ref sd, .ref se, .int (nI pn), .ref ma, .ref mb, .ref mc, .ref rv, .int (nI mn), .int tol, .int (nI rn)]] := hD
      rcases hw_30 with ⟨rfl, b_30⟩ | ⟨rfl, b_30⟩
      · refine lv_if_eq (tgt := 46) hx hb dX9_mark_33 (by decide) (fun h => absurd h (by decide)) (fun _ => ?_)
        refine lv_iload_n hx hb dX9_mark_36 rfl (lv_at hl 3 rfl) ?_
        refine lv_iconst (v := 0) hx hb dX9_mark_37 (by decide) ?_
        refine lv_bipush (v := 60) hx hb dX9_mark_38 (by decide) ?_
        refine g_SI (wr := [gO mo 9 [.int 0, .ref zt, .int (nI tn), .int (nI sz), .ref zx, .ref zy, .ref zm, .ref zb, .int rt, .int w0, .int w1, .int w2, .int lg, .int nr, .int (nI yr), .ref va, .ref vb, .ref vc, .ref vd, .ref qa, .ref qb, .ref qc, .int (nI ln), .ref sa, .ref sb, .ref sc, .ref sd, .ref se, .int (nI pn), .ref ma, .ref mb, .ref mc, .ref rv, .int (nI mn), .int tol, .int (nI rn)]]) (As := [.int ye, .int 0, .int 60]) (rest := []) (n := 3) F (c_X9_isIn l g ye 0 60) gX9_mark_X9_isIn rfl (by decide) ⟨by decide, by decide⟩ rfl hl.1 rfl (Nat.le_of_ble_eq_true rfl) dX9_mark_40 ⟨Nat.le_of_ble_eq_true rfl, Nat.le_of_ble_eq_true rfl⟩ hK hP hD hS hA [] [0] (by decide) rfl rfl (by decide) (by decide) (fun r_40 u_40 H locs hw_40 hP hD hS => ?_)
        have hP : gP g [gO mo 9 [.int 0, .ref zt, .int (nI tn), .int (nI sz), .ref zx, .ref zy, .ref zm, .ref zb, .int rt, .int w0, .int w1, .int w2, .int lg, .int nr, .int (nI yr), .ref va, .ref vb, .ref vc, .ref vd, .ref qa, .ref qb, .ref qc, .int (nI ln), .ref sa, .ref sb, .ref sc, .ref sd, .ref se, .int (nI pn), .ref ma, .ref mb, .ref mc, .ref rv, .int (nI mn), .int tol, .int (nI rn)]] H := hP
        have hD : va_D A [gO mo 9 [.int 0, .ref zt, .int (nI tn), .int (nI sz), .ref zx, .ref zy, .ref zm, .ref zb, .int rt, .int w0, .int w1, .int w2, .int lg, .int nr, .int (nI yr), .ref va, .ref vb, .ref vc, .ref vd, .ref qa, .ref qb, .ref qc, .int (nI ln), .ref sa, .ref sb, .ref sc, .ref sd, .ref se, .int (nI pn), .ref ma, .ref mb, .ref mc, .ref rv, .int (nI mn), .int tol, .int (nI rn)]] := hD
        rcases hw_40 with ⟨rfl, b_40⟩ | ⟨rfl, b_40⟩
        · refine lv_if_ne (tgt := 48) hx hb dX9_mark_43 (by decide) (fun _ => ?_) (fun h => absurd h (by decide))
          exact absurd ⟨b_19, b_30, b_40⟩ h
        · refine lv_if_ne (tgt := 48) hx hb dX9_mark_43 (by decide) (fun h => absurd (by decide) h) (fun _ => ?_)
          refine lv_iconst (v := (-1)) hx hb dX9_mark_46 (by decide) ?_
          exact hret _ _ _ _ (-1) () dX9_mark_47 rfl (rfl) hP hD hS
      · refine lv_if_eq (tgt := 46) hx hb dX9_mark_33 (by decide) (fun _ => ?_) (fun h => absurd (by decide) h)
        refine lv_iconst (v := (-1)) hx hb dX9_mark_46 (by decide) ?_
        exact hret _ _ _ _ (-1) () dX9_mark_47 rfl (rfl) hP hD hS
    · refine lv_if_eq (tgt := 46) hx hb dX9_mark_22 (by decide) (fun _ => ?_) (fun h => absurd (by decide) h)
      refine lv_iconst (v := (-1)) hx hb dX9_mark_46 (by decide) ?_
      exact hret _ _ _ _ (-1) () dX9_mark_47 rfl (rfl) hP hD hS

set_option maxHeartbeats 4000000 in
set_option maxRecDepth 100000 in
theorem c_X9_mark_f (l : Launch) (g : gT) (mo : Nat) (th : Int32) (zt : Nat) (tn : Nat) (sz : Nat) (zx : Nat) (zy : Nat) (zm : Nat) (zb : Nat) (rt : Int32) (w0 : Int32) (w1 : Int32) (w2 : Int32) (lg : Int32) (nr : Int32) (yr : Nat) (va : Nat) (vb : Nat) (vc : Nat) (vd : Nat) (qa : Nat) (qb : Nat) (qc : Nat) (ln : Nat) (sa : Nat) (sb : Nat) (sc : Nat) (sd : Nat) (se : Nat) (pn : Nat) (ma : Nat) (mb : Nat) (mc : Nat) (rv : Nat) (mn : Nat) (tol : Int32) (rn : Nat) (x : Int32) (y : Int32) (ye : Int32) (hmn : mn = 30) : CtI l g yX9_mark wsX9_mark rm_X9_mark [.ref mo, .int x, .int y, .int ye] [gO mo 9 [.int th, .ref zt, .int (nI tn), .int (nI sz), .ref zx, .ref zy, .ref zm, .ref zb, .int rt, .int w0, .int w1, .int w2, .int lg, .int nr, .int (nI yr), .ref va, .ref vb, .ref vc, .ref vd, .ref qa, .ref qb, .ref qc, .int (nI ln), .ref sa, .ref sb, .ref sc, .ref sd, .ref se, .int (nI pn), .ref ma, .ref mb, .ref mc, .ref rv, .int (nI mn), .int tol, .int (nI rn)]] (fun (r : Int32) (_ : Unit) => r = -1) (fun (_ : Unit) => [gO mo 9 [.int 0, .ref zt, .int (nI tn), .int (nI sz), .ref zx, .ref zy, .ref zm, .ref zb, .int rt, .int w0, .int w1, .int w2, .int lg, .int nr, .int (nI yr), .ref va, .ref vb, .ref vc, .ref vd, .ref qa, .ref qb, .ref qc, .int (nI ln), .ref sa, .ref sb, .ref sc, .ref sd, .ref se, .int (nI pn), .ref ma, .ref mb, .ref mc, .ref rv, .int (nI mn), .int tol, .int (nI rn)]]) := by
  refine CtI.of (cc := cX9_mark) (maxL := 4) (ret := .int) (by decide) rfl (Nat.le_of_ble_eq_true rfl) ?_
  intro p e s m args below meth c A Q hnm F hK hA hP hD hS hret ls hl
  have hx := F.1
  have hb := F.2.1
  have hl : lv_has ls 4 [(0, .ref mo), (1, .int x), (2, .int y), (3, .int ye)] := hl
  refine lv_aload_n hx hb dX9_mark_0 rfl (lv_at hl 0 rfl) ?_
  refine lv_iconst (v := 0) hx hb dX9_mark_1 (by decide) ?_
  refine g_put (C := RX9) (T := TX9) (N := 36) (ws2 := [gO mo 9 [.int 0, .ref zt, .int (nI tn), .int (nI sz), .ref zx, .ref zy, .ref zm, .ref zb, .int rt, .int w0, .int w1, .int w2, .int lg, .int nr, .int (nI yr), .ref va, .ref vb, .ref vc, .ref vd, .ref qa, .ref qb, .ref qc, .int (nI ln), .ref sa, .ref sb, .ref sc, .ref sd, .ref se, .int (nI pn), .ref ma, .ref mb, .ref mc, .ref rv, .int (nI mn), .int tol, .int (nI rn)]]) F hK hP hD hS i_X9_mark_X9 tyX9 tyX9_ok nmX9 0 rfl rfl 0 (by decide) k_X9_mark_f1 rfl (v := .int 0) rfl rfl (Nat.le_of_ble_eq_true rfl) rfl dX9_mark_2 (fun H locs hP hD hS => ?_)
  refine lv_aload_n hx hb dX9_mark_5 rfl (lv_at hl 0 rfl) ?_
  refine g_get (C := RX9) (T := TX9) (N := 36) F hK hP i_X9_mark_X9 0 rfl rfl 33 (by decide) k_X9_mark_f187 (v := .int (nI mn)) rfl dX9_mark_6 ?_
  refine lv_bipush (v := 30) hx hb dX9_mark_9 (by decide) ?_
  refine n_icmp_eq (a := mn) (b := 30) (tgt := 46) hx hb dX9_mark_11 (by decide) (by omega) (by omega) (fun c_11 => ?_) (fun h => absurd hmn h)
  refine lv_iconst (v := (-1)) hx hb dX9_mark_46 (by decide) ?_
  exact hret _ _ _ _ (-1) () dX9_mark_47 rfl (rfl) hP hD hS

theorem k_X9_mark_f94 : Cond.fieldLink RX9 94 (TX9 29).1 (TX9 29).2.1 (TX9 29).2.2.1 ∈ wsX9_mark := by decide +kernel
theorem k_X9_mark_f97 : Cond.fieldLink RX9 97 (TX9 30).1 (TX9 30).2.1 (TX9 30).2.2.1 ∈ wsX9_mark := by decide +kernel
theorem k_X9_mark_f100 : Cond.fieldLink RX9 100 (TX9 31).1 (TX9 31).2.1 (TX9 31).2.2.1 ∈ wsX9_mark := by decide +kernel
set_option maxHeartbeats 4000000 in
set_option maxRecDepth 100000 in
theorem c_X9_mark_y (l : Launch) (g : gT) (mo : Nat) (th : Int32) (zt : Nat) (tn : Nat) (sz : Nat) (zx : Nat) (zy : Nat) (zm : Nat) (zb : Nat) (rt : Int32) (w0 : Int32) (w1 : Int32) (w2 : Int32) (lg : Int32) (nr : Int32) (yr : Nat) (va : Nat) (vb : Nat) (vc : Nat) (vd : Nat) (qa : Nat) (qb : Nat) (qc : Nat) (ln : Nat) (sa : Nat) (sb : Nat) (sc : Nat) (sd : Nat) (se : Nat) (pn : Nat) (ma : Nat) (mb : Nat) (mc : Nat) (rv : Nat) (mn : Nat) (tol : Int32) (rn : Nat) (k1 : Nat → Int32) (k2 : Nat → Int32) (k3 : Nat → Int32) (x : Int32) (y : Int32) (ye : Int32) (hmn : mn < 30) (h : mrkP x y ye) : CtI l g yX9_mark wsX9_mark rm_X9_mark [.ref mo, .int x, .int y, .int ye] [gO mo 9 [.int th, .ref zt, .int (nI tn), .int (nI sz), .ref zx, .ref zy, .ref zm, .ref zb, .int rt, .int w0, .int w1, .int w2, .int lg, .int nr, .int (nI yr), .ref va, .ref vb, .ref vc, .ref vd, .ref qa, .ref qb, .ref qc, .int (nI ln), .ref sa, .ref sb, .ref sc, .ref sd, .ref se, .int (nI pn), .ref ma, .ref mb, .ref mc, .ref rv, .int (nI mn), .int tol, .int (nI rn)], gI g ma 30 k1, gI g mb 30 k2, gI g mc 30 k3] (fun (r : Int32) (_ : Unit) => r = nI mn) (fun (_ : Unit) => [gO mo 9 [.int 0, .ref zt, .int (nI tn), .int (nI sz), .ref zx, .ref zy, .ref zm, .ref zb, .int rt, .int w0, .int w1, .int w2, .int lg, .int nr, .int (nI yr), .ref va, .ref vb, .ref vc, .ref vd, .ref qa, .ref qb, .ref qc, .int (nI ln), .ref sa, .ref sb, .ref sc, .ref sd, .ref se, .int (nI pn), .ref ma, .ref mb, .ref mc, .ref rv, .int (nI (mn + 1)), .int tol, .int (nI rn)], gI g ma 30 (upd k1 mn x), gI g mb 30 (upd k2 mn y), gI g mc 30 (upd k3 mn ye)]) := by
  refine CtI.of (cc := cX9_mark) (maxL := 4) (ret := .int) (by decide) rfl (Nat.le_of_ble_eq_true rfl) ?_
  intro p e s m args below meth c A Q hnm F hK hA hP hD hS hret ls hl
  have hx := F.1
  have hb := F.2.1
  have hl : lv_has ls 4 [(0, .ref mo), (1, .int x), (2, .int y), (3, .int ye)] := hl
  refine lv_aload_n hx hb dX9_mark_0 rfl (lv_at hl 0 rfl) ?_
  refine lv_iconst (v := 0) hx hb dX9_mark_1 (by decide) ?_
  refine g_put (C := RX9) (T := TX9) (N := 36) (ws2 := [gO mo 9 [.int 0, .ref zt, .int (nI tn), .int (nI sz), .ref zx, .ref zy, .ref zm, .ref zb, .int rt, .int w0, .int w1, .int w2, .int lg, .int nr, .int (nI yr), .ref va, .ref vb, .ref vc, .ref vd, .ref qa, .ref qb, .ref qc, .int (nI ln), .ref sa, .ref sb, .ref sc, .ref sd, .ref se, .int (nI pn), .ref ma, .ref mb, .ref mc, .ref rv, .int (nI mn), .int tol, .int (nI rn)], gI g ma 30 k1, gI g mb 30 k2, gI g mc 30 k3]) F hK hP hD hS i_X9_mark_X9 tyX9 tyX9_ok nmX9 0 rfl rfl 0 (by decide) k_X9_mark_f1 rfl (v := .int 0) rfl rfl (Nat.le_of_ble_eq_true rfl) rfl dX9_mark_2 (fun H locs hP hD hS => ?_)
  refine lv_aload_n hx hb dX9_mark_5 rfl (lv_at hl 0 rfl) ?_
  refine g_get (C := RX9) (T := TX9) (N := 36) F hK hP i_X9_mark_X9 0 rfl rfl 33 (by decide) k_X9_mark_f187 (v := .int (nI mn)) rfl dX9_mark_6 ?_
  refine lv_bipush (v := 30) hx hb dX9_mark_9 (by decide) ?_
  refine n_icmp_eq (a := mn) (b := 30) (tgt := 46) hx hb dX9_mark_11 (by decide) (by omega) (by omega) (fun h => absurd h (by omega)) (fun c_11 => ?_)
  refine lv_iload_n hx hb dX9_mark_14 rfl (lv_at hl 1 rfl) ?_
  refine lv_iconst (v := 0) hx hb dX9_mark_15 (by decide) ?_
  refine lv_sipush (v := 511) hx hb dX9_mark_16 (by decide) ?_
  refine g_SI (wr := [gO mo 9 [.int 0, .ref zt, .int (nI tn), .int (nI sz), .ref zx, .ref zy, .ref zm, .ref zb, .int rt, .int w0, .int w1, .int w2, .int lg, .int nr, .int (nI yr), .ref va, .ref vb, .ref vc, .ref vd, .ref qa, .ref qb, .ref qc, .int (nI ln), .ref sa, .ref sb, .ref sc, .ref sd, .ref se, .int (nI pn), .ref ma, .ref mb, .ref mc, .ref rv, .int (nI mn), .int tol, .int (nI rn)], gI g ma 30 k1, gI g mb 30 k2, gI g mc 30 k3]) (As := [.int x, .int 0, .int 511]) (rest := []) (n := 3) F (c_X9_isIn l g x 0 511) gX9_mark_X9_isIn rfl (by decide) ⟨by decide, by decide⟩ rfl hl.1 rfl (Nat.le_of_ble_eq_true rfl) dX9_mark_19 ⟨Nat.le_of_ble_eq_true rfl, Nat.le_of_ble_eq_true rfl⟩ hK hP hD hS hA [] [0, 1, 2, 3] (by decide) rfl rfl (by decide) (by decide) (fun r_19 u_19 H locs hw_19 hP hD hS => ?_)
  have hP : gP g [gO mo 9 [.int 0, .ref zt, .int (nI tn), .int (nI sz), .ref zx, .ref zy, .ref zm, .ref zb, .int rt, .int w0, .int w1, .int w2, .int lg, .int nr, .int (nI yr), .ref va, .ref vb, .ref vc, .ref vd, .ref qa, .ref qb, .ref qc, .int (nI ln), .ref sa, .ref sb, .ref sc, .ref sd, .ref se, .int (nI pn), .ref ma, .ref mb, .ref mc, .ref rv, .int (nI mn), .int tol, .int (nI rn)], gI g ma 30 k1, gI g mb 30 k2, gI g mc 30 k3] H := hP
  have hD : va_D A [gO mo 9 [.int 0, .ref zt, .int (nI tn), .int (nI sz), .ref zx, .ref zy, .ref zm, .ref zb, .int rt, .int w0, .int w1, .int w2, .int lg, .int nr, .int (nI yr), .ref va, .ref vb, .ref vc, .ref vd, .ref qa, .ref qb, .ref qc, .int (nI ln), .ref sa, .ref sb, .ref sc, .ref sd, .ref se, .int (nI pn), .ref ma, .ref mb, .ref mc, .ref rv, .int (nI mn), .int tol, .int (nI rn)], gI g ma 30 k1, gI g mb 30 k2, gI g mc 30 k3] := hD
  rcases hw_19 with ⟨rfl, b_19⟩ | ⟨rfl, b_19⟩
  · refine lv_if_eq (tgt := 46) hx hb dX9_mark_22 (by decide) (fun h => absurd h (by decide)) (fun _ => ?_)
    refine lv_iload_n hx hb dX9_mark_25 rfl (lv_at hl 2 rfl) ?_
    refine lv_iconst (v := 0) hx hb dX9_mark_26 (by decide) ?_
    refine lv_sipush (v := 511) hx hb dX9_mark_27 (by decide) ?_
    refine g_SI (wr := [gO mo 9 [.int 0, .ref zt, .int (nI tn), .int (nI sz), .ref zx, .ref zy, .ref zm, .ref zb, .int rt, .int w0, .int w1, .int w2, .int lg, .int nr, .int (nI yr), .ref va, .ref vb, .ref vc, .ref vd, .ref qa, .ref qb, .ref qc, .int (nI ln), .ref sa, .ref sb, .ref sc, .ref sd, .ref se, .int (nI pn), .ref ma, .ref mb, .ref mc, .ref rv, .int (nI mn), .int tol, .int (nI rn)], gI g ma 30 k1, gI g mb 30 k2, gI g mc 30 k3]) (As := [.int y, .int 0, .int 511]) (rest := []) (n := 3) F (c_X9_isIn l g y 0 511) gX9_mark_X9_isIn rfl (by decide) ⟨by decide, by decide⟩ rfl hl.1 rfl (Nat.le_of_ble_eq_true rfl) dX9_mark_30 ⟨Nat.le_of_ble_eq_true rfl, Nat.le_of_ble_eq_true rfl⟩ hK hP hD hS hA [] [0, 1, 2, 3] (by decide) rfl rfl (by decide) (by decide) (fun r_30 u_30 H locs hw_30 hP hD hS => ?_)
    have hP : gP g [gO mo 9 [.int 0, .ref zt, .int (nI tn), .int (nI sz), .ref zx, .ref zy, .ref zm, .ref zb, .int rt, .int w0, .int w1, .int w2, .int lg, .int nr, .int (nI yr), .ref va, .ref vb, .ref vc, .ref vd, .ref qa, .ref qb, .ref qc, .int (nI ln), .ref sa, .ref sb, .ref sc, .ref sd, .ref se, .int (nI pn), .ref ma, .ref mb, .ref mc, .ref rv, .int (nI mn), .int tol, .int (nI rn)], gI g ma 30 k1, gI g mb 30 k2, gI g mc 30 k3] H := hP
    have hD : va_D A [gO mo 9 [.int 0, .ref zt, .int (nI tn), .int (nI sz), .ref zx, .ref zy, .ref zm, .ref zb, .int rt, .int w0, .int w1, .int w2, .int lg, .int nr, .int (nI yr), .ref va, .ref vb, .ref vc, .ref vd, .ref qa, .ref qb, .ref qc, .int (nI ln), .ref sa, .ref sb, .ref sc, .ref sd, .ref se, .int (nI pn), .ref ma, .ref mb, .ref mc, .ref rv, .int (nI mn), .int tol, .int (nI rn)], gI g ma 30 k1, gI g mb 30 k2, gI g mc 30 k3] := hD
    rcases hw_30 with ⟨rfl, b_30⟩ | ⟨rfl, b_30⟩
    · refine lv_if_eq (tgt := 46) hx hb dX9_mark_33 (by decide) (fun h => absurd h (by decide)) (fun _ => ?_)
      refine lv_iload_n hx hb dX9_mark_36 rfl (lv_at hl 3 rfl) ?_
      refine lv_iconst (v := 0) hx hb dX9_mark_37 (by decide) ?_
      refine lv_bipush (v := 60) hx hb dX9_mark_38 (by decide) ?_
      refine g_SI (wr := [gO mo 9 [.int 0, .ref zt, .int (nI tn), .int (nI sz), .ref zx, .ref zy, .ref zm, .ref zb, .int rt, .int w0, .int w1, .int w2, .int lg, .int nr, .int (nI yr), .ref va, .ref vb, .ref vc, .ref vd, .ref qa, .ref qb, .ref qc, .int (nI ln), .ref sa, .ref sb, .ref sc, .ref sd, .ref se, .int (nI pn), .ref ma, .ref mb, .ref mc, .ref rv, .int (nI mn), .int tol, .int (nI rn)], gI g ma 30 k1, gI g mb 30 k2, gI g mc 30 k3]) (As := [.int ye, .int 0, .int 60]) (rest := []) (n := 3) F (c_X9_isIn l g ye 0 60) gX9_mark_X9_isIn rfl (by decide) ⟨by decide, by decide⟩ rfl hl.1 rfl (Nat.le_of_ble_eq_true rfl) dX9_mark_40 ⟨Nat.le_of_ble_eq_true rfl, Nat.le_of_ble_eq_true rfl⟩ hK hP hD hS hA [] [0, 1, 2, 3] (by decide) rfl rfl (by decide) (by decide) (fun r_40 u_40 H locs hw_40 hP hD hS => ?_)
      have hP : gP g [gO mo 9 [.int 0, .ref zt, .int (nI tn), .int (nI sz), .ref zx, .ref zy, .ref zm, .ref zb, .int rt, .int w0, .int w1, .int w2, .int lg, .int nr, .int (nI yr), .ref va, .ref vb, .ref vc, .ref vd, .ref qa, .ref qb, .ref qc, .int (nI ln), .ref sa, .ref sb, .ref sc, .ref sd, .ref se, .int (nI pn), .ref ma, .ref mb, .ref mc, .ref rv, .int (nI mn), .int tol, .int (nI rn)], gI g ma 30 k1, gI g mb 30 k2, gI g mc 30 k3] H := hP
      have hD : va_D A [gO mo 9 [.int 0, .ref zt, .int (nI tn), .int (nI sz), .ref zx, .ref zy, .ref zm, .ref zb, .int rt, .int w0, .int w1, .int w2, .int lg, .int nr, .int (nI yr), .ref va, .ref vb, .ref vc, .ref vd, .ref qa, .ref qb, .ref qc, .int (nI ln), .ref sa, .ref sb, .ref sc, .ref sd, .ref se, .int (nI pn), .ref ma, .ref mb, .ref mc, .ref rv, .int (nI mn), .int tol, .int (nI rn)], gI g ma 30 k1, gI g mb 30 k2, gI g mc 30 k3] := hD
      rcases hw_40 with ⟨rfl, b_40⟩ | ⟨rfl, b_40⟩
      · refine lv_if_ne (tgt := 48) hx hb dX9_mark_43 (by decide) (fun _ => ?_) (fun h => absurd h (by decide))
        refine lv_aload_n hx hb dX9_mark_48 rfl (lv_at hl 0 rfl) ?_
        refine g_get (C := RX9) (T := TX9) (N := 36) F hK hP i_X9_mark_X9 0 rfl rfl 29 (by decide) k_X9_mark_f94 (v := .ref ma) rfl dX9_mark_49 ?_
        refine lv_aload_n hx hb dX9_mark_52 rfl (lv_at hl 0 rfl) ?_
        refine g_get (C := RX9) (T := TX9) (N := 36) F hK hP i_X9_mark_X9 0 rfl rfl 33 (by decide) k_X9_mark_f187 (v := .int (nI mn)) rfl dX9_mark_53 ?_
        refine lv_iload_n hx hb dX9_mark_56 rfl (lv_at hl 1 rfl) ?_
        refine g_iast (i := mn) (ws2 := [gO mo 9 [.int 0, .ref zt, .int (nI tn), .int (nI sz), .ref zx, .ref zy, .ref zm, .ref zb, .int rt, .int w0, .int w1, .int w2, .int lg, .int nr, .int (nI yr), .ref va, .ref vb, .ref vc, .ref vd, .ref qa, .ref qb, .ref qc, .int (nI ln), .ref sa, .ref sb, .ref sc, .ref sd, .ref se, .int (nI pn), .ref ma, .ref mb, .ref mc, .ref rv, .int (nI mn), .int tol, .int (nI rn)], gI g ma 30 (upd k1 mn x), gI g mb 30 k2, gI g mc 30 k3]) hx hb hK hP hD hS 1 rfl (by decide) (by omega) rfl dX9_mark_57 (fun H locs hP hD hS => ?_)
        refine lv_aload_n hx hb dX9_mark_58 rfl (lv_at hl 0 rfl) ?_
        refine g_get (C := RX9) (T := TX9) (N := 36) F hK hP i_X9_mark_X9 0 rfl rfl 30 (by decide) k_X9_mark_f97 (v := .ref mb) rfl dX9_mark_59 ?_
        refine lv_aload_n hx hb dX9_mark_62 rfl (lv_at hl 0 rfl) ?_
        refine g_get (C := RX9) (T := TX9) (N := 36) F hK hP i_X9_mark_X9 0 rfl rfl 33 (by decide) k_X9_mark_f187 (v := .int (nI mn)) rfl dX9_mark_63 ?_
        refine lv_iload_n hx hb dX9_mark_66 rfl (lv_at hl 2 rfl) ?_
        refine g_iast (i := mn) (ws2 := [gO mo 9 [.int 0, .ref zt, .int (nI tn), .int (nI sz), .ref zx, .ref zy, .ref zm, .ref zb, .int rt, .int w0, .int w1, .int w2, .int lg, .int nr, .int (nI yr), .ref va, .ref vb, .ref vc, .ref vd, .ref qa, .ref qb, .ref qc, .int (nI ln), .ref sa, .ref sb, .ref sc, .ref sd, .ref se, .int (nI pn), .ref ma, .ref mb, .ref mc, .ref rv, .int (nI mn), .int tol, .int (nI rn)], gI g ma 30 (upd k1 mn x), gI g mb 30 (upd k2 mn y), gI g mc 30 k3]) hx hb hK hP hD hS 2 rfl (by decide) (by omega) rfl dX9_mark_67 (fun H locs hP hD hS => ?_)
        refine lv_aload_n hx hb dX9_mark_68 rfl (lv_at hl 0 rfl) ?_
        refine g_get (C := RX9) (T := TX9) (N := 36) F hK hP i_X9_mark_X9 0 rfl rfl 31 (by decide) k_X9_mark_f100 (v := .ref mc) rfl dX9_mark_69 ?_
        refine lv_aload_n hx hb dX9_mark_72 rfl (lv_at hl 0 rfl) ?_
        refine g_get (C := RX9) (T := TX9) (N := 36) F hK hP i_X9_mark_X9 0 rfl rfl 33 (by decide) k_X9_mark_f187 (v := .int (nI mn)) rfl dX9_mark_73 ?_
        refine lv_iload_n hx hb dX9_mark_76 rfl (lv_at hl 3 rfl) ?_
        refine g_iast (i := mn) (ws2 := [gO mo 9 [.int 0, .ref zt, .int (nI tn), .int (nI sz), .ref zx, .ref zy, .ref zm, .ref zb, .int rt, .int w0, .int w1, .int w2, .int lg, .int nr, .int (nI yr), .ref va, .ref vb, .ref vc, .ref vd, .ref qa, .ref qb, .ref qc, .int (nI ln), .ref sa, .ref sb, .ref sc, .ref sd, .ref se, .int (nI pn), .ref ma, .ref mb, .ref mc, .ref rv, .int (nI mn), .int tol, .int (nI rn)], gI g ma 30 (upd k1 mn x), gI g mb 30 (upd k2 mn y), gI g mc 30 (upd k3 mn ye)]) hx hb hK hP hD hS 3 rfl (by decide) (by omega) rfl dX9_mark_77 (fun H locs hP hD hS => ?_)
        refine lv_aload_n hx hb dX9_mark_78 rfl (lv_at hl 0 rfl) ?_
        refine lv_dup hx hb dX9_mark_79 rfl ?_
        refine g_get (C := RX9) (T := TX9) (N := 36) F hK hP i_X9_mark_X9 0 rfl rfl 33 (by decide) k_X9_mark_f187 (v := .int (nI mn)) rfl dX9_mark_80 ?_
        refine lv_iconst (v := 1) hx hb dX9_mark_83 (by decide) ?_
        refine n_iadd (a := mn) (b := 1) (d := mn + 1) hx hb dX9_mark_84 (by omega) ?_
        refine g_put (C := RX9) (T := TX9) (N := 36) (ws2 := [gO mo 9 [.int 0, .ref zt, .int (nI tn), .int (nI sz), .ref zx, .ref zy, .ref zm, .ref zb, .int rt, .int w0, .int w1, .int w2, .int lg, .int nr, .int (nI yr), .ref va, .ref vb, .ref vc, .ref vd, .ref qa, .ref qb, .ref qc, .int (nI ln), .ref sa, .ref sb, .ref sc, .ref sd, .ref se, .int (nI pn), .ref ma, .ref mb, .ref mc, .ref rv, .int (nI (mn + 1)), .int tol, .int (nI rn)], gI g ma 30 (upd k1 mn x), gI g mb 30 (upd k2 mn y), gI g mc 30 (upd k3 mn ye)]) F hK hP hD hS i_X9_mark_X9 tyX9 tyX9_ok nmX9 0 rfl rfl 33 (by decide) k_X9_mark_f187 rfl (v := .int (nI (mn + 1))) rfl rfl (Nat.le_of_ble_eq_true rfl) rfl dX9_mark_85 (fun H locs hP hD hS => ?_)
        refine lv_aload_n hx hb dX9_mark_88 rfl (lv_at hl 0 rfl) ?_
        refine g_get (C := RX9) (T := TX9) (N := 36) F hK hP i_X9_mark_X9 0 rfl rfl 33 (by decide) k_X9_mark_f187 (v := .int (nI (mn + 1))) rfl dX9_mark_89 ?_
        refine lv_iconst (v := 1) hx hb dX9_mark_92 (by decide) ?_
        refine n_isub (a := mn + 1) (b := 1) (d := mn) hx hb dX9_mark_93 (by omega) (by omega) ?_
        exact hret _ _ _ _ (nI mn) () dX9_mark_94 rfl (rfl) hP hD hS
      · refine lv_if_ne (tgt := 48) hx hb dX9_mark_43 (by decide) (fun h => absurd (by decide) h) (fun _ => ?_)
        exact absurd h.2.2 b_40
    · refine lv_if_eq (tgt := 46) hx hb dX9_mark_33 (by decide) (fun _ => ?_) (fun h => absurd (by decide) h)
      exact absurd h.2.1 b_30
  · refine lv_if_eq (tgt := 46) hx hb dX9_mark_22 (by decide) (fun _ => ?_) (fun h => absurd (by decide) h)
    exact absurd h.1 b_19

abbrev rm_X9_marks : Room := { frames := 1, cells := 0, slots := 0, locals := 22 }
theorem i_X9_marks_X9 : ∀ w ∈ wsX90, w ∈ wsX9_marks := by decide +kernel
theorem k_X9_marks_f1 : Cond.fieldLink RX9 1 (TX9 0).1 (TX9 0).2.1 (TX9 0).2.2.1 ∈ wsX9_marks := by decide +kernel
set_option maxHeartbeats 4000000 in
set_option maxRecDepth 100000 in
theorem c_X9_marks_n (l : Launch) (g : gT) (mo : Nat) (th : Int32) (zt : Nat) (tn : Nat) (sz : Nat) (zx : Nat) (zy : Nat) (zm : Nat) (zb : Nat) (rt : Int32) (w0 : Int32) (w1 : Int32) (w2 : Int32) (lg : Int32) (nr : Int32) (yr : Nat) (va : Nat) (vb : Nat) (vc : Nat) (vd : Nat) (qa : Nat) (qb : Nat) (qc : Nat) (ln : Nat) (sa : Nat) (sb : Nat) (sc : Nat) (sd : Nat) (se : Nat) (pn : Nat) (ma : Nat) (mb : Nat) (mc : Nat) (rv : Nat) (mn : Nat) (tol : Int32) (rn : Nat) (v : Int32) (h : ¬ isW 0 50 v) : CtI l g yX9_marks wsX9_marks rm_X9_marks [.ref mo, .int v] [gO mo 9 [.int th, .ref zt, .int (nI tn), .int (nI sz), .ref zx, .ref zy, .ref zm, .ref zb, .int rt, .int w0, .int w1, .int w2, .int lg, .int nr, .int (nI yr), .ref va, .ref vb, .ref vc, .ref vd, .ref qa, .ref qb, .ref qc, .int (nI ln), .ref sa, .ref sb, .ref sc, .ref sd, .ref se, .int (nI pn), .ref ma, .ref mb, .ref mc, .ref rv, .int (nI mn), .int tol, .int (nI rn)]] (fun (r : Int32) (_ : Unit) => r = 0) (fun (_ : Unit) => [gO mo 9 [.int 0, .ref zt, .int (nI tn), .int (nI sz), .ref zx, .ref zy, .ref zm, .ref zb, .int rt, .int w0, .int w1, .int w2, .int lg, .int nr, .int (nI yr), .ref va, .ref vb, .ref vc, .ref vd, .ref qa, .ref qb, .ref qc, .int (nI ln), .ref sa, .ref sb, .ref sc, .ref sd, .ref se, .int (nI pn), .ref ma, .ref mb, .ref mc, .ref rv, .int (nI mn), .int tol, .int (nI rn)]]) := by
  refine CtI.of (cc := cX9_marks) (maxL := 2) (ret := .boolean) (by decide) rfl (Nat.le_of_ble_eq_true rfl) ?_
  intro p e s m args below meth c A Q hnm F hK hA hP hD hS hret ls hl
  have hx := F.1
  have hb := F.2.1
  have hl : lv_has ls 2 [(0, .ref mo), (1, .int v)] := hl
  refine lv_aload_n hx hb dX9_marks_0 rfl (lv_at hl 0 rfl) ?_
  refine lv_iconst (v := 0) hx hb dX9_marks_1 (by decide) ?_
  refine g_put (C := RX9) (T := TX9) (N := 36) (ws2 := [gO mo 9 [.int 0, .ref zt, .int (nI tn), .int (nI sz), .ref zx, .ref zy, .ref zm, .ref zb, .int rt, .int w0, .int w1, .int w2, .int lg, .int nr, .int (nI yr), .ref va, .ref vb, .ref vc, .ref vd, .ref qa, .ref qb, .ref qc, .int (nI ln), .ref sa, .ref sb, .ref sc, .ref sd, .ref se, .int (nI pn), .ref ma, .ref mb, .ref mc, .ref rv, .int (nI mn), .int tol, .int (nI rn)]]) F hK hP hD hS i_X9_marks_X9 tyX9 tyX9_ok nmX9 0 rfl rfl 0 (by decide) k_X9_marks_f1 rfl (v := .int 0) rfl rfl (Nat.le_of_ble_eq_true rfl) rfl dX9_marks_2 (fun H locs hP hD hS => ?_)
  refine lv_iload_n hx hb dX9_marks_5 rfl (lv_at hl 1 rfl) ?_
  refine lv_iconst (v := 0) hx hb dX9_marks_6 (by decide) ?_
  refine lv_bipush (v := 50) hx hb dX9_marks_7 (by decide) ?_
  refine g_SI (wr := [gO mo 9 [.int 0, .ref zt, .int (nI tn), .int (nI sz), .ref zx, .ref zy, .ref zm, .ref zb, .int rt, .int w0, .int w1, .int w2, .int lg, .int nr, .int (nI yr), .ref va, .ref vb, .ref vc, .ref vd, .ref qa, .ref qb, .ref qc, .int (nI ln), .ref sa, .ref sb, .ref sc, .ref sd, .ref se, .int (nI pn), .ref ma, .ref mb, .ref mc, .ref rv, .int (nI mn), .int tol, .int (nI rn)]]) (As := [.int v, .int 0, .int 50]) (rest := []) (n := 3) F (c_X9_isIn l g v 0 50) gX9_marks_X9_isIn rfl (by decide) ⟨by decide, by decide⟩ rfl hl.1 rfl (Nat.le_of_ble_eq_true rfl) dX9_marks_9 ⟨Nat.le_of_ble_eq_true rfl, Nat.le_of_ble_eq_true rfl⟩ hK hP hD hS hA [] [0] (by decide) rfl rfl (by decide) (by decide) (fun r_9 u_9 H locs hw_9 hP hD hS => ?_)
  have hP : gP g [gO mo 9 [.int 0, .ref zt, .int (nI tn), .int (nI sz), .ref zx, .ref zy, .ref zm, .ref zb, .int rt, .int w0, .int w1, .int w2, .int lg, .int nr, .int (nI yr), .ref va, .ref vb, .ref vc, .ref vd, .ref qa, .ref qb, .ref qc, .int (nI ln), .ref sa, .ref sb, .ref sc, .ref sd, .ref se, .int (nI pn), .ref ma, .ref mb, .ref mc, .ref rv, .int (nI mn), .int tol, .int (nI rn)]] H := hP
  have hD : va_D A [gO mo 9 [.int 0, .ref zt, .int (nI tn), .int (nI sz), .ref zx, .ref zy, .ref zm, .ref zb, .int rt, .int w0, .int w1, .int w2, .int lg, .int nr, .int (nI yr), .ref va, .ref vb, .ref vc, .ref vd, .ref qa, .ref qb, .ref qc, .int (nI ln), .ref sa, .ref sb, .ref sc, .ref sd, .ref se, .int (nI pn), .ref ma, .ref mb, .ref mc, .ref rv, .int (nI mn), .int tol, .int (nI rn)]] := hD
  rcases hw_9 with ⟨rfl, b_9⟩ | ⟨rfl, b_9⟩
  · exact absurd b_9 h
  · refine lv_if_ne (tgt := 17) hx hb dX9_marks_12 (by decide) (fun h => absurd (by decide) h) (fun _ => ?_)
    refine lv_iconst (v := 0) hx hb dX9_marks_15 (by decide) ?_
    exact hret _ _ _ _ 0 () dX9_marks_16 rfl (rfl) hP hD hS

theorem k_X9_marks_f187 : Cond.fieldLink RX9 187 (TX9 33).1 (TX9 33).2.1 (TX9 33).2.2.1 ∈ wsX9_marks := by decide +kernel
theorem k_X9_marks_f106 : Cond.fieldLink RX9 106 (TX9 34).1 (TX9 34).2.1 (TX9 34).2.2.1 ∈ wsX9_marks := by decide +kernel
set_option maxHeartbeats 4000000 in
set_option maxRecDepth 100000 in
theorem c_X9_marks_y (l : Launch) (g : gT) (mo : Nat) (th : Int32) (zt : Nat) (tn : Nat) (sz : Nat) (zx : Nat) (zy : Nat) (zm : Nat) (zb : Nat) (rt : Int32) (w0 : Int32) (w1 : Int32) (w2 : Int32) (lg : Int32) (nr : Int32) (yr : Nat) (va : Nat) (vb : Nat) (vc : Nat) (vd : Nat) (qa : Nat) (qb : Nat) (qc : Nat) (ln : Nat) (sa : Nat) (sb : Nat) (sc : Nat) (sd : Nat) (se : Nat) (pn : Nat) (ma : Nat) (mb : Nat) (mc : Nat) (rv : Nat) (mn : Nat) (tol : Int32) (rn : Nat) (v : Int32) (h : isW 0 50 v) : CtI l g yX9_marks wsX9_marks rm_X9_marks [.ref mo, .int v] [gO mo 9 [.int th, .ref zt, .int (nI tn), .int (nI sz), .ref zx, .ref zy, .ref zm, .ref zb, .int rt, .int w0, .int w1, .int w2, .int lg, .int nr, .int (nI yr), .ref va, .ref vb, .ref vc, .ref vd, .ref qa, .ref qb, .ref qc, .int (nI ln), .ref sa, .ref sb, .ref sc, .ref sd, .ref se, .int (nI pn), .ref ma, .ref mb, .ref mc, .ref rv, .int (nI mn), .int tol, .int (nI rn)]] (fun (r : Int32) (_ : Unit) => r = 1) (fun (_ : Unit) => [gO mo 9 [.int 0, .ref zt, .int (nI tn), .int (nI sz), .ref zx, .ref zy, .ref zm, .ref zb, .int rt, .int w0, .int w1, .int w2, .int lg, .int nr, .int (nI yr), .ref va, .ref vb, .ref vc, .ref vd, .ref qa, .ref qb, .ref qc, .int (nI ln), .ref sa, .ref sb, .ref sc, .ref sd, .ref se, .int (nI pn), .ref ma, .ref mb, .ref mc, .ref rv, .int 0, .int v, .int (nI rn)]]) := by
  refine CtI.of (cc := cX9_marks) (maxL := 2) (ret := .boolean) (by decide) rfl (Nat.le_of_ble_eq_true rfl) ?_
  intro p e s m args below meth c A Q hnm F hK hA hP hD hS hret ls hl
  have hx := F.1
  have hb := F.2.1
  have hl : lv_has ls 2 [(0, .ref mo), (1, .int v)] := hl
  refine lv_aload_n hx hb dX9_marks_0 rfl (lv_at hl 0 rfl) ?_
  refine lv_iconst (v := 0) hx hb dX9_marks_1 (by decide) ?_
  refine g_put (C := RX9) (T := TX9) (N := 36) (ws2 := [gO mo 9 [.int 0, .ref zt, .int (nI tn), .int (nI sz), .ref zx, .ref zy, .ref zm, .ref zb, .int rt, .int w0, .int w1, .int w2, .int lg, .int nr, .int (nI yr), .ref va, .ref vb, .ref vc, .ref vd, .ref qa, .ref qb, .ref qc, .int (nI ln), .ref sa, .ref sb, .ref sc, .ref sd, .ref se, .int (nI pn), .ref ma, .ref mb, .ref mc, .ref rv, .int (nI mn), .int tol, .int (nI rn)]]) F hK hP hD hS i_X9_marks_X9 tyX9 tyX9_ok nmX9 0 rfl rfl 0 (by decide) k_X9_marks_f1 rfl (v := .int 0) rfl rfl (Nat.le_of_ble_eq_true rfl) rfl dX9_marks_2 (fun H locs hP hD hS => ?_)
  refine lv_iload_n hx hb dX9_marks_5 rfl (lv_at hl 1 rfl) ?_
  refine lv_iconst (v := 0) hx hb dX9_marks_6 (by decide) ?_
  refine lv_bipush (v := 50) hx hb dX9_marks_7 (by decide) ?_
  refine g_SI (wr := [gO mo 9 [.int 0, .ref zt, .int (nI tn), .int (nI sz), .ref zx, .ref zy, .ref zm, .ref zb, .int rt, .int w0, .int w1, .int w2, .int lg, .int nr, .int (nI yr), .ref va, .ref vb, .ref vc, .ref vd, .ref qa, .ref qb, .ref qc, .int (nI ln), .ref sa, .ref sb, .ref sc, .ref sd, .ref se, .int (nI pn), .ref ma, .ref mb, .ref mc, .ref rv, .int (nI mn), .int tol, .int (nI rn)]]) (As := [.int v, .int 0, .int 50]) (rest := []) (n := 3) F (c_X9_isIn l g v 0 50) gX9_marks_X9_isIn rfl (by decide) ⟨by decide, by decide⟩ rfl hl.1 rfl (Nat.le_of_ble_eq_true rfl) dX9_marks_9 ⟨Nat.le_of_ble_eq_true rfl, Nat.le_of_ble_eq_true rfl⟩ hK hP hD hS hA [] [0] (by decide) rfl rfl (by decide) (by decide) (fun r_9 u_9 H locs hw_9 hP hD hS => ?_)
  have hP : gP g [gO mo 9 [.int 0, .ref zt, .int (nI tn), .int (nI sz), .ref zx, .ref zy, .ref zm, .ref zb, .int rt, .int w0, .int w1, .int w2, .int lg, .int nr, .int (nI yr), .ref va, .ref vb, .ref vc, .ref vd, .ref qa, .ref qb, .ref qc, .int (nI ln), .ref sa, .ref sb, .ref sc, .ref sd, .ref se, .int (nI pn), .ref ma, .ref mb, .ref mc, .ref rv, .int (nI mn), .int tol, .int (nI rn)]] H := hP
  have hD : va_D A [gO mo 9 [.int 0, .ref zt, .int (nI tn), .int (nI sz), .ref zx, .ref zy, .ref zm, .ref zb, .int rt, .int w0, .int w1, .int w2, .int lg, .int nr, .int (nI yr), .ref va, .ref vb, .ref vc, .ref vd, .ref qa, .ref qb, .ref qc, .int (nI ln), .ref sa, .ref sb, .ref sc, .ref sd, .ref se, .int (nI pn), .ref ma, .ref mb, .ref mc, .ref rv, .int (nI mn), .int tol, .int (nI rn)]] := hD
  rcases hw_9 with ⟨rfl, b_9⟩ | ⟨rfl, b_9⟩
  · refine lv_if_ne (tgt := 17) hx hb dX9_marks_12 (by decide) (fun _ => ?_) (fun h => absurd h (by decide))
    refine lv_aload_n hx hb dX9_marks_17 rfl (lv_at hl 0 rfl) ?_
    refine lv_iconst (v := 0) hx hb dX9_marks_18 (by decide) ?_
    refine g_put (C := RX9) (T := TX9) (N := 36) (ws2 := [gO mo 9 [.int 0, .ref zt, .int (nI tn), .int (nI sz), .ref zx, .ref zy, .ref zm, .ref zb, .int rt, .int w0, .int w1, .int w2, .int lg, .int nr, .int (nI yr), .ref va, .ref vb, .ref vc, .ref vd, .ref qa, .ref qb, .ref qc, .int (nI ln), .ref sa, .ref sb, .ref sc, .ref sd, .ref se, .int (nI pn), .ref ma, .ref mb, .ref mc, .ref rv, .int 0, .int tol, .int (nI rn)]]) F hK hP hD hS i_X9_marks_X9 tyX9 tyX9_ok nmX9 0 rfl rfl 33 (by decide) k_X9_marks_f187 rfl (v := .int 0) rfl rfl (Nat.le_of_ble_eq_true rfl) rfl dX9_marks_19 (fun H locs hP hD hS => ?_)
    refine lv_aload_n hx hb dX9_marks_22 rfl (lv_at hl 0 rfl) ?_
    refine lv_iload_n hx hb dX9_marks_23 rfl (lv_at hl 1 rfl) ?_
    refine g_put (C := RX9) (T := TX9) (N := 36) (ws2 := [gO mo 9 [.int 0, .ref zt, .int (nI tn), .int (nI sz), .ref zx, .ref zy, .ref zm, .ref zb, .int rt, .int w0, .int w1, .int w2, .int lg, .int nr, .int (nI yr), .ref va, .ref vb, .ref vc, .ref vd, .ref qa, .ref qb, .ref qc, .int (nI ln), .ref sa, .ref sb, .ref sc, .ref sd, .ref se, .int (nI pn), .ref ma, .ref mb, .ref mc, .ref rv, .int 0, .int v, .int (nI rn)]]) F hK hP hD hS i_X9_marks_X9 tyX9 tyX9_ok nmX9 0 rfl rfl 34 (by decide) k_X9_marks_f106 rfl (v := .int v) rfl rfl (Nat.le_of_ble_eq_true rfl) rfl dX9_marks_24 (fun H locs hP hD hS => ?_)
    refine lv_iconst (v := 1) hx hb dX9_marks_27 (by decide) ?_
    exact hret _ _ _ _ 1 () dX9_marks_28 rfl (rfl) hP hD hS
  · exact absurd h b_9

theorem rate_n {v : Int32} {n : Nat} (hn : n ≤ 20) (h : ¬ isW 0 (nI n - 1) v) (h0 : ¬ v < 0) : ¬ v < nI n := by
  intro z
  apply h
  refine ⟨h0, ?_⟩
  rw [Int32.lt_iff_toInt_lt] at z ⊢
  rw [nI_toInt (by omega)] at z
  rw [ti_sub (by rw [nI_toInt (by omega), show (1 : Int32).toInt = 1 from by decide]; omega) (by rw [nI_toInt (by omega), show (1 : Int32).toInt = 1 from by decide]; omega), nI_toInt (by omega), show (1 : Int32).toInt = 1 from by decide]
  omega
abbrev rm_X9_rate : Room := { frames := 0, cells := 0, slots := 0, locals := 0 }
theorem i_X9_rate_X9 : ∀ w ∈ wsX90, w ∈ wsX9_rate := by decide +kernel
theorem k_X9_rate_f1 : Cond.fieldLink RX9 1 (TX9 0).1 (TX9 0).2.1 (TX9 0).2.2.1 ∈ wsX9_rate := by decide +kernel
theorem k_X9_rate_f193 : Cond.fieldLink RX9 193 (TX9 35).1 (TX9 35).2.1 (TX9 35).2.2.1 ∈ wsX9_rate := by decide +kernel
set_option maxHeartbeats 4000000 in
set_option maxRecDepth 100000 in
theorem c_X9_rate_n (l : Launch) (g : gT) (mo : Nat) (th : Int32) (zt : Nat) (tn : Nat) (sz : Nat) (zx : Nat) (zy : Nat) (zm : Nat) (zb : Nat) (rt : Int32) (w0 : Int32) (w1 : Int32) (w2 : Int32) (lg : Int32) (nr : Int32) (yr : Nat) (va : Nat) (vb : Nat) (vc : Nat) (vd : Nat) (qa : Nat) (qb : Nat) (qc : Nat) (ln : Nat) (sa : Nat) (sb : Nat) (sc : Nat) (sd : Nat) (se : Nat) (pn : Nat) (ma : Nat) (mb : Nat) (mc : Nat) (rv : Nat) (mn : Nat) (tol : Int32) (rn : Nat) (v : Int32) (hrn : rn ≤ 20) (h : ¬ isW 0 (nI rn - 1) v) : CtI l g yX9_rate wsX9_rate rm_X9_rate [.ref mo, .int v] [gO mo 9 [.int th, .ref zt, .int (nI tn), .int (nI sz), .ref zx, .ref zy, .ref zm, .ref zb, .int rt, .int w0, .int w1, .int w2, .int lg, .int nr, .int (nI yr), .ref va, .ref vb, .ref vc, .ref vd, .ref qa, .ref qb, .ref qc, .int (nI ln), .ref sa, .ref sb, .ref sc, .ref sd, .ref se, .int (nI pn), .ref ma, .ref mb, .ref mc, .ref rv, .int (nI mn), .int tol, .int (nI rn)]] (fun (r : Int32) (_ : Unit) => r = -1) (fun (_ : Unit) => [gO mo 9 [.int 0, .ref zt, .int (nI tn), .int (nI sz), .ref zx, .ref zy, .ref zm, .ref zb, .int rt, .int w0, .int w1, .int w2, .int lg, .int nr, .int (nI yr), .ref va, .ref vb, .ref vc, .ref vd, .ref qa, .ref qb, .ref qc, .int (nI ln), .ref sa, .ref sb, .ref sc, .ref sd, .ref se, .int (nI pn), .ref ma, .ref mb, .ref mc, .ref rv, .int (nI mn), .int tol, .int (nI rn)]]) := by
  refine CtI.of (cc := cX9_rate) (maxL := 2) (ret := .int) (by decide) rfl (Nat.le_of_ble_eq_true rfl) ?_
  intro p e s m args below meth c A Q hnm F hK hA hP hD hS hret ls hl
  have hx := F.1
  have hb := F.2.1
  have hl : lv_has ls 2 [(0, .ref mo), (1, .int v)] := hl
  refine lv_aload_n hx hb dX9_rate_0 rfl (lv_at hl 0 rfl) ?_
  refine lv_iconst (v := 0) hx hb dX9_rate_1 (by decide) ?_
  refine g_put (C := RX9) (T := TX9) (N := 36) (ws2 := [gO mo 9 [.int 0, .ref zt, .int (nI tn), .int (nI sz), .ref zx, .ref zy, .ref zm, .ref zb, .int rt, .int w0, .int w1, .int w2, .int lg, .int nr, .int (nI yr), .ref va, .ref vb, .ref vc, .ref vd, .ref qa, .ref qb, .ref qc, .int (nI ln), .ref sa, .ref sb, .ref sc, .ref sd, .ref se, .int (nI pn), .ref ma, .ref mb, .ref mc, .ref rv, .int (nI mn), .int tol, .int (nI rn)]]) F hK hP hD hS i_X9_rate_X9 tyX9 tyX9_ok nmX9 0 rfl rfl 0 (by decide) k_X9_rate_f1 rfl (v := .int 0) rfl rfl (Nat.le_of_ble_eq_true rfl) rfl dX9_rate_2 (fun H locs hP hD hS => ?_)
  refine lv_iload_n hx hb dX9_rate_5 rfl (lv_at hl 1 rfl) ?_
  refine lv_if_lt (tgt := 17) hx hb dX9_rate_6 (by decide) (fun c_6 => ?_) (fun c_6 => ?_)
  · refine lv_iconst (v := (-1)) hx hb dX9_rate_17 (by decide) ?_
    refine lv_goto (tgt := 27) hx hb dX9_rate_18 (by decide) ?_
    exact hret _ _ _ _ (-1) () dX9_rate_27 rfl (rfl) hP hD hS
  · refine lv_iload_n hx hb dX9_rate_9 rfl (lv_at hl 1 rfl) ?_
    refine lv_aload_n hx hb dX9_rate_10 rfl (lv_at hl 0 rfl) ?_
    refine g_get (C := RX9) (T := TX9) (N := 36) F hK hP i_X9_rate_X9 0 rfl rfl 35 (by decide) k_X9_rate_f193 (v := .int (nI rn)) rfl dX9_rate_11 ?_
    refine lv_icmp_lt (tgt := 21) hx hb dX9_rate_14 (by decide) (fun h => absurd h (rate_n hrn ‹¬ isW 0 (nI rn - 1) v› c_6)) (fun c_14 => ?_)
    refine lv_iconst (v := (-1)) hx hb dX9_rate_17 (by decide) ?_
    refine lv_goto (tgt := 27) hx hb dX9_rate_18 (by decide) ?_
    exact hret _ _ _ _ (-1) () dX9_rate_27 rfl (rfl) hP hD hS

theorem k_X9_rate_f103 : Cond.fieldLink RX9 103 (TX9 32).1 (TX9 32).2.1 (TX9 32).2.2.1 ∈ wsX9_rate := by decide +kernel
set_option maxHeartbeats 4000000 in
set_option maxRecDepth 100000 in
theorem c_X9_rate_y (l : Launch) (g : gT) (mo : Nat) (th : Int32) (zt : Nat) (tn : Nat) (sz : Nat) (zx : Nat) (zy : Nat) (zm : Nat) (zb : Nat) (rt : Int32) (w0 : Int32) (w1 : Int32) (w2 : Int32) (lg : Int32) (nr : Int32) (yr : Nat) (va : Nat) (vb : Nat) (vc : Nat) (vd : Nat) (qa : Nat) (qb : Nat) (qc : Nat) (ln : Nat) (sa : Nat) (sb : Nat) (sc : Nat) (sd : Nat) (se : Nat) (pn : Nat) (ma : Nat) (mb : Nat) (mc : Nat) (rv : Nat) (mn : Nat) (tol : Int32) (rn : Nat) (r1 : Nat → Int32) (j : Nat) (hrn : rn ≤ 20) (h : j < rn) : CtI l g yX9_rate wsX9_rate rm_X9_rate [.ref mo, .int (nI j)] [gO mo 9 [.int th, .ref zt, .int (nI tn), .int (nI sz), .ref zx, .ref zy, .ref zm, .ref zb, .int rt, .int w0, .int w1, .int w2, .int lg, .int nr, .int (nI yr), .ref va, .ref vb, .ref vc, .ref vd, .ref qa, .ref qb, .ref qc, .int (nI ln), .ref sa, .ref sb, .ref sc, .ref sd, .ref se, .int (nI pn), .ref ma, .ref mb, .ref mc, .ref rv, .int (nI mn), .int tol, .int (nI rn)], gI g rv 20 r1] (fun (r : Int32) (_ : Unit) => r = r1 j) (fun (_ : Unit) => [gO mo 9 [.int 0, .ref zt, .int (nI tn), .int (nI sz), .ref zx, .ref zy, .ref zm, .ref zb, .int rt, .int w0, .int w1, .int w2, .int lg, .int nr, .int (nI yr), .ref va, .ref vb, .ref vc, .ref vd, .ref qa, .ref qb, .ref qc, .int (nI ln), .ref sa, .ref sb, .ref sc, .ref sd, .ref se, .int (nI pn), .ref ma, .ref mb, .ref mc, .ref rv, .int (nI mn), .int tol, .int (nI rn)], gI g rv 20 r1]) := by
  refine CtI.of (cc := cX9_rate) (maxL := 2) (ret := .int) (by decide) rfl (Nat.le_of_ble_eq_true rfl) ?_
  intro p e s m args below meth c A Q hnm F hK hA hP hD hS hret ls hl
  have hx := F.1
  have hb := F.2.1
  have hl : lv_has ls 2 [(0, .ref mo), (1, .int (nI j))] := hl
  refine lv_aload_n hx hb dX9_rate_0 rfl (lv_at hl 0 rfl) ?_
  refine lv_iconst (v := 0) hx hb dX9_rate_1 (by decide) ?_
  refine g_put (C := RX9) (T := TX9) (N := 36) (ws2 := [gO mo 9 [.int 0, .ref zt, .int (nI tn), .int (nI sz), .ref zx, .ref zy, .ref zm, .ref zb, .int rt, .int w0, .int w1, .int w2, .int lg, .int nr, .int (nI yr), .ref va, .ref vb, .ref vc, .ref vd, .ref qa, .ref qb, .ref qc, .int (nI ln), .ref sa, .ref sb, .ref sc, .ref sd, .ref se, .int (nI pn), .ref ma, .ref mb, .ref mc, .ref rv, .int (nI mn), .int tol, .int (nI rn)], gI g rv 20 r1]) F hK hP hD hS i_X9_rate_X9 tyX9 tyX9_ok nmX9 0 rfl rfl 0 (by decide) k_X9_rate_f1 rfl (v := .int 0) rfl rfl (Nat.le_of_ble_eq_true rfl) rfl dX9_rate_2 (fun H locs hP hD hS => ?_)
  refine lv_iload_n hx hb dX9_rate_5 rfl (lv_at hl 1 rfl) ?_
  refine n_if_lt (a := j) (tgt := 17) hx hb dX9_rate_6 (by decide) (by omega) (fun h => absurd h (by omega)) (fun c_6 => ?_)
  refine lv_iload_n hx hb dX9_rate_9 rfl (lv_at hl 1 rfl) ?_
  refine lv_aload_n hx hb dX9_rate_10 rfl (lv_at hl 0 rfl) ?_
  refine g_get (C := RX9) (T := TX9) (N := 36) F hK hP i_X9_rate_X9 0 rfl rfl 35 (by decide) k_X9_rate_f193 (v := .int (nI rn)) rfl dX9_rate_11 ?_
  refine n_icmp_lt (a := j) (b := rn) (tgt := 21) hx hb dX9_rate_14 (by decide) (by omega) (by omega) (fun c_14 => ?_) (fun h => absurd h (by omega))
  refine lv_aload_n hx hb dX9_rate_21 rfl (lv_at hl 0 rfl) ?_
  refine g_get (C := RX9) (T := TX9) (N := 36) F hK hP i_X9_rate_X9 0 rfl rfl 32 (by decide) k_X9_rate_f103 (v := .ref rv) rfl dX9_rate_22 ?_
  refine lv_iload_n hx hb dX9_rate_25 rfl (lv_at hl 1 rfl) ?_
  refine g_iald (i := j) (v := (r1 j)) hx hb hK hP 1 rfl (by decide) (by omega) (rfl) dX9_rate_26 ?_
  exact hret _ _ _ _ (r1 j) () dX9_rate_27 rfl (rfl) hP hD hS

abbrev rm_X9_count : Room := { frames := 1, cells := 0, slots := 0, locals := 20 }
theorem i_X9_count_X9 : ∀ w ∈ wsX90, w ∈ wsX9_count := by decide +kernel
theorem k_X9_count_f1 : Cond.fieldLink RX9 1 (TX9 0).1 (TX9 0).2.1 (TX9 0).2.2.1 ∈ wsX9_count := by decide +kernel
set_option maxHeartbeats 4000000 in
set_option maxRecDepth 100000 in
theorem c_X9_count_n (l : Launch) (g : gT) (mo : Nat) (th : Int32) (zt : Nat) (tn : Nat) (sz : Nat) (zx : Nat) (zy : Nat) (zm : Nat) (zb : Nat) (rt : Int32) (w0 : Int32) (w1 : Int32) (w2 : Int32) (lg : Int32) (nr : Int32) (yr : Nat) (va : Nat) (vb : Nat) (vc : Nat) (vd : Nat) (qa : Nat) (qb : Nat) (qc : Nat) (ln : Nat) (sa : Nat) (sb : Nat) (sc : Nat) (sd : Nat) (se : Nat) (pn : Nat) (ma : Nat) (mb : Nat) (mc : Nat) (rv : Nat) (mn : Nat) (tol : Int32) (rn : Nat) (v : Int32) (h : v.toInt < 0 ∨ 6 < v.toInt) : CtI l g yX9_count wsX9_count rm_X9_count [.ref mo, .int v] [gO mo 9 [.int th, .ref zt, .int (nI tn), .int (nI sz), .ref zx, .ref zy, .ref zm, .ref zb, .int rt, .int w0, .int w1, .int w2, .int lg, .int nr, .int (nI yr), .ref va, .ref vb, .ref vc, .ref vd, .ref qa, .ref qb, .ref qc, .int (nI ln), .ref sa, .ref sb, .ref sc, .ref sd, .ref se, .int (nI pn), .ref ma, .ref mb, .ref mc, .ref rv, .int (nI mn), .int tol, .int (nI rn)]] (fun (r : Int32) (_ : Unit) => r = -1) (fun (_ : Unit) => [gO mo 9 [.int 0, .ref zt, .int (nI tn), .int (nI sz), .ref zx, .ref zy, .ref zm, .ref zb, .int rt, .int w0, .int w1, .int w2, .int lg, .int nr, .int (nI yr), .ref va, .ref vb, .ref vc, .ref vd, .ref qa, .ref qb, .ref qc, .int (nI ln), .ref sa, .ref sb, .ref sc, .ref sd, .ref se, .int (nI pn), .ref ma, .ref mb, .ref mc, .ref rv, .int (nI mn), .int tol, .int (nI rn)]]) := by
  refine CtI.of (cc := cX9_count) (maxL := 4) (ret := .int) (by decide) rfl (Nat.le_of_ble_eq_true rfl) ?_
  intro p e s m args below meth c A Q hnm F hK hA hP hD hS hret ls hl
  have hx := F.1
  have hb := F.2.1
  have hl : lv_has ls 4 [(0, .ref mo), (1, .int v)] := hl
  refine lv_aload_n hx hb dX9_count_0 rfl (lv_at hl 0 rfl) ?_
  refine lv_iconst (v := 0) hx hb dX9_count_1 (by decide) ?_
  refine g_put (C := RX9) (T := TX9) (N := 36) (ws2 := [gO mo 9 [.int 0, .ref zt, .int (nI tn), .int (nI sz), .ref zx, .ref zy, .ref zm, .ref zb, .int rt, .int w0, .int w1, .int w2, .int lg, .int nr, .int (nI yr), .ref va, .ref vb, .ref vc, .ref vd, .ref qa, .ref qb, .ref qc, .int (nI ln), .ref sa, .ref sb, .ref sc, .ref sd, .ref se, .int (nI pn), .ref ma, .ref mb, .ref mc, .ref rv, .int (nI mn), .int tol, .int (nI rn)]]) F hK hP hD hS i_X9_count_X9 tyX9 tyX9_ok nmX9 0 rfl rfl 0 (by decide) k_X9_count_f1 rfl (v := .int 0) rfl rfl (Nat.le_of_ble_eq_true rfl) rfl dX9_count_2 (fun H locs hP hD hS => ?_)
  refine lv_iconst (v := 0) hx hb dX9_count_5 (by decide) ?_
  refine lv_istore_n (lv' := [(2, .int 0), (0, .ref mo), (1, .int v)]) hx hb dX9_count_6 rfl hl (by decide) rfl (fun ls hl => ?_)
  refine lv_iload_n hx hb dX9_count_7 rfl (lv_at hl 2 rfl) ?_
  refine lv_tableOut (tgt := 144) hx hb dX9_count_8 (h) (by decide) ?_
  refine lv_iconst (v := (-1)) hx hb dX9_count_144 (by decide) ?_
  exact hret _ _ _ _ (-1) () dX9_count_145 rfl (rfl) hP hD hS

theorem k_X9_count_f120 : Cond.fieldLink RX9 120 (TX9 14).1 (TX9 14).2.1 (TX9 14).2.2.1 ∈ wsX9_count := by decide +kernel
set_option maxHeartbeats 4000000 in
set_option maxRecDepth 100000 in
theorem c_X9_count_0 (l : Launch) (g : gT) (mo : Nat) (th : Int32) (zt : Nat) (tn : Nat) (sz : Nat) (zx : Nat) (zy : Nat) (zm : Nat) (zb : Nat) (rt : Int32) (w0 : Int32) (w1 : Int32) (w2 : Int32) (lg : Int32) (nr : Int32) (yr : Nat) (va : Nat) (vb : Nat) (vc : Nat) (vd : Nat) (qa : Nat) (qb : Nat) (qc : Nat) (ln : Nat) (sa : Nat) (sb : Nat) (sc : Nat) (sd : Nat) (se : Nat) (pn : Nat) (ma : Nat) (mb : Nat) (mc : Nat) (rv : Nat) (mn : Nat) (tol : Int32) (rn : Nat)  : CtI l g yX9_count wsX9_count rm_X9_count [.ref mo, .int 0] [gO mo 9 [.int th, .ref zt, .int (nI tn), .int (nI sz), .ref zx, .ref zy, .ref zm, .ref zb, .int rt, .int w0, .int w1, .int w2, .int lg, .int nr, .int (nI yr), .ref va, .ref vb, .ref vc, .ref vd, .ref qa, .ref qb, .ref qc, .int (nI ln), .ref sa, .ref sb, .ref sc, .ref sd, .ref se, .int (nI pn), .ref ma, .ref mb, .ref mc, .ref rv, .int (nI mn), .int tol, .int (nI rn)]] (fun (r : Int32) (_ : Unit) => r = nI yr) (fun (_ : Unit) => [gO mo 9 [.int 0, .ref zt, .int (nI tn), .int (nI sz), .ref zx, .ref zy, .ref zm, .ref zb, .int rt, .int w0, .int w1, .int w2, .int lg, .int nr, .int (nI yr), .ref va, .ref vb, .ref vc, .ref vd, .ref qa, .ref qb, .ref qc, .int (nI ln), .ref sa, .ref sb, .ref sc, .ref sd, .ref se, .int (nI pn), .ref ma, .ref mb, .ref mc, .ref rv, .int (nI mn), .int tol, .int (nI rn)]]) := by
  refine CtI.of (cc := cX9_count) (maxL := 4) (ret := .int) (by decide) rfl (Nat.le_of_ble_eq_true rfl) ?_
  intro p e s m args below meth c A Q hnm F hK hA hP hD hS hret ls hl
  have hx := F.1
  have hb := F.2.1
  have hl : lv_has ls 4 [(0, .ref mo), (1, .int 0)] := hl
  refine lv_aload_n hx hb dX9_count_0 rfl (lv_at hl 0 rfl) ?_
  refine lv_iconst (v := 0) hx hb dX9_count_1 (by decide) ?_
  refine g_put (C := RX9) (T := TX9) (N := 36) (ws2 := [gO mo 9 [.int 0, .ref zt, .int (nI tn), .int (nI sz), .ref zx, .ref zy, .ref zm, .ref zb, .int rt, .int w0, .int w1, .int w2, .int lg, .int nr, .int (nI yr), .ref va, .ref vb, .ref vc, .ref vd, .ref qa, .ref qb, .ref qc, .int (nI ln), .ref sa, .ref sb, .ref sc, .ref sd, .ref se, .int (nI pn), .ref ma, .ref mb, .ref mc, .ref rv, .int (nI mn), .int tol, .int (nI rn)]]) F hK hP hD hS i_X9_count_X9 tyX9 tyX9_ok nmX9 0 rfl rfl 0 (by decide) k_X9_count_f1 rfl (v := .int 0) rfl rfl (Nat.le_of_ble_eq_true rfl) rfl dX9_count_2 (fun H locs hP hD hS => ?_)
  refine lv_iconst (v := 0) hx hb dX9_count_5 (by decide) ?_
  refine lv_istore_n (lv' := [(2, .int 0), (0, .ref mo), (1, .int 0)]) hx hb dX9_count_6 rfl hl (by decide) rfl (fun ls hl => ?_)
  refine lv_iload_n hx hb dX9_count_7 rfl (lv_at hl 2 rfl) ?_
  refine lv_tableIn (tgt := 52) hx hb dX9_count_8 (by decide) (by decide) rfl (by decide) ?_
  refine lv_aload_n hx hb dX9_count_52 rfl (lv_at hl 1 rfl) ?_
  refine g_get (C := RX9) (T := TX9) (N := 36) F hK hP i_X9_count_X9 0 rfl rfl 14 (by decide) k_X9_count_f120 (v := .int (nI yr)) rfl dX9_count_53 ?_
  exact hret _ _ _ _ (nI yr) () dX9_count_56 rfl (rfl) hP hD hS

theorem k_X9_count_f123 : Cond.fieldLink RX9 123 (TX9 22).1 (TX9 22).2.1 (TX9 22).2.2.1 ∈ wsX9_count := by decide +kernel
set_option maxHeartbeats 4000000 in
set_option maxRecDepth 100000 in
theorem c_X9_count_2 (l : Launch) (g : gT) (mo : Nat) (th : Int32) (zt : Nat) (tn : Nat) (sz : Nat) (zx : Nat) (zy : Nat) (zm : Nat) (zb : Nat) (rt : Int32) (w0 : Int32) (w1 : Int32) (w2 : Int32) (lg : Int32) (nr : Int32) (yr : Nat) (va : Nat) (vb : Nat) (vc : Nat) (vd : Nat) (qa : Nat) (qb : Nat) (qc : Nat) (ln : Nat) (sa : Nat) (sb : Nat) (sc : Nat) (sd : Nat) (se : Nat) (pn : Nat) (ma : Nat) (mb : Nat) (mc : Nat) (rv : Nat) (mn : Nat) (tol : Int32) (rn : Nat)  : CtI l g yX9_count wsX9_count rm_X9_count [.ref mo, .int 2] [gO mo 9 [.int th, .ref zt, .int (nI tn), .int (nI sz), .ref zx, .ref zy, .ref zm, .ref zb, .int rt, .int w0, .int w1, .int w2, .int lg, .int nr, .int (nI yr), .ref va, .ref vb, .ref vc, .ref vd, .ref qa, .ref qb, .ref qc, .int (nI ln), .ref sa, .ref sb, .ref sc, .ref sd, .ref se, .int (nI pn), .ref ma, .ref mb, .ref mc, .ref rv, .int (nI mn), .int tol, .int (nI rn)]] (fun (r : Int32) (_ : Unit) => r = nI ln) (fun (_ : Unit) => [gO mo 9 [.int 0, .ref zt, .int (nI tn), .int (nI sz), .ref zx, .ref zy, .ref zm, .ref zb, .int rt, .int w0, .int w1, .int w2, .int lg, .int nr, .int (nI yr), .ref va, .ref vb, .ref vc, .ref vd, .ref qa, .ref qb, .ref qc, .int (nI ln), .ref sa, .ref sb, .ref sc, .ref sd, .ref se, .int (nI pn), .ref ma, .ref mb, .ref mc, .ref rv, .int (nI mn), .int tol, .int (nI rn)]]) := by
  refine CtI.of (cc := cX9_count) (maxL := 4) (ret := .int) (by decide) rfl (Nat.le_of_ble_eq_true rfl) ?_
  intro p e s m args below meth c A Q hnm F hK hA hP hD hS hret ls hl
  have hx := F.1
  have hb := F.2.1
  have hl : lv_has ls 4 [(0, .ref mo), (1, .int 2)] := hl
  refine lv_aload_n hx hb dX9_count_0 rfl (lv_at hl 0 rfl) ?_
  refine lv_iconst (v := 0) hx hb dX9_count_1 (by decide) ?_
  refine g_put (C := RX9) (T := TX9) (N := 36) (ws2 := [gO mo 9 [.int 0, .ref zt, .int (nI tn), .int (nI sz), .ref zx, .ref zy, .ref zm, .ref zb, .int rt, .int w0, .int w1, .int w2, .int lg, .int nr, .int (nI yr), .ref va, .ref vb, .ref vc, .ref vd, .ref qa, .ref qb, .ref qc, .int (nI ln), .ref sa, .ref sb, .ref sc, .ref sd, .ref se, .int (nI pn), .ref ma, .ref mb, .ref mc, .ref rv, .int (nI mn), .int tol, .int (nI rn)]]) F hK hP hD hS i_X9_count_X9 tyX9 tyX9_ok nmX9 0 rfl rfl 0 (by decide) k_X9_count_f1 rfl (v := .int 0) rfl rfl (Nat.le_of_ble_eq_true rfl) rfl dX9_count_2 (fun H locs hP hD hS => ?_)
  refine lv_iconst (v := 0) hx hb dX9_count_5 (by decide) ?_
  refine lv_istore_n (lv' := [(2, .int 0), (0, .ref mo), (1, .int 2)]) hx hb dX9_count_6 rfl hl (by decide) rfl (fun ls hl => ?_)
  refine lv_iload_n hx hb dX9_count_7 rfl (lv_at hl 2 rfl) ?_
  refine lv_tableIn (tgt := 64) hx hb dX9_count_8 (by decide) (by decide) rfl (by decide) ?_
  refine lv_aload_n hx hb dX9_count_64 rfl (lv_at hl 1 rfl) ?_
  refine g_get (C := RX9) (T := TX9) (N := 36) F hK hP i_X9_count_X9 0 rfl rfl 22 (by decide) k_X9_count_f123 (v := .int (nI ln)) rfl dX9_count_65 ?_
  exact hret _ _ _ _ (nI ln) () dX9_count_68 rfl (rfl) hP hD hS

theorem k_X9_count_f126 : Cond.fieldLink RX9 126 (TX9 28).1 (TX9 28).2.1 (TX9 28).2.2.1 ∈ wsX9_count := by decide +kernel
set_option maxHeartbeats 4000000 in
set_option maxRecDepth 100000 in
theorem c_X9_count_3 (l : Launch) (g : gT) (mo : Nat) (th : Int32) (zt : Nat) (tn : Nat) (sz : Nat) (zx : Nat) (zy : Nat) (zm : Nat) (zb : Nat) (rt : Int32) (w0 : Int32) (w1 : Int32) (w2 : Int32) (lg : Int32) (nr : Int32) (yr : Nat) (va : Nat) (vb : Nat) (vc : Nat) (vd : Nat) (qa : Nat) (qb : Nat) (qc : Nat) (ln : Nat) (sa : Nat) (sb : Nat) (sc : Nat) (sd : Nat) (se : Nat) (pn : Nat) (ma : Nat) (mb : Nat) (mc : Nat) (rv : Nat) (mn : Nat) (tol : Int32) (rn : Nat)  : CtI l g yX9_count wsX9_count rm_X9_count [.ref mo, .int 3] [gO mo 9 [.int th, .ref zt, .int (nI tn), .int (nI sz), .ref zx, .ref zy, .ref zm, .ref zb, .int rt, .int w0, .int w1, .int w2, .int lg, .int nr, .int (nI yr), .ref va, .ref vb, .ref vc, .ref vd, .ref qa, .ref qb, .ref qc, .int (nI ln), .ref sa, .ref sb, .ref sc, .ref sd, .ref se, .int (nI pn), .ref ma, .ref mb, .ref mc, .ref rv, .int (nI mn), .int tol, .int (nI rn)]] (fun (r : Int32) (_ : Unit) => r = nI pn) (fun (_ : Unit) => [gO mo 9 [.int 0, .ref zt, .int (nI tn), .int (nI sz), .ref zx, .ref zy, .ref zm, .ref zb, .int rt, .int w0, .int w1, .int w2, .int lg, .int nr, .int (nI yr), .ref va, .ref vb, .ref vc, .ref vd, .ref qa, .ref qb, .ref qc, .int (nI ln), .ref sa, .ref sb, .ref sc, .ref sd, .ref se, .int (nI pn), .ref ma, .ref mb, .ref mc, .ref rv, .int (nI mn), .int tol, .int (nI rn)]]) := by
  refine CtI.of (cc := cX9_count) (maxL := 4) (ret := .int) (by decide) rfl (Nat.le_of_ble_eq_true rfl) ?_
  intro p e s m args below meth c A Q hnm F hK hA hP hD hS hret ls hl
  have hx := F.1
  have hb := F.2.1
  have hl : lv_has ls 4 [(0, .ref mo), (1, .int 3)] := hl
  refine lv_aload_n hx hb dX9_count_0 rfl (lv_at hl 0 rfl) ?_
  refine lv_iconst (v := 0) hx hb dX9_count_1 (by decide) ?_
  refine g_put (C := RX9) (T := TX9) (N := 36) (ws2 := [gO mo 9 [.int 0, .ref zt, .int (nI tn), .int (nI sz), .ref zx, .ref zy, .ref zm, .ref zb, .int rt, .int w0, .int w1, .int w2, .int lg, .int nr, .int (nI yr), .ref va, .ref vb, .ref vc, .ref vd, .ref qa, .ref qb, .ref qc, .int (nI ln), .ref sa, .ref sb, .ref sc, .ref sd, .ref se, .int (nI pn), .ref ma, .ref mb, .ref mc, .ref rv, .int (nI mn), .int tol, .int (nI rn)]]) F hK hP hD hS i_X9_count_X9 tyX9 tyX9_ok nmX9 0 rfl rfl 0 (by decide) k_X9_count_f1 rfl (v := .int 0) rfl rfl (Nat.le_of_ble_eq_true rfl) rfl dX9_count_2 (fun H locs hP hD hS => ?_)
  refine lv_iconst (v := 0) hx hb dX9_count_5 (by decide) ?_
  refine lv_istore_n (lv' := [(2, .int 0), (0, .ref mo), (1, .int 3)]) hx hb dX9_count_6 rfl hl (by decide) rfl (fun ls hl => ?_)
  refine lv_iload_n hx hb dX9_count_7 rfl (lv_at hl 2 rfl) ?_
  refine lv_tableIn (tgt := 69) hx hb dX9_count_8 (by decide) (by decide) rfl (by decide) ?_
  refine lv_aload_n hx hb dX9_count_69 rfl (lv_at hl 1 rfl) ?_
  refine g_get (C := RX9) (T := TX9) (N := 36) F hK hP i_X9_count_X9 0 rfl rfl 28 (by decide) k_X9_count_f126 (v := .int (nI pn)) rfl dX9_count_70 ?_
  exact hret _ _ _ _ (nI pn) () dX9_count_73 rfl (rfl) hP hD hS

theorem k_X9_count_f187 : Cond.fieldLink RX9 187 (TX9 33).1 (TX9 33).2.1 (TX9 33).2.2.1 ∈ wsX9_count := by decide +kernel
set_option maxHeartbeats 4000000 in
set_option maxRecDepth 100000 in
theorem c_X9_count_4 (l : Launch) (g : gT) (mo : Nat) (th : Int32) (zt : Nat) (tn : Nat) (sz : Nat) (zx : Nat) (zy : Nat) (zm : Nat) (zb : Nat) (rt : Int32) (w0 : Int32) (w1 : Int32) (w2 : Int32) (lg : Int32) (nr : Int32) (yr : Nat) (va : Nat) (vb : Nat) (vc : Nat) (vd : Nat) (qa : Nat) (qb : Nat) (qc : Nat) (ln : Nat) (sa : Nat) (sb : Nat) (sc : Nat) (sd : Nat) (se : Nat) (pn : Nat) (ma : Nat) (mb : Nat) (mc : Nat) (rv : Nat) (mn : Nat) (tol : Int32) (rn : Nat)  : CtI l g yX9_count wsX9_count rm_X9_count [.ref mo, .int 4] [gO mo 9 [.int th, .ref zt, .int (nI tn), .int (nI sz), .ref zx, .ref zy, .ref zm, .ref zb, .int rt, .int w0, .int w1, .int w2, .int lg, .int nr, .int (nI yr), .ref va, .ref vb, .ref vc, .ref vd, .ref qa, .ref qb, .ref qc, .int (nI ln), .ref sa, .ref sb, .ref sc, .ref sd, .ref se, .int (nI pn), .ref ma, .ref mb, .ref mc, .ref rv, .int (nI mn), .int tol, .int (nI rn)]] (fun (r : Int32) (_ : Unit) => r = nI mn) (fun (_ : Unit) => [gO mo 9 [.int 0, .ref zt, .int (nI tn), .int (nI sz), .ref zx, .ref zy, .ref zm, .ref zb, .int rt, .int w0, .int w1, .int w2, .int lg, .int nr, .int (nI yr), .ref va, .ref vb, .ref vc, .ref vd, .ref qa, .ref qb, .ref qc, .int (nI ln), .ref sa, .ref sb, .ref sc, .ref sd, .ref se, .int (nI pn), .ref ma, .ref mb, .ref mc, .ref rv, .int (nI mn), .int tol, .int (nI rn)]]) := by
  refine CtI.of (cc := cX9_count) (maxL := 4) (ret := .int) (by decide) rfl (Nat.le_of_ble_eq_true rfl) ?_
  intro p e s m args below meth c A Q hnm F hK hA hP hD hS hret ls hl
  have hx := F.1
  have hb := F.2.1
  have hl : lv_has ls 4 [(0, .ref mo), (1, .int 4)] := hl
  refine lv_aload_n hx hb dX9_count_0 rfl (lv_at hl 0 rfl) ?_
  refine lv_iconst (v := 0) hx hb dX9_count_1 (by decide) ?_
  refine g_put (C := RX9) (T := TX9) (N := 36) (ws2 := [gO mo 9 [.int 0, .ref zt, .int (nI tn), .int (nI sz), .ref zx, .ref zy, .ref zm, .ref zb, .int rt, .int w0, .int w1, .int w2, .int lg, .int nr, .int (nI yr), .ref va, .ref vb, .ref vc, .ref vd, .ref qa, .ref qb, .ref qc, .int (nI ln), .ref sa, .ref sb, .ref sc, .ref sd, .ref se, .int (nI pn), .ref ma, .ref mb, .ref mc, .ref rv, .int (nI mn), .int tol, .int (nI rn)]]) F hK hP hD hS i_X9_count_X9 tyX9 tyX9_ok nmX9 0 rfl rfl 0 (by decide) k_X9_count_f1 rfl (v := .int 0) rfl rfl (Nat.le_of_ble_eq_true rfl) rfl dX9_count_2 (fun H locs hP hD hS => ?_)
  refine lv_iconst (v := 0) hx hb dX9_count_5 (by decide) ?_
  refine lv_istore_n (lv' := [(2, .int 0), (0, .ref mo), (1, .int 4)]) hx hb dX9_count_6 rfl hl (by decide) rfl (fun ls hl => ?_)
  refine lv_iload_n hx hb dX9_count_7 rfl (lv_at hl 2 rfl) ?_
  refine lv_tableIn (tgt := 74) hx hb dX9_count_8 (by decide) (by decide) rfl (by decide) ?_
  refine lv_aload_n hx hb dX9_count_74 rfl (lv_at hl 1 rfl) ?_
  refine g_get (C := RX9) (T := TX9) (N := 36) F hK hP i_X9_count_X9 0 rfl rfl 33 (by decide) k_X9_count_f187 (v := .int (nI mn)) rfl dX9_count_75 ?_
  exact hret _ _ _ _ (nI mn) () dX9_count_78 rfl (rfl) hP hD hS

theorem k_X9_count_f7 : Cond.fieldLink RX9 7 (TX9 2).1 (TX9 2).2.1 (TX9 2).2.2.1 ∈ wsX9_count := by decide +kernel
set_option maxHeartbeats 4000000 in
set_option maxRecDepth 100000 in
theorem c_X9_count_6 (l : Launch) (g : gT) (mo : Nat) (th : Int32) (zt : Nat) (tn : Nat) (sz : Nat) (zx : Nat) (zy : Nat) (zm : Nat) (zb : Nat) (rt : Int32) (w0 : Int32) (w1 : Int32) (w2 : Int32) (lg : Int32) (nr : Int32) (yr : Nat) (va : Nat) (vb : Nat) (vc : Nat) (vd : Nat) (qa : Nat) (qb : Nat) (qc : Nat) (ln : Nat) (sa : Nat) (sb : Nat) (sc : Nat) (sd : Nat) (se : Nat) (pn : Nat) (ma : Nat) (mb : Nat) (mc : Nat) (rv : Nat) (mn : Nat) (tol : Int32) (rn : Nat)  : CtI l g yX9_count wsX9_count rm_X9_count [.ref mo, .int 6] [gO mo 9 [.int th, .ref zt, .int (nI tn), .int (nI sz), .ref zx, .ref zy, .ref zm, .ref zb, .int rt, .int w0, .int w1, .int w2, .int lg, .int nr, .int (nI yr), .ref va, .ref vb, .ref vc, .ref vd, .ref qa, .ref qb, .ref qc, .int (nI ln), .ref sa, .ref sb, .ref sc, .ref sd, .ref se, .int (nI pn), .ref ma, .ref mb, .ref mc, .ref rv, .int (nI mn), .int tol, .int (nI rn)]] (fun (r : Int32) (_ : Unit) => r = nI tn) (fun (_ : Unit) => [gO mo 9 [.int 0, .ref zt, .int (nI tn), .int (nI sz), .ref zx, .ref zy, .ref zm, .ref zb, .int rt, .int w0, .int w1, .int w2, .int lg, .int nr, .int (nI yr), .ref va, .ref vb, .ref vc, .ref vd, .ref qa, .ref qb, .ref qc, .int (nI ln), .ref sa, .ref sb, .ref sc, .ref sd, .ref se, .int (nI pn), .ref ma, .ref mb, .ref mc, .ref rv, .int (nI mn), .int tol, .int (nI rn)]]) := by
  refine CtI.of (cc := cX9_count) (maxL := 4) (ret := .int) (by decide) rfl (Nat.le_of_ble_eq_true rfl) ?_
  intro p e s m args below meth c A Q hnm F hK hA hP hD hS hret ls hl
  have hx := F.1
  have hb := F.2.1
  have hl : lv_has ls 4 [(0, .ref mo), (1, .int 6)] := hl
  refine lv_aload_n hx hb dX9_count_0 rfl (lv_at hl 0 rfl) ?_
  refine lv_iconst (v := 0) hx hb dX9_count_1 (by decide) ?_
  refine g_put (C := RX9) (T := TX9) (N := 36) (ws2 := [gO mo 9 [.int 0, .ref zt, .int (nI tn), .int (nI sz), .ref zx, .ref zy, .ref zm, .ref zb, .int rt, .int w0, .int w1, .int w2, .int lg, .int nr, .int (nI yr), .ref va, .ref vb, .ref vc, .ref vd, .ref qa, .ref qb, .ref qc, .int (nI ln), .ref sa, .ref sb, .ref sc, .ref sd, .ref se, .int (nI pn), .ref ma, .ref mb, .ref mc, .ref rv, .int (nI mn), .int tol, .int (nI rn)]]) F hK hP hD hS i_X9_count_X9 tyX9 tyX9_ok nmX9 0 rfl rfl 0 (by decide) k_X9_count_f1 rfl (v := .int 0) rfl rfl (Nat.le_of_ble_eq_true rfl) rfl dX9_count_2 (fun H locs hP hD hS => ?_)
  refine lv_iconst (v := 0) hx hb dX9_count_5 (by decide) ?_
  refine lv_istore_n (lv' := [(2, .int 0), (0, .ref mo), (1, .int 6)]) hx hb dX9_count_6 rfl hl (by decide) rfl (fun ls hl => ?_)
  refine lv_iload_n hx hb dX9_count_7 rfl (lv_at hl 2 rfl) ?_
  refine lv_tableIn (tgt := 139) hx hb dX9_count_8 (by decide) (by decide) rfl (by decide) ?_
  refine lv_aload_n hx hb dX9_count_139 rfl (lv_at hl 1 rfl) ?_
  refine g_get (C := RX9) (T := TX9) (N := 36) F hK hP i_X9_count_X9 0 rfl rfl 2 (by decide) k_X9_count_f7 (v := .int (nI tn)) rfl dX9_count_140 ?_
  exact hret _ _ _ _ (nI tn) () dX9_count_143 rfl (rfl) hP hD hS

theorem k_X9_count_f34 : Cond.fieldLink RX9 34 (TX9 6).1 (TX9 6).2.1 (TX9 6).2.2.1 ∈ wsX9_count := by decide +kernel
set_option maxHeartbeats 4000000 in
set_option maxRecDepth 100000 in
theorem c_X9_count_1 (l : Launch) (g : gT) (mo : Nat) (th : Int32) (zt : Nat) (tn : Nat) (sz : Nat) (zx : Nat) (zy : Nat) (zm : Nat) (zb : Nat) (rt : Int32) (w0 : Int32) (w1 : Int32) (w2 : Int32) (lg : Int32) (nr : Int32) (yr : Nat) (va : Nat) (vb : Nat) (vc : Nat) (vd : Nat) (qa : Nat) (qb : Nat) (qc : Nat) (ln : Nat) (sa : Nat) (sb : Nat) (sc : Nat) (sd : Nat) (se : Nat) (pn : Nat) (ma : Nat) (mb : Nat) (mc : Nat) (rv : Nat) (mn : Nat) (tol : Int32) (rn : Nat) (n : Nat) (fm : Nat → Int32) (fx : Nat → Int32) (fy : Nat → Int32) (X : Nat → Int32) (Y : Nat → Int32) (hm0 : fm 0 = nI n) (hn : n ≤ 48) (hX0 : ∀ k, k < n → fx (48 * 0 + k) = X k) (hY0 : ∀ k, k < n → fy (48 * 0 + k) = Y k) (hok : okL (n, X, Y)) : CtI l g yX9_count wsX9_count rm_X9_count [.ref mo, .int 1] [gO mo 9 [.int th, .ref zt, .int (nI tn), .int (nI sz), .ref zx, .ref zy, .ref zm, .ref zb, .int rt, .int w0, .int w1, .int w2, .int lg, .int nr, .int (nI yr), .ref va, .ref vb, .ref vc, .ref vd, .ref qa, .ref qb, .ref qc, .int (nI ln), .ref sa, .ref sb, .ref sc, .ref sd, .ref se, .int (nI pn), .ref ma, .ref mb, .ref mc, .ref rv, .int (nI mn), .int tol, .int (nI rn)], gI g zx 144 fx, gI g zy 144 fy, gI g zm 3 fm] (fun (r : Int32) (_ : Unit) => r = nI n) (fun (_ : Unit) => [gO mo 9 [.int 0, .ref zt, .int (nI tn), .int (nI sz), .ref zx, .ref zy, .ref zm, .ref zb, .int rt, .int w0, .int w1, .int w2, .int lg, .int nr, .int (nI yr), .ref va, .ref vb, .ref vc, .ref vd, .ref qa, .ref qb, .ref qc, .int (nI ln), .ref sa, .ref sb, .ref sc, .ref sd, .ref se, .int (nI pn), .ref ma, .ref mb, .ref mc, .ref rv, .int (nI mn), .int tol, .int (nI rn)], gI g zx 144 fx, gI g zy 144 fy, gI g zm 3 fm]) := by
  refine CtI.of (cc := cX9_count) (maxL := 4) (ret := .int) (by decide) rfl (Nat.le_of_ble_eq_true rfl) ?_
  intro p e s m args below meth c A Q hnm F hK hA hP hD hS hret ls hl
  have hx := F.1
  have hb := F.2.1
  have hl : lv_has ls 4 [(0, .ref mo), (1, .int 1)] := hl
  refine lv_aload_n hx hb dX9_count_0 rfl (lv_at hl 0 rfl) ?_
  refine lv_iconst (v := 0) hx hb dX9_count_1 (by decide) ?_
  refine g_put (C := RX9) (T := TX9) (N := 36) (ws2 := [gO mo 9 [.int 0, .ref zt, .int (nI tn), .int (nI sz), .ref zx, .ref zy, .ref zm, .ref zb, .int rt, .int w0, .int w1, .int w2, .int lg, .int nr, .int (nI yr), .ref va, .ref vb, .ref vc, .ref vd, .ref qa, .ref qb, .ref qc, .int (nI ln), .ref sa, .ref sb, .ref sc, .ref sd, .ref se, .int (nI pn), .ref ma, .ref mb, .ref mc, .ref rv, .int (nI mn), .int tol, .int (nI rn)], gI g zx 144 fx, gI g zy 144 fy, gI g zm 3 fm]) F hK hP hD hS i_X9_count_X9 tyX9 tyX9_ok nmX9 0 rfl rfl 0 (by decide) k_X9_count_f1 rfl (v := .int 0) rfl rfl (Nat.le_of_ble_eq_true rfl) rfl dX9_count_2 (fun H locs hP hD hS => ?_)
  refine lv_iconst (v := 0) hx hb dX9_count_5 (by decide) ?_
  refine lv_istore_n (lv' := [(2, .int 0), (0, .ref mo), (1, .int 1)]) hx hb dX9_count_6 rfl hl (by decide) rfl (fun ls hl => ?_)
  refine lv_iload_n hx hb dX9_count_7 rfl (lv_at hl 2 rfl) ?_
  refine lv_tableIn (tgt := 57) hx hb dX9_count_8 (by decide) (by decide) rfl (by decide) ?_
  refine lv_aload_n hx hb dX9_count_57 rfl (lv_at hl 1 rfl) ?_
  refine g_get (C := RX9) (T := TX9) (N := 36) F hK hP i_X9_count_X9 0 rfl rfl 6 (by decide) k_X9_count_f34 (v := .ref zm) rfl dX9_count_58 ?_
  refine lv_iconst (v := 0) hx hb dX9_count_61 (by decide) ?_
  refine g_iald (i := 0) (v := (nI n)) hx hb hK hP 3 rfl (by decide) (by omega) (hm0) dX9_count_62 ?_
  exact hret _ _ _ _ (nI n) () dX9_count_63 rfl (rfl) hP hD hS

theorem k_X9_count_f27 : Cond.fieldLink RX9 27 (TX9 4).1 (TX9 4).2.1 (TX9 4).2.2.1 ∈ wsX9_count := by decide +kernel
theorem k_X9_count_f31 : Cond.fieldLink RX9 31 (TX9 5).1 (TX9 5).2.1 (TX9 5).2.2.1 ∈ wsX9_count := by decide +kernel
set_option maxHeartbeats 4000000 in
set_option maxRecDepth 100000 in
theorem c_X9_count_5 (l : Launch) (g : gT) (mo : Nat) (th : Int32) (zt : Nat) (tn : Nat) (sz : Nat) (zx : Nat) (zy : Nat) (zm : Nat) (zb : Nat) (rt : Int32) (w0 : Int32) (w1 : Int32) (w2 : Int32) (lg : Int32) (nr : Int32) (yr : Nat) (va : Nat) (vb : Nat) (vc : Nat) (vd : Nat) (qa : Nat) (qb : Nat) (qc : Nat) (ln : Nat) (sa : Nat) (sb : Nat) (sc : Nat) (sd : Nat) (se : Nat) (pn : Nat) (ma : Nat) (mb : Nat) (mc : Nat) (rv : Nat) (mn : Nat) (tol : Int32) (rn : Nat) (n : Nat) (fm : Nat → Int32) (fx : Nat → Int32) (fy : Nat → Int32) (X : Nat → Int32) (Y : Nat → Int32) (hm0 : fm 0 = nI n) (hn : n ≤ 48) (hX0 : ∀ k, k < n → fx (48 * 0 + k) = X k) (hY0 : ∀ k, k < n → fy (48 * 0 + k) = Y k) (hok : okL (n, X, Y)) : CtI l g yX9_count wsX9_count rm_X9_count [.ref mo, .int 5] [gO mo 9 [.int th, .ref zt, .int (nI tn), .int (nI sz), .ref zx, .ref zy, .ref zm, .ref zb, .int rt, .int w0, .int w1, .int w2, .int lg, .int nr, .int (nI yr), .ref va, .ref vb, .ref vc, .ref vd, .ref qa, .ref qb, .ref qc, .int (nI ln), .ref sa, .ref sb, .ref sc, .ref sd, .ref se, .int (nI pn), .ref ma, .ref mb, .ref mc, .ref rv, .int (nI mn), .int tol, .int (nI rn)], gI g zx 144 fx, gI g zy 144 fy, gI g zm 3 fm] (fun (r : Int32) (_ : Unit) => r = lenS X Y (n - 1)) (fun (_ : Unit) => [gO mo 9 [.int 0, .ref zt, .int (nI tn), .int (nI sz), .ref zx, .ref zy, .ref zm, .ref zb, .int rt, .int w0, .int w1, .int w2, .int lg, .int nr, .int (nI yr), .ref va, .ref vb, .ref vc, .ref vd, .ref qa, .ref qb, .ref qc, .int (nI ln), .ref sa, .ref sb, .ref sc, .ref sd, .ref se, .int (nI pn), .ref ma, .ref mb, .ref mc, .ref rv, .int (nI mn), .int tol, .int (nI rn)], gI g zx 144 fx, gI g zy 144 fy, gI g zm 3 fm]) := by
  refine CtI.of (cc := cX9_count) (maxL := 4) (ret := .int) (by decide) rfl (Nat.le_of_ble_eq_true rfl) ?_
  intro p e s m args below meth c A Q hnm F hK hA hP hD hS hret ls hl
  have hx := F.1
  have hb := F.2.1
  have hl : lv_has ls 4 [(0, .ref mo), (1, .int 5)] := hl
  have h1n : 1 ≤ n := by have := hok.1; have h : 4 ≤ n := this; omega
  refine lv_aload_n hx hb dX9_count_0 rfl (lv_at hl 0 rfl) ?_
  refine lv_iconst (v := 0) hx hb dX9_count_1 (by decide) ?_
  refine g_put (C := RX9) (T := TX9) (N := 36) (ws2 := [gO mo 9 [.int 0, .ref zt, .int (nI tn), .int (nI sz), .ref zx, .ref zy, .ref zm, .ref zb, .int rt, .int w0, .int w1, .int w2, .int lg, .int nr, .int (nI yr), .ref va, .ref vb, .ref vc, .ref vd, .ref qa, .ref qb, .ref qc, .int (nI ln), .ref sa, .ref sb, .ref sc, .ref sd, .ref se, .int (nI pn), .ref ma, .ref mb, .ref mc, .ref rv, .int (nI mn), .int tol, .int (nI rn)], gI g zx 144 fx, gI g zy 144 fy, gI g zm 3 fm]) F hK hP hD hS i_X9_count_X9 tyX9 tyX9_ok nmX9 0 rfl rfl 0 (by decide) k_X9_count_f1 rfl (v := .int 0) rfl rfl (Nat.le_of_ble_eq_true rfl) rfl dX9_count_2 (fun H locs hP hD hS => ?_)
  refine lv_iconst (v := 0) hx hb dX9_count_5 (by decide) ?_
  refine lv_istore_n (lv' := [(2, .int 0), (0, .ref mo), (1, .int 5)]) hx hb dX9_count_6 rfl hl (by decide) rfl (fun ls hl => ?_)
  refine lv_iload_n hx hb dX9_count_7 rfl (lv_at hl 2 rfl) ?_
  refine lv_tableIn (tgt := 79) hx hb dX9_count_8 (by decide) (by decide) rfl (by decide) ?_
  refine lv_iconst (v := 1) hx hb dX9_count_79 (by decide) ?_
  refine lv_istore_n (lv' := [(3, .int 1), (2, .int 0), (0, .ref mo), (1, .int 5)]) hx hb dX9_count_80 rfl hl (by decide) rfl (fun ls hl => ?_)
  have L81 : ∀ (fuel : Nat) (sm : Int32) (j : Nat) (ls : Array Slot) (H : Heap) (locs : List Loc), n - j < fuel → (j + 1 ≤ n) → (sm = lenS X Y j) → lv_has ls 4 [(0, .ref mo), (1, .int 5), (2, .int sm), (3, .int (nI (j + 1)))] → gP g [gO mo 9 [.int 0, .ref zt, .int (nI tn), .int (nI sz), .ref zx, .ref zy, .ref zm, .ref zb, .int rt, .int w0, .int w1, .int w2, .int lg, .int nr, .int (nI yr), .ref va, .ref vb, .ref vc, .ref vd, .ref qa, .ref qb, .ref qc, .int (nI ln), .ref sa, .ref sb, .ref sc, .ref sd, .ref se, .int (nI pn), .ref ma, .ref mb, .ref mc, .ref rv, .int (nI mn), .int tol, .int (nI rn)], gI g zx 144 fx, gI g zy 144 fy, gI g zm 3 fm] H → va_D A [gO mo 9 [.int 0, .ref zt, .int (nI tn), .int (nI sz), .ref zx, .ref zy, .ref zm, .ref zb, .int rt, .int w0, .int w1, .int w2, .int lg, .int nr, .int (nI yr), .ref va, .ref vb, .ref vc, .ref vd, .ref qa, .ref qb, .ref qc, .int (nI ln), .ref sa, .ref sb, .ref sc, .ref sd, .ref se, .int (nI pn), .ref ma, .ref mb, .ref mc, .ref rv, .int (nI mn), .int tol, .int (nI rn)], gI g zx 144 fx, gI g zy 144 fy, gI g zm 3 fm] → va_S A s.heap H locs → W p l e rm_X9_count s m args below meth c H locs 0 0 Q (F0 m 81 ls []) := by
    intro fuel
    induction fuel with
    | zero => intro sm j _ _ _ hk; exact absurd hk (Nat.not_lt_zero _)
    | succ fuel_81 ih_81 =>
      intro sm j ls H locs hk_81 hj hs hl hP hD hS
      refine lv_iload_n hx hb dX9_count_81 rfl (lv_at hl 3 rfl) ?_
      refine lv_aload_n hx hb dX9_count_82 rfl (lv_at hl 0 rfl) ?_
      refine g_get (C := RX9) (T := TX9) (N := 36) F hK hP i_X9_count_X9 0 rfl rfl 6 (by decide) k_X9_count_f34 (v := .ref zm) rfl dX9_count_83 ?_
      refine lv_iconst (v := 0) hx hb dX9_count_86 (by decide) ?_
      refine g_iald (i := 0) (v := (nI n)) hx hb hK hP 3 rfl (by decide) (by omega) (hm0) dX9_count_87 ?_
      refine n_icmp_ge (a := j + 1) (b := n) (tgt := 137) hx hb dX9_count_88 (by decide) (by omega) (by omega) (fun c_88 => ?_) (fun c_88 => ?_)
      · refine lv_iload_n hx hb dX9_count_137 rfl (lv_at hl 2 rfl) ?_
        exact hret _ _ _ _ sm () dX9_count_138 rfl (by rw [hs, show j = n - 1 by omega]) hP hD hS
      · refine lv_iload_n hx hb dX9_count_91 rfl (lv_at hl 2 rfl) ?_
        refine lv_aload_n hx hb dX9_count_92 rfl (lv_at hl 0 rfl) ?_
        refine g_get (C := RX9) (T := TX9) (N := 36) F hK hP i_X9_count_X9 0 rfl rfl 4 (by decide) k_X9_count_f27 (v := .ref zx) rfl dX9_count_93 ?_
        refine lv_iload_n hx hb dX9_count_96 rfl (lv_at hl 3 rfl) ?_
        refine g_iald (i := j + 1) (v := (X (j + 1))) hx hb hK hP 1 rfl (by decide) (by omega) ((congrArg fx (show j + 1 = 48 * 0 + (j + 1) by omega)).trans (hX0 (j + 1) (by omega))) dX9_count_97 ?_
        refine lv_aload_n hx hb dX9_count_98 rfl (lv_at hl 0 rfl) ?_
        refine g_get (C := RX9) (T := TX9) (N := 36) F hK hP i_X9_count_X9 0 rfl rfl 4 (by decide) k_X9_count_f27 (v := .ref zx) rfl dX9_count_99 ?_
        refine lv_iload_n hx hb dX9_count_102 rfl (lv_at hl 3 rfl) ?_
        refine lv_iconst (v := 1) hx hb dX9_count_103 (by decide) ?_
        refine n_isub (a := j + 1) (b := 1) (d := j) hx hb dX9_count_104 (by omega) (by omega) ?_
        refine g_iald (i := j) (v := (X j)) hx hb hK hP 1 rfl (by decide) (by omega) ((congrArg fx (show j = 48 * 0 + j by omega)).trans (hX0 j (by omega))) dX9_count_105 ?_
        refine lv_isub hx hb dX9_count_106 ?_
        refine g_SI (wr := [gO mo 9 [.int 0, .ref zt, .int (nI tn), .int (nI sz), .ref zx, .ref zy, .ref zm, .ref zb, .int rt, .int w0, .int w1, .int w2, .int lg, .int nr, .int (nI yr), .ref va, .ref vb, .ref vc, .ref vd, .ref qa, .ref qb, .ref qc, .int (nI ln), .ref sa, .ref sb, .ref sc, .ref sd, .ref se, .int (nI pn), .ref ma, .ref mb, .ref mc, .ref rv, .int (nI mn), .int tol, .int (nI rn)], gI g zx 144 fx, gI g zy 144 fy, gI g zm 3 fm]) (As := [.int ((X (j + 1)) - (X j))]) (rest := [.int sm]) (n := 1) F (c_X9_size l g ((X (j + 1)) - (X j))) gX9_count_X9_size rfl (by decide) ⟨by decide, by decide⟩ rfl hl.1 rfl (Nat.le_of_ble_eq_true rfl) dX9_count_107 ⟨Nat.le_of_ble_eq_true rfl, Nat.le_of_ble_eq_true rfl⟩ hK hP hD hS hA [] [0, 1, 2, 3] (by decide) rfl rfl (by decide) (by decide) (fun r_107 u_107 H locs hw_107 hP hD hS => ?_)
        have hP : gP g [gO mo 9 [.int 0, .ref zt, .int (nI tn), .int (nI sz), .ref zx, .ref zy, .ref zm, .ref zb, .int rt, .int w0, .int w1, .int w2, .int lg, .int nr, .int (nI yr), .ref va, .ref vb, .ref vc, .ref vd, .ref qa, .ref qb, .ref qc, .int (nI ln), .ref sa, .ref sb, .ref sc, .ref sd, .ref se, .int (nI pn), .ref ma, .ref mb, .ref mc, .ref rv, .int (nI mn), .int tol, .int (nI rn)], gI g zx 144 fx, gI g zy 144 fy, gI g zm 3 fm] H := hP
        have hD : va_D A [gO mo 9 [.int 0, .ref zt, .int (nI tn), .int (nI sz), .ref zx, .ref zy, .ref zm, .ref zb, .int rt, .int w0, .int w1, .int w2, .int lg, .int nr, .int (nI yr), .ref va, .ref vb, .ref vc, .ref vd, .ref qa, .ref qb, .ref qc, .int (nI ln), .ref sa, .ref sb, .ref sc, .ref sd, .ref se, .int (nI pn), .ref ma, .ref mb, .ref mc, .ref rv, .int (nI mn), .int tol, .int (nI rn)], gI g zx 144 fx, gI g zy 144 fy, gI g zm 3 fm] := hD
        obtain rfl := hw_107
        refine lv_aload_n hx hb dX9_count_110 rfl (lv_at hl 0 rfl) ?_
        refine g_get (C := RX9) (T := TX9) (N := 36) F hK hP i_X9_count_X9 0 rfl rfl 5 (by decide) k_X9_count_f31 (v := .ref zy) rfl dX9_count_111 ?_
        refine lv_iload_n hx hb dX9_count_114 rfl (lv_at hl 3 rfl) ?_
        refine g_iald (i := j + 1) (v := (Y (j + 1))) hx hb hK hP 2 rfl (by decide) (by omega) ((congrArg fy (show j + 1 = 48 * 0 + (j + 1) by omega)).trans (hY0 (j + 1) (by omega))) dX9_count_115 ?_
        refine lv_aload_n hx hb dX9_count_116 rfl (lv_at hl 0 rfl) ?_
        refine g_get (C := RX9) (T := TX9) (N := 36) F hK hP i_X9_count_X9 0 rfl rfl 5 (by decide) k_X9_count_f31 (v := .ref zy) rfl dX9_count_117 ?_
        refine lv_iload_n hx hb dX9_count_120 rfl (lv_at hl 3 rfl) ?_
        refine lv_iconst (v := 1) hx hb dX9_count_121 (by decide) ?_
        refine n_isub (a := j + 1) (b := 1) (d := j) hx hb dX9_count_122 (by omega) (by omega) ?_
        refine g_iald (i := j) (v := (Y j)) hx hb hK hP 2 rfl (by decide) (by omega) ((congrArg fy (show j = 48 * 0 + j by omega)).trans (hY0 j (by omega))) dX9_count_123 ?_
        refine lv_isub hx hb dX9_count_124 ?_
        refine g_SI (wr := [gO mo 9 [.int 0, .ref zt, .int (nI tn), .int (nI sz), .ref zx, .ref zy, .ref zm, .ref zb, .int rt, .int w0, .int w1, .int w2, .int lg, .int nr, .int (nI yr), .ref va, .ref vb, .ref vc, .ref vd, .ref qa, .ref qb, .ref qc, .int (nI ln), .ref sa, .ref sb, .ref sc, .ref sd, .ref se, .int (nI pn), .ref ma, .ref mb, .ref mc, .ref rv, .int (nI mn), .int tol, .int (nI rn)], gI g zx 144 fx, gI g zy 144 fy, gI g zm 3 fm]) (As := [.int ((Y (j + 1)) - (Y j))]) (rest := [.int (g_abs ((X (j + 1)) - (X j))), .int sm]) (n := 1) F (c_X9_size l g ((Y (j + 1)) - (Y j))) gX9_count_X9_size rfl (by decide) ⟨by decide, by decide⟩ rfl hl.1 rfl (Nat.le_of_ble_eq_true rfl) dX9_count_125 ⟨Nat.le_of_ble_eq_true rfl, Nat.le_of_ble_eq_true rfl⟩ hK hP hD hS hA [] [0, 1, 2, 3] (by decide) rfl rfl (by decide) (by decide) (fun r_125 u_125 H locs hw_125 hP hD hS => ?_)
        have hP : gP g [gO mo 9 [.int 0, .ref zt, .int (nI tn), .int (nI sz), .ref zx, .ref zy, .ref zm, .ref zb, .int rt, .int w0, .int w1, .int w2, .int lg, .int nr, .int (nI yr), .ref va, .ref vb, .ref vc, .ref vd, .ref qa, .ref qb, .ref qc, .int (nI ln), .ref sa, .ref sb, .ref sc, .ref sd, .ref se, .int (nI pn), .ref ma, .ref mb, .ref mc, .ref rv, .int (nI mn), .int tol, .int (nI rn)], gI g zx 144 fx, gI g zy 144 fy, gI g zm 3 fm] H := hP
        have hD : va_D A [gO mo 9 [.int 0, .ref zt, .int (nI tn), .int (nI sz), .ref zx, .ref zy, .ref zm, .ref zb, .int rt, .int w0, .int w1, .int w2, .int lg, .int nr, .int (nI yr), .ref va, .ref vb, .ref vc, .ref vd, .ref qa, .ref qb, .ref qc, .int (nI ln), .ref sa, .ref sb, .ref sc, .ref sd, .ref se, .int (nI pn), .ref ma, .ref mb, .ref mc, .ref rv, .int (nI mn), .int tol, .int (nI rn)], gI g zx 144 fx, gI g zy 144 fy, gI g zm 3 fm] := hD
        obtain rfl := hw_125
        refine lv_iadd hx hb dX9_count_128 ?_
        refine lv_iadd hx hb dX9_count_129 ?_
        refine lv_istore_n (lv' := [(2, .int (sm + ((g_abs ((X (j + 1)) - (X j))) + (g_abs ((Y (j + 1)) - (Y j)))))), (0, .ref mo), (1, .int 5), (3, .int (nI (j + 1)))]) hx hb dX9_count_130 rfl hl (by decide) rfl (fun ls hl => ?_)
        refine lv_iinc (v := (nI (j + 2))) (lv' := [(3, .int (nI (j + 2))), (2, .int (sm + ((g_abs ((X (j + 1)) - (X j))) + (g_abs ((Y (j + 1)) - (Y j)))))), (0, .ref mo), (1, .int 5)]) hx hb dX9_count_131 hl (k := 3) rfl (g_inc (j + 1) 1 (by decide)) (by decide) rfl (fun ls hl => ?_)
        refine lv_goto (tgt := 81) hx hb dX9_count_134 (by decide) ?_
        exact ih_81 (sm + ((g_abs ((X (j + 1)) - (X j))) + (g_abs ((Y (j + 1)) - (Y j))))) (j + 1) ls _ _ (by omega) (by omega) (by rw [hs]; rfl) (lv_sub hl [2, 3, 1, 0] rfl) hP hD hS
  exact L81 ((n - 0) + 1) 0 0 ls _ _ (Nat.lt_succ_self _) (by omega) (rfl) (lv_sub hl [2, 3, 1, 0] rfl) hP hD hS

abbrev rm_X9_point : Room := { frames := 1, cells := 0, slots := 0, locals := 21 }
theorem i_X9_point_X9 : ∀ w ∈ wsX90, w ∈ wsX9_point := by decide +kernel
theorem k_X9_point_f34 : Cond.fieldLink RX9 34 (TX9 6).1 (TX9 6).2.1 (TX9 6).2.2.1 ∈ wsX9_point := by decide +kernel
theorem k_X9_point_f27 : Cond.fieldLink RX9 27 (TX9 4).1 (TX9 4).2.1 (TX9 4).2.2.1 ∈ wsX9_point := by decide +kernel
set_option maxHeartbeats 4000000 in
set_option maxRecDepth 100000 in
theorem c_X9_point_0 (l : Launch) (g : gT) (mo : Nat) (th : Int32) (zt : Nat) (tn : Nat) (sz : Nat) (zx : Nat) (zy : Nat) (zm : Nat) (zb : Nat) (rt : Int32) (w0 : Int32) (w1 : Int32) (w2 : Int32) (lg : Int32) (nr : Int32) (yr : Nat) (va : Nat) (vb : Nat) (vc : Nat) (vd : Nat) (qa : Nat) (qb : Nat) (qc : Nat) (ln : Nat) (sa : Nat) (sb : Nat) (sc : Nat) (sd : Nat) (se : Nat) (pn : Nat) (ma : Nat) (mb : Nat) (mc : Nat) (rv : Nat) (mn : Nat) (tol : Int32) (rn : Nat) (n : Nat) (fm : Nat → Int32) (fx : Nat → Int32) (fy : Nat → Int32) (X : Nat → Int32) (Y : Nat → Int32) (i : Nat) (hm0 : fm 0 = nI n) (hn : n ≤ 48) (hX0 : ∀ k, k < n → fx (48 * 0 + k) = X k) (hY0 : ∀ k, k < n → fy (48 * 0 + k) = Y k) (hok : okL (n, X, Y)) (hi : i < n) : CtI l g yX9_point wsX9_point rm_X9_point [.ref mo, .int (nI i), .int 0] [gO mo 9 [.int th, .ref zt, .int (nI tn), .int (nI sz), .ref zx, .ref zy, .ref zm, .ref zb, .int rt, .int w0, .int w1, .int w2, .int lg, .int nr, .int (nI yr), .ref va, .ref vb, .ref vc, .ref vd, .ref qa, .ref qb, .ref qc, .int (nI ln), .ref sa, .ref sb, .ref sc, .ref sd, .ref se, .int (nI pn), .ref ma, .ref mb, .ref mc, .ref rv, .int (nI mn), .int tol, .int (nI rn)], gI g zx 144 fx, gI g zy 144 fy, gI g zm 3 fm] (fun (r : Int32) (_ : Unit) => r = X i) (fun (_ : Unit) => [gO mo 9 [.int 0, .ref zt, .int (nI tn), .int (nI sz), .ref zx, .ref zy, .ref zm, .ref zb, .int rt, .int w0, .int w1, .int w2, .int lg, .int nr, .int (nI yr), .ref va, .ref vb, .ref vc, .ref vd, .ref qa, .ref qb, .ref qc, .int (nI ln), .ref sa, .ref sb, .ref sc, .ref sd, .ref se, .int (nI pn), .ref ma, .ref mb, .ref mc, .ref rv, .int (nI mn), .int tol, .int (nI rn)], gI g zx 144 fx, gI g zy 144 fy, gI g zm 3 fm]) := by
  refine CtI.of (cc := cX9_point) (maxL := 3) (ret := .int) (by decide) rfl (Nat.le_of_ble_eq_true rfl) ?_
  intro p e s m args below meth c A Q hnm F hK hA hP hD hS hret ls hl
  have hx := F.1
  have hb := F.2.1
  have hl : lv_has ls 3 [(0, .ref mo), (1, .int (nI i)), (2, .int 0)] := hl
  refine lv_aload_n hx hb dX9_point_0 rfl (lv_at hl 0 rfl) ?_
  refine lv_iload_n hx hb dX9_point_1 rfl (lv_at hl 1 rfl) ?_
  refine n_if_lt (a := i) (tgt := 24) hx hb dX9_point_2 (by decide) (by omega) (fun h => absurd h (by omega)) (fun c_2 => ?_)
  refine lv_iload_n hx hb dX9_point_5 rfl (lv_at hl 1 rfl) ?_
  refine lv_aload_n hx hb dX9_point_6 rfl (lv_at hl 0 rfl) ?_
  refine g_get (C := RX9) (T := TX9) (N := 36) F hK hP i_X9_point_X9 0 rfl rfl 6 (by decide) k_X9_point_f34 (v := .ref zm) rfl dX9_point_7 ?_
  refine lv_iconst (v := 0) hx hb dX9_point_10 (by decide) ?_
  refine g_iald (i := 0) (v := (nI n)) hx hb hK hP 3 rfl (by decide) (by omega) (hm0) dX9_point_11 ?_
  refine n_icmp_ge (a := i) (b := n) (tgt := 24) hx hb dX9_point_12 (by decide) (by omega) (by omega) (fun h => absurd h (by omega)) (fun c_12 => ?_)
  refine lv_iload_n hx hb dX9_point_15 rfl (lv_at hl 2 rfl) ?_
  refine lv_if_lt (tgt := 24) hx hb dX9_point_16 (by decide) (fun h => absurd h (by decide)) (fun _ => ?_)
  refine lv_iload_n hx hb dX9_point_19 rfl (lv_at hl 2 rfl) ?_
  refine lv_iconst (v := 1) hx hb dX9_point_20 (by decide) ?_
  refine lv_icmp_le (tgt := 28) hx hb dX9_point_21 (by decide) (fun _ => ?_) (fun h => absurd (by decide) h)
  refine lv_iconst (v := 0) hx hb dX9_point_28 (by decide) ?_
  refine g_VI (wr := [gI g zx 144 fx, gI g zy 144 fy, gI g zm 3 fm]) (As := [.int 0]) (rest := []) (n := 1) F (c_X9_throwsIf_0 l g mo th zt tn sz zx zy zm zb rt w0 w1 w2 lg nr yr va vb vc vd qa qb qc ln sa sb sc sd se pn ma mb mc rv mn tol rn) gX9_point_X9_throwsIf rfl (by decide) ⟨by decide, by decide⟩ 0 9 rfl rfl rfl rfl hl.1 rfl (Nat.le_of_ble_eq_true rfl) dX9_point_29 ⟨Nat.le_of_ble_eq_true rfl, Nat.le_of_ble_eq_true rfl⟩ hK hP hD hS hA [0] [1, 2, 3] (by decide) rfl rfl (by decide) (by decide) (fun r_29 u_29 H locs hw_29 hP hD hS => ?_)
  have hP : gP g [gI g zx 144 fx, gI g zy 144 fy, gI g zm 3 fm, gO mo 9 [.int 0, .ref zt, .int (nI tn), .int (nI sz), .ref zx, .ref zy, .ref zm, .ref zb, .int rt, .int w0, .int w1, .int w2, .int lg, .int nr, .int (nI yr), .ref va, .ref vb, .ref vc, .ref vd, .ref qa, .ref qb, .ref qc, .int (nI ln), .ref sa, .ref sb, .ref sc, .ref sd, .ref se, .int (nI pn), .ref ma, .ref mb, .ref mc, .ref rv, .int (nI mn), .int tol, .int (nI rn)]] H := hP
  have hD : va_D A [gI g zx 144 fx, gI g zy 144 fy, gI g zm 3 fm, gO mo 9 [.int 0, .ref zt, .int (nI tn), .int (nI sz), .ref zx, .ref zy, .ref zm, .ref zb, .int rt, .int w0, .int w1, .int w2, .int lg, .int nr, .int (nI yr), .ref va, .ref vb, .ref vc, .ref vd, .ref qa, .ref qb, .ref qc, .int (nI ln), .ref sa, .ref sb, .ref sc, .ref sd, .ref se, .int (nI pn), .ref ma, .ref mb, .ref mc, .ref rv, .int (nI mn), .int tol, .int (nI rn)]] := hD
  obtain rfl := hw_29
  refine lv_if_eq (tgt := 37) hx hb dX9_point_32 (by decide) (fun _ => ?_) (fun h => absurd (by decide) h)
  refine lv_iload_n hx hb dX9_point_37 rfl (lv_at hl 2 rfl) ?_
  refine lv_if_ne (tgt := 50) hx hb dX9_point_38 (by decide) (fun h => absurd (by decide) h) (fun _ => ?_)
  refine lv_aload_n hx hb dX9_point_41 rfl (lv_at hl 0 rfl) ?_
  refine g_get (C := RX9) (T := TX9) (N := 36) F hK hP i_X9_point_X9 3 rfl rfl 4 (by decide) k_X9_point_f27 (v := .ref zx) rfl dX9_point_42 ?_
  refine lv_iload_n hx hb dX9_point_45 rfl (lv_at hl 1 rfl) ?_
  refine g_iald (i := i) (v := (X i)) hx hb hK hP 0 rfl (by decide) (by omega) ((congrArg fx (show i = 48 * 0 + i by omega)).trans (hX0 i (by omega))) dX9_point_46 ?_
  refine lv_goto (tgt := 56) hx hb dX9_point_47 (by decide) ?_
  have hP9 := hP.sub (ws' := [gO mo 9 [.int 0, .ref zt, .int (nI tn), .int (nI sz), .ref zx, .ref zy, .ref zm, .ref zb, .int rt, .int w0, .int w1, .int w2, .int lg, .int nr, .int (nI yr), .ref va, .ref vb, .ref vc, .ref vd, .ref qa, .ref qb, .ref qc, .int (nI ln), .ref sa, .ref sb, .ref sc, .ref sd, .ref se, .int (nI pn), .ref ma, .ref mb, .ref mc, .ref rv, .int (nI mn), .int tol, .int (nI rn)], gI g zx 144 fx, gI g zy 144 fy, gI g zm 3 fm]) [3, 0, 1, 2] rfl
  have hD9 := hD.sub (ws' := [gO mo 9 [.int 0, .ref zt, .int (nI tn), .int (nI sz), .ref zx, .ref zy, .ref zm, .ref zb, .int rt, .int w0, .int w1, .int w2, .int lg, .int nr, .int (nI yr), .ref va, .ref vb, .ref vc, .ref vd, .ref qa, .ref qb, .ref qc, .int (nI ln), .ref sa, .ref sb, .ref sc, .ref sd, .ref se, .int (nI pn), .ref ma, .ref mb, .ref mc, .ref rv, .int (nI mn), .int tol, .int (nI rn)], gI g zx 144 fx, gI g zy 144 fy, gI g zm 3 fm]) [3, 0, 1, 2] (by decide) rfl
  exact hret _ _ _ _ (X i) () dX9_point_56 rfl (rfl) hP9 hD9 hS

theorem k_X9_point_f31 : Cond.fieldLink RX9 31 (TX9 5).1 (TX9 5).2.1 (TX9 5).2.2.1 ∈ wsX9_point := by decide +kernel
set_option maxHeartbeats 4000000 in
set_option maxRecDepth 100000 in
theorem c_X9_point_1 (l : Launch) (g : gT) (mo : Nat) (th : Int32) (zt : Nat) (tn : Nat) (sz : Nat) (zx : Nat) (zy : Nat) (zm : Nat) (zb : Nat) (rt : Int32) (w0 : Int32) (w1 : Int32) (w2 : Int32) (lg : Int32) (nr : Int32) (yr : Nat) (va : Nat) (vb : Nat) (vc : Nat) (vd : Nat) (qa : Nat) (qb : Nat) (qc : Nat) (ln : Nat) (sa : Nat) (sb : Nat) (sc : Nat) (sd : Nat) (se : Nat) (pn : Nat) (ma : Nat) (mb : Nat) (mc : Nat) (rv : Nat) (mn : Nat) (tol : Int32) (rn : Nat) (n : Nat) (fm : Nat → Int32) (fx : Nat → Int32) (fy : Nat → Int32) (X : Nat → Int32) (Y : Nat → Int32) (i : Nat) (hm0 : fm 0 = nI n) (hn : n ≤ 48) (hX0 : ∀ k, k < n → fx (48 * 0 + k) = X k) (hY0 : ∀ k, k < n → fy (48 * 0 + k) = Y k) (hok : okL (n, X, Y)) (hi : i < n) : CtI l g yX9_point wsX9_point rm_X9_point [.ref mo, .int (nI i), .int 1] [gO mo 9 [.int th, .ref zt, .int (nI tn), .int (nI sz), .ref zx, .ref zy, .ref zm, .ref zb, .int rt, .int w0, .int w1, .int w2, .int lg, .int nr, .int (nI yr), .ref va, .ref vb, .ref vc, .ref vd, .ref qa, .ref qb, .ref qc, .int (nI ln), .ref sa, .ref sb, .ref sc, .ref sd, .ref se, .int (nI pn), .ref ma, .ref mb, .ref mc, .ref rv, .int (nI mn), .int tol, .int (nI rn)], gI g zx 144 fx, gI g zy 144 fy, gI g zm 3 fm] (fun (r : Int32) (_ : Unit) => r = Y i) (fun (_ : Unit) => [gO mo 9 [.int 0, .ref zt, .int (nI tn), .int (nI sz), .ref zx, .ref zy, .ref zm, .ref zb, .int rt, .int w0, .int w1, .int w2, .int lg, .int nr, .int (nI yr), .ref va, .ref vb, .ref vc, .ref vd, .ref qa, .ref qb, .ref qc, .int (nI ln), .ref sa, .ref sb, .ref sc, .ref sd, .ref se, .int (nI pn), .ref ma, .ref mb, .ref mc, .ref rv, .int (nI mn), .int tol, .int (nI rn)], gI g zx 144 fx, gI g zy 144 fy, gI g zm 3 fm]) := by
  refine CtI.of (cc := cX9_point) (maxL := 3) (ret := .int) (by decide) rfl (Nat.le_of_ble_eq_true rfl) ?_
  intro p e s m args below meth c A Q hnm F hK hA hP hD hS hret ls hl
  have hx := F.1
  have hb := F.2.1
  have hl : lv_has ls 3 [(0, .ref mo), (1, .int (nI i)), (2, .int 1)] := hl
  refine lv_aload_n hx hb dX9_point_0 rfl (lv_at hl 0 rfl) ?_
  refine lv_iload_n hx hb dX9_point_1 rfl (lv_at hl 1 rfl) ?_
  refine n_if_lt (a := i) (tgt := 24) hx hb dX9_point_2 (by decide) (by omega) (fun h => absurd h (by omega)) (fun c_2 => ?_)
  refine lv_iload_n hx hb dX9_point_5 rfl (lv_at hl 1 rfl) ?_
  refine lv_aload_n hx hb dX9_point_6 rfl (lv_at hl 0 rfl) ?_
  refine g_get (C := RX9) (T := TX9) (N := 36) F hK hP i_X9_point_X9 0 rfl rfl 6 (by decide) k_X9_point_f34 (v := .ref zm) rfl dX9_point_7 ?_
  refine lv_iconst (v := 0) hx hb dX9_point_10 (by decide) ?_
  refine g_iald (i := 0) (v := (nI n)) hx hb hK hP 3 rfl (by decide) (by omega) (hm0) dX9_point_11 ?_
  refine n_icmp_ge (a := i) (b := n) (tgt := 24) hx hb dX9_point_12 (by decide) (by omega) (by omega) (fun h => absurd h (by omega)) (fun c_12 => ?_)
  refine lv_iload_n hx hb dX9_point_15 rfl (lv_at hl 2 rfl) ?_
  refine lv_if_lt (tgt := 24) hx hb dX9_point_16 (by decide) (fun h => absurd h (by decide)) (fun _ => ?_)
  refine lv_iload_n hx hb dX9_point_19 rfl (lv_at hl 2 rfl) ?_
  refine lv_iconst (v := 1) hx hb dX9_point_20 (by decide) ?_
  refine lv_icmp_le (tgt := 28) hx hb dX9_point_21 (by decide) (fun _ => ?_) (fun h => absurd (by decide) h)
  refine lv_iconst (v := 0) hx hb dX9_point_28 (by decide) ?_
  refine g_VI (wr := [gI g zx 144 fx, gI g zy 144 fy, gI g zm 3 fm]) (As := [.int 0]) (rest := []) (n := 1) F (c_X9_throwsIf_0 l g mo th zt tn sz zx zy zm zb rt w0 w1 w2 lg nr yr va vb vc vd qa qb qc ln sa sb sc sd se pn ma mb mc rv mn tol rn) gX9_point_X9_throwsIf rfl (by decide) ⟨by decide, by decide⟩ 0 9 rfl rfl rfl rfl hl.1 rfl (Nat.le_of_ble_eq_true rfl) dX9_point_29 ⟨Nat.le_of_ble_eq_true rfl, Nat.le_of_ble_eq_true rfl⟩ hK hP hD hS hA [0] [1, 2, 3] (by decide) rfl rfl (by decide) (by decide) (fun r_29 u_29 H locs hw_29 hP hD hS => ?_)
  have hP : gP g [gI g zx 144 fx, gI g zy 144 fy, gI g zm 3 fm, gO mo 9 [.int 0, .ref zt, .int (nI tn), .int (nI sz), .ref zx, .ref zy, .ref zm, .ref zb, .int rt, .int w0, .int w1, .int w2, .int lg, .int nr, .int (nI yr), .ref va, .ref vb, .ref vc, .ref vd, .ref qa, .ref qb, .ref qc, .int (nI ln), .ref sa, .ref sb, .ref sc, .ref sd, .ref se, .int (nI pn), .ref ma, .ref mb, .ref mc, .ref rv, .int (nI mn), .int tol, .int (nI rn)]] H := hP
  have hD : va_D A [gI g zx 144 fx, gI g zy 144 fy, gI g zm 3 fm, gO mo 9 [.int 0, .ref zt, .int (nI tn), .int (nI sz), .ref zx, .ref zy, .ref zm, .ref zb, .int rt, .int w0, .int w1, .int w2, .int lg, .int nr, .int (nI yr), .ref va, .ref vb, .ref vc, .ref vd, .ref qa, .ref qb, .ref qc, .int (nI ln), .ref sa, .ref sb, .ref sc, .ref sd, .ref se, .int (nI pn), .ref ma, .ref mb, .ref mc, .ref rv, .int (nI mn), .int tol, .int (nI rn)]] := hD
  obtain rfl := hw_29
  refine lv_if_eq (tgt := 37) hx hb dX9_point_32 (by decide) (fun _ => ?_) (fun h => absurd (by decide) h)
  refine lv_iload_n hx hb dX9_point_37 rfl (lv_at hl 2 rfl) ?_
  refine lv_if_ne (tgt := 50) hx hb dX9_point_38 (by decide) (fun _ => ?_) (fun h => absurd h (by decide))
  refine lv_aload_n hx hb dX9_point_50 rfl (lv_at hl 0 rfl) ?_
  refine g_get (C := RX9) (T := TX9) (N := 36) F hK hP i_X9_point_X9 3 rfl rfl 5 (by decide) k_X9_point_f31 (v := .ref zy) rfl dX9_point_51 ?_
  refine lv_iload_n hx hb dX9_point_54 rfl (lv_at hl 1 rfl) ?_
  refine g_iald (i := i) (v := (Y i)) hx hb hK hP 1 rfl (by decide) (by omega) ((congrArg fy (show i = 48 * 0 + i by omega)).trans (hY0 i (by omega))) dX9_point_55 ?_
  have hP9 := hP.sub (ws' := [gO mo 9 [.int 0, .ref zt, .int (nI tn), .int (nI sz), .ref zx, .ref zy, .ref zm, .ref zb, .int rt, .int w0, .int w1, .int w2, .int lg, .int nr, .int (nI yr), .ref va, .ref vb, .ref vc, .ref vd, .ref qa, .ref qb, .ref qc, .int (nI ln), .ref sa, .ref sb, .ref sc, .ref sd, .ref se, .int (nI pn), .ref ma, .ref mb, .ref mc, .ref rv, .int (nI mn), .int tol, .int (nI rn)], gI g zx 144 fx, gI g zy 144 fy, gI g zm 3 fm]) [3, 0, 1, 2] rfl
  have hD9 := hD.sub (ws' := [gO mo 9 [.int 0, .ref zt, .int (nI tn), .int (nI sz), .ref zx, .ref zy, .ref zm, .ref zb, .int rt, .int w0, .int w1, .int w2, .int lg, .int nr, .int (nI yr), .ref va, .ref vb, .ref vc, .ref vd, .ref qa, .ref qb, .ref qc, .int (nI ln), .ref sa, .ref sb, .ref sc, .ref sd, .ref se, .int (nI pn), .ref ma, .ref mb, .ref mc, .ref rv, .int (nI mn), .int tol, .int (nI rn)], gI g zx 144 fx, gI g zy 144 fy, gI g zm 3 fm]) [3, 0, 1, 2] (by decide) rfl
  exact hret _ _ _ _ (Y i) () dX9_point_56 rfl (rfl) hP9 hD9 hS

abbrev rm_X9_loop : Room := { frames := 1, cells := 0, slots := 0, locals := 21 }
theorem i_X9_loop_X9 : ∀ w ∈ wsX90, w ∈ wsX9_loop := by decide +kernel
theorem k_X9_loop_f123 : Cond.fieldLink RX9 123 (TX9 22).1 (TX9 22).2.1 (TX9 22).2.2.1 ∈ wsX9_loop := by decide +kernel
theorem k_X9_loop_f70 : Cond.fieldLink RX9 70 (TX9 19).1 (TX9 19).2.1 (TX9 19).2.2.1 ∈ wsX9_loop := by decide +kernel
set_option maxHeartbeats 4000000 in
set_option maxRecDepth 100000 in
theorem c_X9_loop_0 (l : Launch) (g : gT) (mo : Nat) (th : Int32) (zt : Nat) (tn : Nat) (sz : Nat) (zx : Nat) (zy : Nat) (zm : Nat) (zb : Nat) (rt : Int32) (w0 : Int32) (w1 : Int32) (w2 : Int32) (lg : Int32) (nr : Int32) (yr : Nat) (va : Nat) (vb : Nat) (vc : Nat) (vd : Nat) (qa : Nat) (qb : Nat) (qc : Nat) (ln : Nat) (sa : Nat) (sb : Nat) (sc : Nat) (sd : Nat) (se : Nat) (pn : Nat) (ma : Nat) (mb : Nat) (mc : Nat) (rv : Nat) (mn : Nat) (tol : Int32) (rn : Nat) (g1 : Nat → Int32) (g2 : Nat → Int32) (g3 : Nat → Int32) (i : Nat) (hln : ln ≤ 30) (hi : i < ln) : CtI l g yX9_loop wsX9_loop rm_X9_loop [.ref mo, .int (nI i), .int 0] [gO mo 9 [.int th, .ref zt, .int (nI tn), .int (nI sz), .ref zx, .ref zy, .ref zm, .ref zb, .int rt, .int w0, .int w1, .int w2, .int lg, .int nr, .int (nI yr), .ref va, .ref vb, .ref vc, .ref vd, .ref qa, .ref qb, .ref qc, .int (nI ln), .ref sa, .ref sb, .ref sc, .ref sd, .ref se, .int (nI pn), .ref ma, .ref mb, .ref mc, .ref rv, .int (nI mn), .int tol, .int (nI rn)], gI g qa 30 g1, gI g qb 30 g2, gI g qc 30 g3] (fun (r : Int32) (_ : Unit) => r = g1 i) (fun (_ : Unit) => [gO mo 9 [.int 0, .ref zt, .int (nI tn), .int (nI sz), .ref zx, .ref zy, .ref zm, .ref zb, .int rt, .int w0, .int w1, .int w2, .int lg, .int nr, .int (nI yr), .ref va, .ref vb, .ref vc, .ref vd, .ref qa, .ref qb, .ref qc, .int (nI ln), .ref sa, .ref sb, .ref sc, .ref sd, .ref se, .int (nI pn), .ref ma, .ref mb, .ref mc, .ref rv, .int (nI mn), .int tol, .int (nI rn)], gI g qa 30 g1, gI g qb 30 g2, gI g qc 30 g3]) := by
  refine CtI.of (cc := cX9_loop) (maxL := 3) (ret := .int) (by decide) rfl (Nat.le_of_ble_eq_true rfl) ?_
  intro p e s m args below meth c A Q hnm F hK hA hP hD hS hret ls hl
  have hx := F.1
  have hb := F.2.1
  have hl : lv_has ls 3 [(0, .ref mo), (1, .int (nI i)), (2, .int 0)] := hl
  refine lv_aload_n hx hb dX9_loop_0 rfl (lv_at hl 0 rfl) ?_
  refine lv_iload_n hx hb dX9_loop_1 rfl (lv_at hl 1 rfl) ?_
  refine n_if_lt (a := i) (tgt := 22) hx hb dX9_loop_2 (by decide) (by omega) (fun h => absurd h (by omega)) (fun c_2 => ?_)
  refine lv_iload_n hx hb dX9_loop_5 rfl (lv_at hl 1 rfl) ?_
  refine lv_aload_n hx hb dX9_loop_6 rfl (lv_at hl 0 rfl) ?_
  refine g_get (C := RX9) (T := TX9) (N := 36) F hK hP i_X9_loop_X9 0 rfl rfl 22 (by decide) k_X9_loop_f123 (v := .int (nI ln)) rfl dX9_loop_7 ?_
  refine n_icmp_ge (a := i) (b := ln) (tgt := 22) hx hb dX9_loop_10 (by decide) (by omega) (by omega) (fun h => absurd h (by omega)) (fun c_10 => ?_)
  refine lv_iload_n hx hb dX9_loop_13 rfl (lv_at hl 2 rfl) ?_
  refine lv_if_lt (tgt := 22) hx hb dX9_loop_14 (by decide) (fun h => absurd h (by decide)) (fun _ => ?_)
  refine lv_iload_n hx hb dX9_loop_17 rfl (lv_at hl 2 rfl) ?_
  refine lv_iconst (v := 2) hx hb dX9_loop_18 (by decide) ?_
  refine lv_icmp_le (tgt := 26) hx hb dX9_loop_19 (by decide) (fun _ => ?_) (fun h => absurd (by decide) h)
  refine lv_iconst (v := 0) hx hb dX9_loop_26 (by decide) ?_
  refine g_VI (wr := [gI g qa 30 g1, gI g qb 30 g2, gI g qc 30 g3]) (As := [.int 0]) (rest := []) (n := 1) F (c_X9_throwsIf_0 l g mo th zt tn sz zx zy zm zb rt w0 w1 w2 lg nr yr va vb vc vd qa qb qc ln sa sb sc sd se pn ma mb mc rv mn tol rn) gX9_loop_X9_throwsIf rfl (by decide) ⟨by decide, by decide⟩ 0 9 rfl rfl rfl rfl hl.1 rfl (Nat.le_of_ble_eq_true rfl) dX9_loop_27 ⟨Nat.le_of_ble_eq_true rfl, Nat.le_of_ble_eq_true rfl⟩ hK hP hD hS hA [0] [1, 2, 3] (by decide) rfl rfl (by decide) (by decide) (fun r_27 u_27 H locs hw_27 hP hD hS => ?_)
  have hP : gP g [gI g qa 30 g1, gI g qb 30 g2, gI g qc 30 g3, gO mo 9 [.int 0, .ref zt, .int (nI tn), .int (nI sz), .ref zx, .ref zy, .ref zm, .ref zb, .int rt, .int w0, .int w1, .int w2, .int lg, .int nr, .int (nI yr), .ref va, .ref vb, .ref vc, .ref vd, .ref qa, .ref qb, .ref qc, .int (nI ln), .ref sa, .ref sb, .ref sc, .ref sd, .ref se, .int (nI pn), .ref ma, .ref mb, .ref mc, .ref rv, .int (nI mn), .int tol, .int (nI rn)]] H := hP
  have hD : va_D A [gI g qa 30 g1, gI g qb 30 g2, gI g qc 30 g3, gO mo 9 [.int 0, .ref zt, .int (nI tn), .int (nI sz), .ref zx, .ref zy, .ref zm, .ref zb, .int rt, .int w0, .int w1, .int w2, .int lg, .int nr, .int (nI yr), .ref va, .ref vb, .ref vc, .ref vd, .ref qa, .ref qb, .ref qc, .int (nI ln), .ref sa, .ref sb, .ref sc, .ref sd, .ref se, .int (nI pn), .ref ma, .ref mb, .ref mc, .ref rv, .int (nI mn), .int tol, .int (nI rn)]] := hD
  obtain rfl := hw_27
  refine lv_if_eq (tgt := 35) hx hb dX9_loop_30 (by decide) (fun _ => ?_) (fun h => absurd (by decide) h)
  refine lv_iload_n hx hb dX9_loop_35 rfl (lv_at hl 2 rfl) ?_
  refine lv_if_ne (tgt := 48) hx hb dX9_loop_36 (by decide) (fun h => absurd (by decide) h) (fun _ => ?_)
  refine lv_aload_n hx hb dX9_loop_39 rfl (lv_at hl 0 rfl) ?_
  refine g_get (C := RX9) (T := TX9) (N := 36) F hK hP i_X9_loop_X9 3 rfl rfl 19 (by decide) k_X9_loop_f70 (v := .ref qa) rfl dX9_loop_40 ?_
  refine lv_iload_n hx hb dX9_loop_43 rfl (lv_at hl 1 rfl) ?_
  refine g_iald (i := i) (v := (g1 i)) hx hb hK hP 0 rfl (by decide) (by omega) (rfl) dX9_loop_44 ?_
  refine lv_goto (tgt := 68) hx hb dX9_loop_45 (by decide) ?_
  have hP9 := hP.sub (ws' := [gO mo 9 [.int 0, .ref zt, .int (nI tn), .int (nI sz), .ref zx, .ref zy, .ref zm, .ref zb, .int rt, .int w0, .int w1, .int w2, .int lg, .int nr, .int (nI yr), .ref va, .ref vb, .ref vc, .ref vd, .ref qa, .ref qb, .ref qc, .int (nI ln), .ref sa, .ref sb, .ref sc, .ref sd, .ref se, .int (nI pn), .ref ma, .ref mb, .ref mc, .ref rv, .int (nI mn), .int tol, .int (nI rn)], gI g qa 30 g1, gI g qb 30 g2, gI g qc 30 g3]) [3, 0, 1, 2] rfl
  have hD9 := hD.sub (ws' := [gO mo 9 [.int 0, .ref zt, .int (nI tn), .int (nI sz), .ref zx, .ref zy, .ref zm, .ref zb, .int rt, .int w0, .int w1, .int w2, .int lg, .int nr, .int (nI yr), .ref va, .ref vb, .ref vc, .ref vd, .ref qa, .ref qb, .ref qc, .int (nI ln), .ref sa, .ref sb, .ref sc, .ref sd, .ref se, .int (nI pn), .ref ma, .ref mb, .ref mc, .ref rv, .int (nI mn), .int tol, .int (nI rn)], gI g qa 30 g1, gI g qb 30 g2, gI g qc 30 g3]) [3, 0, 1, 2] (by decide) rfl
  exact hret _ _ _ _ (g1 i) () dX9_loop_68 rfl (rfl) hP9 hD9 hS

theorem k_X9_loop_f73 : Cond.fieldLink RX9 73 (TX9 20).1 (TX9 20).2.1 (TX9 20).2.2.1 ∈ wsX9_loop := by decide +kernel
set_option maxHeartbeats 4000000 in
set_option maxRecDepth 100000 in
theorem c_X9_loop_1 (l : Launch) (g : gT) (mo : Nat) (th : Int32) (zt : Nat) (tn : Nat) (sz : Nat) (zx : Nat) (zy : Nat) (zm : Nat) (zb : Nat) (rt : Int32) (w0 : Int32) (w1 : Int32) (w2 : Int32) (lg : Int32) (nr : Int32) (yr : Nat) (va : Nat) (vb : Nat) (vc : Nat) (vd : Nat) (qa : Nat) (qb : Nat) (qc : Nat) (ln : Nat) (sa : Nat) (sb : Nat) (sc : Nat) (sd : Nat) (se : Nat) (pn : Nat) (ma : Nat) (mb : Nat) (mc : Nat) (rv : Nat) (mn : Nat) (tol : Int32) (rn : Nat) (g1 : Nat → Int32) (g2 : Nat → Int32) (g3 : Nat → Int32) (i : Nat) (hln : ln ≤ 30) (hi : i < ln) : CtI l g yX9_loop wsX9_loop rm_X9_loop [.ref mo, .int (nI i), .int 1] [gO mo 9 [.int th, .ref zt, .int (nI tn), .int (nI sz), .ref zx, .ref zy, .ref zm, .ref zb, .int rt, .int w0, .int w1, .int w2, .int lg, .int nr, .int (nI yr), .ref va, .ref vb, .ref vc, .ref vd, .ref qa, .ref qb, .ref qc, .int (nI ln), .ref sa, .ref sb, .ref sc, .ref sd, .ref se, .int (nI pn), .ref ma, .ref mb, .ref mc, .ref rv, .int (nI mn), .int tol, .int (nI rn)], gI g qa 30 g1, gI g qb 30 g2, gI g qc 30 g3] (fun (r : Int32) (_ : Unit) => r = g2 i) (fun (_ : Unit) => [gO mo 9 [.int 0, .ref zt, .int (nI tn), .int (nI sz), .ref zx, .ref zy, .ref zm, .ref zb, .int rt, .int w0, .int w1, .int w2, .int lg, .int nr, .int (nI yr), .ref va, .ref vb, .ref vc, .ref vd, .ref qa, .ref qb, .ref qc, .int (nI ln), .ref sa, .ref sb, .ref sc, .ref sd, .ref se, .int (nI pn), .ref ma, .ref mb, .ref mc, .ref rv, .int (nI mn), .int tol, .int (nI rn)], gI g qa 30 g1, gI g qb 30 g2, gI g qc 30 g3]) := by
  refine CtI.of (cc := cX9_loop) (maxL := 3) (ret := .int) (by decide) rfl (Nat.le_of_ble_eq_true rfl) ?_
  intro p e s m args below meth c A Q hnm F hK hA hP hD hS hret ls hl
  have hx := F.1
  have hb := F.2.1
  have hl : lv_has ls 3 [(0, .ref mo), (1, .int (nI i)), (2, .int 1)] := hl
  refine lv_aload_n hx hb dX9_loop_0 rfl (lv_at hl 0 rfl) ?_
  refine lv_iload_n hx hb dX9_loop_1 rfl (lv_at hl 1 rfl) ?_
  refine n_if_lt (a := i) (tgt := 22) hx hb dX9_loop_2 (by decide) (by omega) (fun h => absurd h (by omega)) (fun c_2 => ?_)
  refine lv_iload_n hx hb dX9_loop_5 rfl (lv_at hl 1 rfl) ?_
  refine lv_aload_n hx hb dX9_loop_6 rfl (lv_at hl 0 rfl) ?_
  refine g_get (C := RX9) (T := TX9) (N := 36) F hK hP i_X9_loop_X9 0 rfl rfl 22 (by decide) k_X9_loop_f123 (v := .int (nI ln)) rfl dX9_loop_7 ?_
  refine n_icmp_ge (a := i) (b := ln) (tgt := 22) hx hb dX9_loop_10 (by decide) (by omega) (by omega) (fun h => absurd h (by omega)) (fun c_10 => ?_)
  refine lv_iload_n hx hb dX9_loop_13 rfl (lv_at hl 2 rfl) ?_
  refine lv_if_lt (tgt := 22) hx hb dX9_loop_14 (by decide) (fun h => absurd h (by decide)) (fun _ => ?_)
  refine lv_iload_n hx hb dX9_loop_17 rfl (lv_at hl 2 rfl) ?_
  refine lv_iconst (v := 2) hx hb dX9_loop_18 (by decide) ?_
  refine lv_icmp_le (tgt := 26) hx hb dX9_loop_19 (by decide) (fun _ => ?_) (fun h => absurd (by decide) h)
  refine lv_iconst (v := 0) hx hb dX9_loop_26 (by decide) ?_
  refine g_VI (wr := [gI g qa 30 g1, gI g qb 30 g2, gI g qc 30 g3]) (As := [.int 0]) (rest := []) (n := 1) F (c_X9_throwsIf_0 l g mo th zt tn sz zx zy zm zb rt w0 w1 w2 lg nr yr va vb vc vd qa qb qc ln sa sb sc sd se pn ma mb mc rv mn tol rn) gX9_loop_X9_throwsIf rfl (by decide) ⟨by decide, by decide⟩ 0 9 rfl rfl rfl rfl hl.1 rfl (Nat.le_of_ble_eq_true rfl) dX9_loop_27 ⟨Nat.le_of_ble_eq_true rfl, Nat.le_of_ble_eq_true rfl⟩ hK hP hD hS hA [0] [1, 2, 3] (by decide) rfl rfl (by decide) (by decide) (fun r_27 u_27 H locs hw_27 hP hD hS => ?_)
  have hP : gP g [gI g qa 30 g1, gI g qb 30 g2, gI g qc 30 g3, gO mo 9 [.int 0, .ref zt, .int (nI tn), .int (nI sz), .ref zx, .ref zy, .ref zm, .ref zb, .int rt, .int w0, .int w1, .int w2, .int lg, .int nr, .int (nI yr), .ref va, .ref vb, .ref vc, .ref vd, .ref qa, .ref qb, .ref qc, .int (nI ln), .ref sa, .ref sb, .ref sc, .ref sd, .ref se, .int (nI pn), .ref ma, .ref mb, .ref mc, .ref rv, .int (nI mn), .int tol, .int (nI rn)]] H := hP
  have hD : va_D A [gI g qa 30 g1, gI g qb 30 g2, gI g qc 30 g3, gO mo 9 [.int 0, .ref zt, .int (nI tn), .int (nI sz), .ref zx, .ref zy, .ref zm, .ref zb, .int rt, .int w0, .int w1, .int w2, .int lg, .int nr, .int (nI yr), .ref va, .ref vb, .ref vc, .ref vd, .ref qa, .ref qb, .ref qc, .int (nI ln), .ref sa, .ref sb, .ref sc, .ref sd, .ref se, .int (nI pn), .ref ma, .ref mb, .ref mc, .ref rv, .int (nI mn), .int tol, .int (nI rn)]] := hD
  obtain rfl := hw_27
  refine lv_if_eq (tgt := 35) hx hb dX9_loop_30 (by decide) (fun _ => ?_) (fun h => absurd (by decide) h)
  refine lv_iload_n hx hb dX9_loop_35 rfl (lv_at hl 2 rfl) ?_
  refine lv_if_ne (tgt := 48) hx hb dX9_loop_36 (by decide) (fun _ => ?_) (fun h => absurd h (by decide))
  refine lv_iload_n hx hb dX9_loop_48 rfl (lv_at hl 2 rfl) ?_
  refine lv_iconst (v := 1) hx hb dX9_loop_49 (by decide) ?_
  refine lv_icmp_ne (tgt := 62) hx hb dX9_loop_50 (by decide) (fun h => absurd (by decide) h) (fun _ => ?_)
  refine lv_aload_n hx hb dX9_loop_53 rfl (lv_at hl 0 rfl) ?_
  refine g_get (C := RX9) (T := TX9) (N := 36) F hK hP i_X9_loop_X9 3 rfl rfl 20 (by decide) k_X9_loop_f73 (v := .ref qb) rfl dX9_loop_54 ?_
  refine lv_iload_n hx hb dX9_loop_57 rfl (lv_at hl 1 rfl) ?_
  refine g_iald (i := i) (v := (g2 i)) hx hb hK hP 1 rfl (by decide) (by omega) (rfl) dX9_loop_58 ?_
  refine lv_goto (tgt := 68) hx hb dX9_loop_59 (by decide) ?_
  have hP9 := hP.sub (ws' := [gO mo 9 [.int 0, .ref zt, .int (nI tn), .int (nI sz), .ref zx, .ref zy, .ref zm, .ref zb, .int rt, .int w0, .int w1, .int w2, .int lg, .int nr, .int (nI yr), .ref va, .ref vb, .ref vc, .ref vd, .ref qa, .ref qb, .ref qc, .int (nI ln), .ref sa, .ref sb, .ref sc, .ref sd, .ref se, .int (nI pn), .ref ma, .ref mb, .ref mc, .ref rv, .int (nI mn), .int tol, .int (nI rn)], gI g qa 30 g1, gI g qb 30 g2, gI g qc 30 g3]) [3, 0, 1, 2] rfl
  have hD9 := hD.sub (ws' := [gO mo 9 [.int 0, .ref zt, .int (nI tn), .int (nI sz), .ref zx, .ref zy, .ref zm, .ref zb, .int rt, .int w0, .int w1, .int w2, .int lg, .int nr, .int (nI yr), .ref va, .ref vb, .ref vc, .ref vd, .ref qa, .ref qb, .ref qc, .int (nI ln), .ref sa, .ref sb, .ref sc, .ref sd, .ref se, .int (nI pn), .ref ma, .ref mb, .ref mc, .ref rv, .int (nI mn), .int tol, .int (nI rn)], gI g qa 30 g1, gI g qb 30 g2, gI g qc 30 g3]) [3, 0, 1, 2] (by decide) rfl
  exact hret _ _ _ _ (g2 i) () dX9_loop_68 rfl (rfl) hP9 hD9 hS

theorem k_X9_loop_f76 : Cond.fieldLink RX9 76 (TX9 21).1 (TX9 21).2.1 (TX9 21).2.2.1 ∈ wsX9_loop := by decide +kernel
set_option maxHeartbeats 4000000 in
set_option maxRecDepth 100000 in
theorem c_X9_loop_2 (l : Launch) (g : gT) (mo : Nat) (th : Int32) (zt : Nat) (tn : Nat) (sz : Nat) (zx : Nat) (zy : Nat) (zm : Nat) (zb : Nat) (rt : Int32) (w0 : Int32) (w1 : Int32) (w2 : Int32) (lg : Int32) (nr : Int32) (yr : Nat) (va : Nat) (vb : Nat) (vc : Nat) (vd : Nat) (qa : Nat) (qb : Nat) (qc : Nat) (ln : Nat) (sa : Nat) (sb : Nat) (sc : Nat) (sd : Nat) (se : Nat) (pn : Nat) (ma : Nat) (mb : Nat) (mc : Nat) (rv : Nat) (mn : Nat) (tol : Int32) (rn : Nat) (g1 : Nat → Int32) (g2 : Nat → Int32) (g3 : Nat → Int32) (i : Nat) (hln : ln ≤ 30) (hi : i < ln) : CtI l g yX9_loop wsX9_loop rm_X9_loop [.ref mo, .int (nI i), .int 2] [gO mo 9 [.int th, .ref zt, .int (nI tn), .int (nI sz), .ref zx, .ref zy, .ref zm, .ref zb, .int rt, .int w0, .int w1, .int w2, .int lg, .int nr, .int (nI yr), .ref va, .ref vb, .ref vc, .ref vd, .ref qa, .ref qb, .ref qc, .int (nI ln), .ref sa, .ref sb, .ref sc, .ref sd, .ref se, .int (nI pn), .ref ma, .ref mb, .ref mc, .ref rv, .int (nI mn), .int tol, .int (nI rn)], gI g qa 30 g1, gI g qb 30 g2, gI g qc 30 g3] (fun (r : Int32) (_ : Unit) => r = g3 i) (fun (_ : Unit) => [gO mo 9 [.int 0, .ref zt, .int (nI tn), .int (nI sz), .ref zx, .ref zy, .ref zm, .ref zb, .int rt, .int w0, .int w1, .int w2, .int lg, .int nr, .int (nI yr), .ref va, .ref vb, .ref vc, .ref vd, .ref qa, .ref qb, .ref qc, .int (nI ln), .ref sa, .ref sb, .ref sc, .ref sd, .ref se, .int (nI pn), .ref ma, .ref mb, .ref mc, .ref rv, .int (nI mn), .int tol, .int (nI rn)], gI g qa 30 g1, gI g qb 30 g2, gI g qc 30 g3]) := by
  refine CtI.of (cc := cX9_loop) (maxL := 3) (ret := .int) (by decide) rfl (Nat.le_of_ble_eq_true rfl) ?_
  intro p e s m args below meth c A Q hnm F hK hA hP hD hS hret ls hl
  have hx := F.1
  have hb := F.2.1
  have hl : lv_has ls 3 [(0, .ref mo), (1, .int (nI i)), (2, .int 2)] := hl
  refine lv_aload_n hx hb dX9_loop_0 rfl (lv_at hl 0 rfl) ?_
  refine lv_iload_n hx hb dX9_loop_1 rfl (lv_at hl 1 rfl) ?_
  refine n_if_lt (a := i) (tgt := 22) hx hb dX9_loop_2 (by decide) (by omega) (fun h => absurd h (by omega)) (fun c_2 => ?_)
  refine lv_iload_n hx hb dX9_loop_5 rfl (lv_at hl 1 rfl) ?_
  refine lv_aload_n hx hb dX9_loop_6 rfl (lv_at hl 0 rfl) ?_
  refine g_get (C := RX9) (T := TX9) (N := 36) F hK hP i_X9_loop_X9 0 rfl rfl 22 (by decide) k_X9_loop_f123 (v := .int (nI ln)) rfl dX9_loop_7 ?_
  refine n_icmp_ge (a := i) (b := ln) (tgt := 22) hx hb dX9_loop_10 (by decide) (by omega) (by omega) (fun h => absurd h (by omega)) (fun c_10 => ?_)
  refine lv_iload_n hx hb dX9_loop_13 rfl (lv_at hl 2 rfl) ?_
  refine lv_if_lt (tgt := 22) hx hb dX9_loop_14 (by decide) (fun h => absurd h (by decide)) (fun _ => ?_)
  refine lv_iload_n hx hb dX9_loop_17 rfl (lv_at hl 2 rfl) ?_
  refine lv_iconst (v := 2) hx hb dX9_loop_18 (by decide) ?_
  refine lv_icmp_le (tgt := 26) hx hb dX9_loop_19 (by decide) (fun _ => ?_) (fun h => absurd (by decide) h)
  refine lv_iconst (v := 0) hx hb dX9_loop_26 (by decide) ?_
  refine g_VI (wr := [gI g qa 30 g1, gI g qb 30 g2, gI g qc 30 g3]) (As := [.int 0]) (rest := []) (n := 1) F (c_X9_throwsIf_0 l g mo th zt tn sz zx zy zm zb rt w0 w1 w2 lg nr yr va vb vc vd qa qb qc ln sa sb sc sd se pn ma mb mc rv mn tol rn) gX9_loop_X9_throwsIf rfl (by decide) ⟨by decide, by decide⟩ 0 9 rfl rfl rfl rfl hl.1 rfl (Nat.le_of_ble_eq_true rfl) dX9_loop_27 ⟨Nat.le_of_ble_eq_true rfl, Nat.le_of_ble_eq_true rfl⟩ hK hP hD hS hA [0] [1, 2, 3] (by decide) rfl rfl (by decide) (by decide) (fun r_27 u_27 H locs hw_27 hP hD hS => ?_)
  have hP : gP g [gI g qa 30 g1, gI g qb 30 g2, gI g qc 30 g3, gO mo 9 [.int 0, .ref zt, .int (nI tn), .int (nI sz), .ref zx, .ref zy, .ref zm, .ref zb, .int rt, .int w0, .int w1, .int w2, .int lg, .int nr, .int (nI yr), .ref va, .ref vb, .ref vc, .ref vd, .ref qa, .ref qb, .ref qc, .int (nI ln), .ref sa, .ref sb, .ref sc, .ref sd, .ref se, .int (nI pn), .ref ma, .ref mb, .ref mc, .ref rv, .int (nI mn), .int tol, .int (nI rn)]] H := hP
  have hD : va_D A [gI g qa 30 g1, gI g qb 30 g2, gI g qc 30 g3, gO mo 9 [.int 0, .ref zt, .int (nI tn), .int (nI sz), .ref zx, .ref zy, .ref zm, .ref zb, .int rt, .int w0, .int w1, .int w2, .int lg, .int nr, .int (nI yr), .ref va, .ref vb, .ref vc, .ref vd, .ref qa, .ref qb, .ref qc, .int (nI ln), .ref sa, .ref sb, .ref sc, .ref sd, .ref se, .int (nI pn), .ref ma, .ref mb, .ref mc, .ref rv, .int (nI mn), .int tol, .int (nI rn)]] := hD
  obtain rfl := hw_27
  refine lv_if_eq (tgt := 35) hx hb dX9_loop_30 (by decide) (fun _ => ?_) (fun h => absurd (by decide) h)
  refine lv_iload_n hx hb dX9_loop_35 rfl (lv_at hl 2 rfl) ?_
  refine lv_if_ne (tgt := 48) hx hb dX9_loop_36 (by decide) (fun _ => ?_) (fun h => absurd h (by decide))
  refine lv_iload_n hx hb dX9_loop_48 rfl (lv_at hl 2 rfl) ?_
  refine lv_iconst (v := 1) hx hb dX9_loop_49 (by decide) ?_
  refine lv_icmp_ne (tgt := 62) hx hb dX9_loop_50 (by decide) (fun _ => ?_) (fun h => absurd h (by decide))
  refine lv_aload_n hx hb dX9_loop_62 rfl (lv_at hl 0 rfl) ?_
  refine g_get (C := RX9) (T := TX9) (N := 36) F hK hP i_X9_loop_X9 3 rfl rfl 21 (by decide) k_X9_loop_f76 (v := .ref qc) rfl dX9_loop_63 ?_
  refine lv_iload_n hx hb dX9_loop_66 rfl (lv_at hl 1 rfl) ?_
  refine g_iald (i := i) (v := (g3 i)) hx hb hK hP 2 rfl (by decide) (by omega) (rfl) dX9_loop_67 ?_
  have hP9 := hP.sub (ws' := [gO mo 9 [.int 0, .ref zt, .int (nI tn), .int (nI sz), .ref zx, .ref zy, .ref zm, .ref zb, .int rt, .int w0, .int w1, .int w2, .int lg, .int nr, .int (nI yr), .ref va, .ref vb, .ref vc, .ref vd, .ref qa, .ref qb, .ref qc, .int (nI ln), .ref sa, .ref sb, .ref sc, .ref sd, .ref se, .int (nI pn), .ref ma, .ref mb, .ref mc, .ref rv, .int (nI mn), .int tol, .int (nI rn)], gI g qa 30 g1, gI g qb 30 g2, gI g qc 30 g3]) [3, 0, 1, 2] rfl
  have hD9 := hD.sub (ws' := [gO mo 9 [.int 0, .ref zt, .int (nI tn), .int (nI sz), .ref zx, .ref zy, .ref zm, .ref zb, .int rt, .int w0, .int w1, .int w2, .int lg, .int nr, .int (nI yr), .ref va, .ref vb, .ref vc, .ref vd, .ref qa, .ref qb, .ref qc, .int (nI ln), .ref sa, .ref sb, .ref sc, .ref sd, .ref se, .int (nI pn), .ref ma, .ref mb, .ref mc, .ref rv, .int (nI mn), .int tol, .int (nI rn)], gI g qa 30 g1, gI g qb 30 g2, gI g qc 30 g3]) [3, 0, 1, 2] (by decide) rfl
  exact hret _ _ _ _ (g3 i) () dX9_loop_68 rfl (rfl) hP9 hD9 hS

abbrev rm_X9_owner : Room := { frames := 1, cells := 0, slots := 0, locals := 30 }
theorem i_X9_owner_X9 : ∀ w ∈ wsX90, w ∈ wsX9_owner := by decide +kernel
theorem k_X9_owner_f126 : Cond.fieldLink RX9 126 (TX9 28).1 (TX9 28).2.1 (TX9 28).2.2.1 ∈ wsX9_owner := by decide +kernel
theorem k_X9_owner_f85 : Cond.fieldLink RX9 85 (TX9 25).1 (TX9 25).2.1 (TX9 25).2.2.1 ∈ wsX9_owner := by decide +kernel
set_option maxHeartbeats 4000000 in
set_option maxRecDepth 100000 in
theorem c_X9_owner_0 (l : Launch) (g : gT) (mo : Nat) (th : Int32) (zt : Nat) (tn : Nat) (sz : Nat) (zx : Nat) (zy : Nat) (zm : Nat) (zb : Nat) (rt : Int32) (w0 : Int32) (w1 : Int32) (w2 : Int32) (lg : Int32) (nr : Int32) (yr : Nat) (va : Nat) (vb : Nat) (vc : Nat) (vd : Nat) (qa : Nat) (qb : Nat) (qc : Nat) (ln : Nat) (sa : Nat) (sb : Nat) (sc : Nat) (sd : Nat) (se : Nat) (pn : Nat) (ma : Nat) (mb : Nat) (mc : Nat) (rv : Nat) (mn : Nat) (tol : Int32) (rn : Nat) (d1 : Nat → Int32) (d2 : Nat → Int32) (d3 : Nat → Int32) (d4 : Nat → Int32) (d5 : Nat → Int32) (i : Nat) (hpn : pn ≤ 20) (hi : i < pn) : CtI l g yX9_owner wsX9_owner rm_X9_owner [.ref mo, .int (nI i), .int 0] [gO mo 9 [.int th, .ref zt, .int (nI tn), .int (nI sz), .ref zx, .ref zy, .ref zm, .ref zb, .int rt, .int w0, .int w1, .int w2, .int lg, .int nr, .int (nI yr), .ref va, .ref vb, .ref vc, .ref vd, .ref qa, .ref qb, .ref qc, .int (nI ln), .ref sa, .ref sb, .ref sc, .ref sd, .ref se, .int (nI pn), .ref ma, .ref mb, .ref mc, .ref rv, .int (nI mn), .int tol, .int (nI rn)], gI g sa 20 d1, gI g sb 20 d2, gI g sc 20 d3, gI g sd 20 d4, gI g se 20 d5] (fun (r : Int32) (_ : Unit) => r = d3 i) (fun (_ : Unit) => [gO mo 9 [.int 0, .ref zt, .int (nI tn), .int (nI sz), .ref zx, .ref zy, .ref zm, .ref zb, .int rt, .int w0, .int w1, .int w2, .int lg, .int nr, .int (nI yr), .ref va, .ref vb, .ref vc, .ref vd, .ref qa, .ref qb, .ref qc, .int (nI ln), .ref sa, .ref sb, .ref sc, .ref sd, .ref se, .int (nI pn), .ref ma, .ref mb, .ref mc, .ref rv, .int (nI mn), .int tol, .int (nI rn)], gI g sa 20 d1, gI g sb 20 d2, gI g sc 20 d3, gI g sd 20 d4, gI g se 20 d5]) := by
  refine CtI.of (cc := cX9_owner) (maxL := 3) (ret := .int) (by decide) rfl (Nat.le_of_ble_eq_true rfl) ?_
  intro p e s m args below meth c A Q hnm F hK hA hP hD hS hret ls hl
  have hx := F.1
  have hb := F.2.1
  have hl : lv_has ls 3 [(0, .ref mo), (1, .int (nI i)), (2, .int 0)] := hl
  refine lv_aload_n hx hb dX9_owner_0 rfl (lv_at hl 0 rfl) ?_
  refine lv_iload_n hx hb dX9_owner_1 rfl (lv_at hl 1 rfl) ?_
  refine n_if_lt (a := i) (tgt := 22) hx hb dX9_owner_2 (by decide) (by omega) (fun h => absurd h (by omega)) (fun c_2 => ?_)
  refine lv_iload_n hx hb dX9_owner_5 rfl (lv_at hl 1 rfl) ?_
  refine lv_aload_n hx hb dX9_owner_6 rfl (lv_at hl 0 rfl) ?_
  refine g_get (C := RX9) (T := TX9) (N := 36) F hK hP i_X9_owner_X9 0 rfl rfl 28 (by decide) k_X9_owner_f126 (v := .int (nI pn)) rfl dX9_owner_7 ?_
  refine n_icmp_ge (a := i) (b := pn) (tgt := 22) hx hb dX9_owner_10 (by decide) (by omega) (by omega) (fun h => absurd h (by omega)) (fun c_10 => ?_)
  refine lv_iload_n hx hb dX9_owner_13 rfl (lv_at hl 2 rfl) ?_
  refine lv_if_lt (tgt := 22) hx hb dX9_owner_14 (by decide) (fun h => absurd h (by decide)) (fun _ => ?_)
  refine lv_iload_n hx hb dX9_owner_17 rfl (lv_at hl 2 rfl) ?_
  refine lv_iconst (v := 2) hx hb dX9_owner_18 (by decide) ?_
  refine lv_icmp_le (tgt := 26) hx hb dX9_owner_19 (by decide) (fun _ => ?_) (fun h => absurd (by decide) h)
  refine lv_iconst (v := 0) hx hb dX9_owner_26 (by decide) ?_
  refine g_VI (wr := [gI g sa 20 d1, gI g sb 20 d2, gI g sc 20 d3, gI g sd 20 d4, gI g se 20 d5]) (As := [.int 0]) (rest := []) (n := 1) F (c_X9_throwsIf_0 l g mo th zt tn sz zx zy zm zb rt w0 w1 w2 lg nr yr va vb vc vd qa qb qc ln sa sb sc sd se pn ma mb mc rv mn tol rn) gX9_owner_X9_throwsIf rfl (by decide) ⟨by decide, by decide⟩ 0 9 rfl rfl rfl rfl hl.1 rfl (Nat.le_of_ble_eq_true rfl) dX9_owner_27 ⟨Nat.le_of_ble_eq_true rfl, Nat.le_of_ble_eq_true rfl⟩ hK hP hD hS hA [0] [1, 2, 3, 4, 5] (by decide) rfl rfl (by decide) (by decide) (fun r_27 u_27 H locs hw_27 hP hD hS => ?_)
  have hP : gP g [gI g sa 20 d1, gI g sb 20 d2, gI g sc 20 d3, gI g sd 20 d4, gI g se 20 d5, gO mo 9 [.int 0, .ref zt, .int (nI tn), .int (nI sz), .ref zx, .ref zy, .ref zm, .ref zb, .int rt, .int w0, .int w1, .int w2, .int lg, .int nr, .int (nI yr), .ref va, .ref vb, .ref vc, .ref vd, .ref qa, .ref qb, .ref qc, .int (nI ln), .ref sa, .ref sb, .ref sc, .ref sd, .ref se, .int (nI pn), .ref ma, .ref mb, .ref mc, .ref rv, .int (nI mn), .int tol, .int (nI rn)]] H := hP
  have hD : va_D A [gI g sa 20 d1, gI g sb 20 d2, gI g sc 20 d3, gI g sd 20 d4, gI g se 20 d5, gO mo 9 [.int 0, .ref zt, .int (nI tn), .int (nI sz), .ref zx, .ref zy, .ref zm, .ref zb, .int rt, .int w0, .int w1, .int w2, .int lg, .int nr, .int (nI yr), .ref va, .ref vb, .ref vc, .ref vd, .ref qa, .ref qb, .ref qc, .int (nI ln), .ref sa, .ref sb, .ref sc, .ref sd, .ref se, .int (nI pn), .ref ma, .ref mb, .ref mc, .ref rv, .int (nI mn), .int tol, .int (nI rn)]] := hD
  obtain rfl := hw_27
  refine lv_if_eq (tgt := 35) hx hb dX9_owner_30 (by decide) (fun _ => ?_) (fun h => absurd (by decide) h)
  refine lv_iload_n hx hb dX9_owner_35 rfl (lv_at hl 2 rfl) ?_
  refine lv_if_ne (tgt := 48) hx hb dX9_owner_36 (by decide) (fun h => absurd (by decide) h) (fun _ => ?_)
  refine lv_aload_n hx hb dX9_owner_39 rfl (lv_at hl 0 rfl) ?_
  refine g_get (C := RX9) (T := TX9) (N := 36) F hK hP i_X9_owner_X9 5 rfl rfl 25 (by decide) k_X9_owner_f85 (v := .ref sc) rfl dX9_owner_40 ?_
  refine lv_iload_n hx hb dX9_owner_43 rfl (lv_at hl 1 rfl) ?_
  refine g_iald (i := i) (v := (d3 i)) hx hb hK hP 2 rfl (by decide) (by omega) (rfl) dX9_owner_44 ?_
  refine lv_goto (tgt := 79) hx hb dX9_owner_45 (by decide) ?_
  have hP9 := hP.sub (ws' := [gO mo 9 [.int 0, .ref zt, .int (nI tn), .int (nI sz), .ref zx, .ref zy, .ref zm, .ref zb, .int rt, .int w0, .int w1, .int w2, .int lg, .int nr, .int (nI yr), .ref va, .ref vb, .ref vc, .ref vd, .ref qa, .ref qb, .ref qc, .int (nI ln), .ref sa, .ref sb, .ref sc, .ref sd, .ref se, .int (nI pn), .ref ma, .ref mb, .ref mc, .ref rv, .int (nI mn), .int tol, .int (nI rn)], gI g sa 20 d1, gI g sb 20 d2, gI g sc 20 d3, gI g sd 20 d4, gI g se 20 d5]) [5, 0, 1, 2, 3, 4] rfl
  have hD9 := hD.sub (ws' := [gO mo 9 [.int 0, .ref zt, .int (nI tn), .int (nI sz), .ref zx, .ref zy, .ref zm, .ref zb, .int rt, .int w0, .int w1, .int w2, .int lg, .int nr, .int (nI yr), .ref va, .ref vb, .ref vc, .ref vd, .ref qa, .ref qb, .ref qc, .int (nI ln), .ref sa, .ref sb, .ref sc, .ref sd, .ref se, .int (nI pn), .ref ma, .ref mb, .ref mc, .ref rv, .int (nI mn), .int tol, .int (nI rn)], gI g sa 20 d1, gI g sb 20 d2, gI g sc 20 d3, gI g sd 20 d4, gI g se 20 d5]) [5, 0, 1, 2, 3, 4] (by decide) rfl
  exact hret _ _ _ _ (d3 i) () dX9_owner_79 rfl (rfl) hP9 hD9 hS

theorem k_X9_owner_f88 : Cond.fieldLink RX9 88 (TX9 26).1 (TX9 26).2.1 (TX9 26).2.2.1 ∈ wsX9_owner := by decide +kernel
set_option maxHeartbeats 4000000 in
set_option maxRecDepth 100000 in
theorem c_X9_owner_2 (l : Launch) (g : gT) (mo : Nat) (th : Int32) (zt : Nat) (tn : Nat) (sz : Nat) (zx : Nat) (zy : Nat) (zm : Nat) (zb : Nat) (rt : Int32) (w0 : Int32) (w1 : Int32) (w2 : Int32) (lg : Int32) (nr : Int32) (yr : Nat) (va : Nat) (vb : Nat) (vc : Nat) (vd : Nat) (qa : Nat) (qb : Nat) (qc : Nat) (ln : Nat) (sa : Nat) (sb : Nat) (sc : Nat) (sd : Nat) (se : Nat) (pn : Nat) (ma : Nat) (mb : Nat) (mc : Nat) (rv : Nat) (mn : Nat) (tol : Int32) (rn : Nat) (d1 : Nat → Int32) (d2 : Nat → Int32) (d3 : Nat → Int32) (d4 : Nat → Int32) (d5 : Nat → Int32) (i : Nat) (hpn : pn ≤ 20) (hi : i < pn) : CtI l g yX9_owner wsX9_owner rm_X9_owner [.ref mo, .int (nI i), .int 2] [gO mo 9 [.int th, .ref zt, .int (nI tn), .int (nI sz), .ref zx, .ref zy, .ref zm, .ref zb, .int rt, .int w0, .int w1, .int w2, .int lg, .int nr, .int (nI yr), .ref va, .ref vb, .ref vc, .ref vd, .ref qa, .ref qb, .ref qc, .int (nI ln), .ref sa, .ref sb, .ref sc, .ref sd, .ref se, .int (nI pn), .ref ma, .ref mb, .ref mc, .ref rv, .int (nI mn), .int tol, .int (nI rn)], gI g sa 20 d1, gI g sb 20 d2, gI g sc 20 d3, gI g sd 20 d4, gI g se 20 d5] (fun (r : Int32) (_ : Unit) => r = d4 i) (fun (_ : Unit) => [gO mo 9 [.int 0, .ref zt, .int (nI tn), .int (nI sz), .ref zx, .ref zy, .ref zm, .ref zb, .int rt, .int w0, .int w1, .int w2, .int lg, .int nr, .int (nI yr), .ref va, .ref vb, .ref vc, .ref vd, .ref qa, .ref qb, .ref qc, .int (nI ln), .ref sa, .ref sb, .ref sc, .ref sd, .ref se, .int (nI pn), .ref ma, .ref mb, .ref mc, .ref rv, .int (nI mn), .int tol, .int (nI rn)], gI g sa 20 d1, gI g sb 20 d2, gI g sc 20 d3, gI g sd 20 d4, gI g se 20 d5]) := by
  refine CtI.of (cc := cX9_owner) (maxL := 3) (ret := .int) (by decide) rfl (Nat.le_of_ble_eq_true rfl) ?_
  intro p e s m args below meth c A Q hnm F hK hA hP hD hS hret ls hl
  have hx := F.1
  have hb := F.2.1
  have hl : lv_has ls 3 [(0, .ref mo), (1, .int (nI i)), (2, .int 2)] := hl
  refine lv_aload_n hx hb dX9_owner_0 rfl (lv_at hl 0 rfl) ?_
  refine lv_iload_n hx hb dX9_owner_1 rfl (lv_at hl 1 rfl) ?_
  refine n_if_lt (a := i) (tgt := 22) hx hb dX9_owner_2 (by decide) (by omega) (fun h => absurd h (by omega)) (fun c_2 => ?_)
  refine lv_iload_n hx hb dX9_owner_5 rfl (lv_at hl 1 rfl) ?_
  refine lv_aload_n hx hb dX9_owner_6 rfl (lv_at hl 0 rfl) ?_
  refine g_get (C := RX9) (T := TX9) (N := 36) F hK hP i_X9_owner_X9 0 rfl rfl 28 (by decide) k_X9_owner_f126 (v := .int (nI pn)) rfl dX9_owner_7 ?_
  refine n_icmp_ge (a := i) (b := pn) (tgt := 22) hx hb dX9_owner_10 (by decide) (by omega) (by omega) (fun h => absurd h (by omega)) (fun c_10 => ?_)
  refine lv_iload_n hx hb dX9_owner_13 rfl (lv_at hl 2 rfl) ?_
  refine lv_if_lt (tgt := 22) hx hb dX9_owner_14 (by decide) (fun h => absurd h (by decide)) (fun _ => ?_)
  refine lv_iload_n hx hb dX9_owner_17 rfl (lv_at hl 2 rfl) ?_
  refine lv_iconst (v := 2) hx hb dX9_owner_18 (by decide) ?_
  refine lv_icmp_le (tgt := 26) hx hb dX9_owner_19 (by decide) (fun _ => ?_) (fun h => absurd (by decide) h)
  refine lv_iconst (v := 0) hx hb dX9_owner_26 (by decide) ?_
  refine g_VI (wr := [gI g sa 20 d1, gI g sb 20 d2, gI g sc 20 d3, gI g sd 20 d4, gI g se 20 d5]) (As := [.int 0]) (rest := []) (n := 1) F (c_X9_throwsIf_0 l g mo th zt tn sz zx zy zm zb rt w0 w1 w2 lg nr yr va vb vc vd qa qb qc ln sa sb sc sd se pn ma mb mc rv mn tol rn) gX9_owner_X9_throwsIf rfl (by decide) ⟨by decide, by decide⟩ 0 9 rfl rfl rfl rfl hl.1 rfl (Nat.le_of_ble_eq_true rfl) dX9_owner_27 ⟨Nat.le_of_ble_eq_true rfl, Nat.le_of_ble_eq_true rfl⟩ hK hP hD hS hA [0] [1, 2, 3, 4, 5] (by decide) rfl rfl (by decide) (by decide) (fun r_27 u_27 H locs hw_27 hP hD hS => ?_)
  have hP : gP g [gI g sa 20 d1, gI g sb 20 d2, gI g sc 20 d3, gI g sd 20 d4, gI g se 20 d5, gO mo 9 [.int 0, .ref zt, .int (nI tn), .int (nI sz), .ref zx, .ref zy, .ref zm, .ref zb, .int rt, .int w0, .int w1, .int w2, .int lg, .int nr, .int (nI yr), .ref va, .ref vb, .ref vc, .ref vd, .ref qa, .ref qb, .ref qc, .int (nI ln), .ref sa, .ref sb, .ref sc, .ref sd, .ref se, .int (nI pn), .ref ma, .ref mb, .ref mc, .ref rv, .int (nI mn), .int tol, .int (nI rn)]] H := hP
  have hD : va_D A [gI g sa 20 d1, gI g sb 20 d2, gI g sc 20 d3, gI g sd 20 d4, gI g se 20 d5, gO mo 9 [.int 0, .ref zt, .int (nI tn), .int (nI sz), .ref zx, .ref zy, .ref zm, .ref zb, .int rt, .int w0, .int w1, .int w2, .int lg, .int nr, .int (nI yr), .ref va, .ref vb, .ref vc, .ref vd, .ref qa, .ref qb, .ref qc, .int (nI ln), .ref sa, .ref sb, .ref sc, .ref sd, .ref se, .int (nI pn), .ref ma, .ref mb, .ref mc, .ref rv, .int (nI mn), .int tol, .int (nI rn)]] := hD
  obtain rfl := hw_27
  refine lv_if_eq (tgt := 35) hx hb dX9_owner_30 (by decide) (fun _ => ?_) (fun h => absurd (by decide) h)
  refine lv_iload_n hx hb dX9_owner_35 rfl (lv_at hl 2 rfl) ?_
  refine lv_if_ne (tgt := 48) hx hb dX9_owner_36 (by decide) (fun _ => ?_) (fun h => absurd h (by decide))
  refine lv_iload_n hx hb dX9_owner_48 rfl (lv_at hl 2 rfl) ?_
  refine lv_iconst (v := 1) hx hb dX9_owner_49 (by decide) ?_
  refine lv_icmp_ne (tgt := 73) hx hb dX9_owner_50 (by decide) (fun _ => ?_) (fun h => absurd h (by decide))
  refine lv_aload_n hx hb dX9_owner_73 rfl (lv_at hl 0 rfl) ?_
  refine g_get (C := RX9) (T := TX9) (N := 36) F hK hP i_X9_owner_X9 5 rfl rfl 26 (by decide) k_X9_owner_f88 (v := .ref sd) rfl dX9_owner_74 ?_
  refine lv_iload_n hx hb dX9_owner_77 rfl (lv_at hl 1 rfl) ?_
  refine g_iald (i := i) (v := (d4 i)) hx hb hK hP 3 rfl (by decide) (by omega) (rfl) dX9_owner_78 ?_
  have hP9 := hP.sub (ws' := [gO mo 9 [.int 0, .ref zt, .int (nI tn), .int (nI sz), .ref zx, .ref zy, .ref zm, .ref zb, .int rt, .int w0, .int w1, .int w2, .int lg, .int nr, .int (nI yr), .ref va, .ref vb, .ref vc, .ref vd, .ref qa, .ref qb, .ref qc, .int (nI ln), .ref sa, .ref sb, .ref sc, .ref sd, .ref se, .int (nI pn), .ref ma, .ref mb, .ref mc, .ref rv, .int (nI mn), .int tol, .int (nI rn)], gI g sa 20 d1, gI g sb 20 d2, gI g sc 20 d3, gI g sd 20 d4, gI g se 20 d5]) [5, 0, 1, 2, 3, 4] rfl
  have hD9 := hD.sub (ws' := [gO mo 9 [.int 0, .ref zt, .int (nI tn), .int (nI sz), .ref zx, .ref zy, .ref zm, .ref zb, .int rt, .int w0, .int w1, .int w2, .int lg, .int nr, .int (nI yr), .ref va, .ref vb, .ref vc, .ref vd, .ref qa, .ref qb, .ref qc, .int (nI ln), .ref sa, .ref sb, .ref sc, .ref sd, .ref se, .int (nI pn), .ref ma, .ref mb, .ref mc, .ref rv, .int (nI mn), .int tol, .int (nI rn)], gI g sa 20 d1, gI g sb 20 d2, gI g sc 20 d3, gI g sd 20 d4, gI g se 20 d5]) [5, 0, 1, 2, 3, 4] (by decide) rfl
  exact hret _ _ _ _ (d4 i) () dX9_owner_79 rfl (rfl) hP9 hD9 hS

theorem k_X9_owner_f79 : Cond.fieldLink RX9 79 (TX9 23).1 (TX9 23).2.1 (TX9 23).2.2.1 ∈ wsX9_owner := by decide +kernel
theorem k_X9_owner_f82 : Cond.fieldLink RX9 82 (TX9 24).1 (TX9 24).2.1 (TX9 24).2.2.1 ∈ wsX9_owner := by decide +kernel
set_option maxHeartbeats 4000000 in
set_option maxRecDepth 100000 in
theorem c_X9_owner_1 (l : Launch) (g : gT) (mo : Nat) (th : Int32) (zt : Nat) (tn : Nat) (sz : Nat) (zx : Nat) (zy : Nat) (zm : Nat) (zb : Nat) (rt : Int32) (w0 : Int32) (w1 : Int32) (w2 : Int32) (lg : Int32) (nr : Int32) (yr : Nat) (va : Nat) (vb : Nat) (vc : Nat) (vd : Nat) (qa : Nat) (qb : Nat) (qc : Nat) (ln : Nat) (sa : Nat) (sb : Nat) (sc : Nat) (sd : Nat) (se : Nat) (pn : Nat) (ma : Nat) (mb : Nat) (mc : Nat) (rv : Nat) (mn : Nat) (tol : Int32) (rn : Nat) (n : Nat) (fm : Nat → Int32) (fx : Nat → Int32) (fy : Nat → Int32) (X : Nat → Int32) (Y : Nat → Int32) (d1 : Nat → Int32) (d2 : Nat → Int32) (d3 : Nat → Int32) (d4 : Nat → Int32) (d5 : Nat → Int32) (i : Nat) (hm0 : fm 0 = nI n) (hn : n ≤ 48) (hX0 : ∀ k, k < n → fx (48 * 0 + k) = X k) (hY0 : ∀ k, k < n → fy (48 * 0 + k) = Y k) (hok : okL (n, X, Y)) (hpn : pn ≤ 20) (hi : i < pn) (hpl : inP (d1 i) ∧ inP (d2 i)) : CtI l g yX9_owner wsX9_owner rm_X9_owner [.ref mo, .int (nI i), .int 1] [gO mo 9 [.int th, .ref zt, .int (nI tn), .int (nI sz), .ref zx, .ref zy, .ref zm, .ref zb, .int rt, .int w0, .int w1, .int w2, .int lg, .int nr, .int (nI yr), .ref va, .ref vb, .ref vc, .ref vd, .ref qa, .ref qb, .ref qc, .int (nI ln), .ref sa, .ref sb, .ref sc, .ref sd, .ref se, .int (nI pn), .ref ma, .ref mb, .ref mc, .ref rv, .int (nI mn), .int tol, .int (nI rn)], gI g zx 144 fx, gI g zy 144 fy, gI g zm 3 fm, gI g sa 20 d1, gI g sb 20 d2, gI g sc 20 d3, gI g sd 20 d4, gI g se 20 d5] (fun (r : Int32) (_ : Unit) => r = nI (sideS X Y n (d1 i) (d2 i))) (fun (_ : Unit) => [gO mo 9 [.int 0, .ref zt, .int (nI tn), .int (nI sz), .ref zx, .ref zy, .ref zm, .ref zb, .int rt, .int w0, .int w1, .int w2, .int lg, .int nr, .int (nI yr), .ref va, .ref vb, .ref vc, .ref vd, .ref qa, .ref qb, .ref qc, .int (nI ln), .ref sa, .ref sb, .ref sc, .ref sd, .ref se, .int (nI pn), .ref ma, .ref mb, .ref mc, .ref rv, .int (nI mn), .int tol, .int (nI rn)], gI g zx 144 fx, gI g zy 144 fy, gI g zm 3 fm, gI g sa 20 d1, gI g sb 20 d2, gI g sc 20 d3, gI g sd 20 d4, gI g se 20 d5]) := by
  refine CtI.of (cc := cX9_owner) (maxL := 3) (ret := .int) (by decide) rfl (Nat.le_of_ble_eq_true rfl) ?_
  intro p e s m args below meth c A Q hnm F hK hA hP hD hS hret ls hl
  have hx := F.1
  have hb := F.2.1
  have hl : lv_has ls 3 [(0, .ref mo), (1, .int (nI i)), (2, .int 1)] := hl
  have h1n : 1 ≤ n := by have := hok.1; have h : 4 ≤ n := this; omega
  refine lv_aload_n hx hb dX9_owner_0 rfl (lv_at hl 0 rfl) ?_
  refine lv_iload_n hx hb dX9_owner_1 rfl (lv_at hl 1 rfl) ?_
  refine n_if_lt (a := i) (tgt := 22) hx hb dX9_owner_2 (by decide) (by omega) (fun h => absurd h (by omega)) (fun c_2 => ?_)
  refine lv_iload_n hx hb dX9_owner_5 rfl (lv_at hl 1 rfl) ?_
  refine lv_aload_n hx hb dX9_owner_6 rfl (lv_at hl 0 rfl) ?_
  refine g_get (C := RX9) (T := TX9) (N := 36) F hK hP i_X9_owner_X9 0 rfl rfl 28 (by decide) k_X9_owner_f126 (v := .int (nI pn)) rfl dX9_owner_7 ?_
  refine n_icmp_ge (a := i) (b := pn) (tgt := 22) hx hb dX9_owner_10 (by decide) (by omega) (by omega) (fun h => absurd h (by omega)) (fun c_10 => ?_)
  refine lv_iload_n hx hb dX9_owner_13 rfl (lv_at hl 2 rfl) ?_
  refine lv_if_lt (tgt := 22) hx hb dX9_owner_14 (by decide) (fun h => absurd h (by decide)) (fun _ => ?_)
  refine lv_iload_n hx hb dX9_owner_17 rfl (lv_at hl 2 rfl) ?_
  refine lv_iconst (v := 2) hx hb dX9_owner_18 (by decide) ?_
  refine lv_icmp_le (tgt := 26) hx hb dX9_owner_19 (by decide) (fun _ => ?_) (fun h => absurd (by decide) h)
  refine lv_iconst (v := 0) hx hb dX9_owner_26 (by decide) ?_
  refine g_VI (wr := [gI g zx 144 fx, gI g zy 144 fy, gI g zm 3 fm, gI g sa 20 d1, gI g sb 20 d2, gI g sc 20 d3, gI g sd 20 d4, gI g se 20 d5]) (As := [.int 0]) (rest := []) (n := 1) F (c_X9_throwsIf_0 l g mo th zt tn sz zx zy zm zb rt w0 w1 w2 lg nr yr va vb vc vd qa qb qc ln sa sb sc sd se pn ma mb mc rv mn tol rn) gX9_owner_X9_throwsIf rfl (by decide) ⟨by decide, by decide⟩ 0 9 rfl rfl rfl rfl hl.1 rfl (Nat.le_of_ble_eq_true rfl) dX9_owner_27 ⟨Nat.le_of_ble_eq_true rfl, Nat.le_of_ble_eq_true rfl⟩ hK hP hD hS hA [0] [1, 2, 3, 4, 5, 6, 7, 8] (by decide) rfl rfl (by decide) (by decide) (fun r_27 u_27 H locs hw_27 hP hD hS => ?_)
  have hP : gP g [gI g zx 144 fx, gI g zy 144 fy, gI g zm 3 fm, gI g sa 20 d1, gI g sb 20 d2, gI g sc 20 d3, gI g sd 20 d4, gI g se 20 d5, gO mo 9 [.int 0, .ref zt, .int (nI tn), .int (nI sz), .ref zx, .ref zy, .ref zm, .ref zb, .int rt, .int w0, .int w1, .int w2, .int lg, .int nr, .int (nI yr), .ref va, .ref vb, .ref vc, .ref vd, .ref qa, .ref qb, .ref qc, .int (nI ln), .ref sa, .ref sb, .ref sc, .ref sd, .ref se, .int (nI pn), .ref ma, .ref mb, .ref mc, .ref rv, .int (nI mn), .int tol, .int (nI rn)]] H := hP
  have hD : va_D A [gI g zx 144 fx, gI g zy 144 fy, gI g zm 3 fm, gI g sa 20 d1, gI g sb 20 d2, gI g sc 20 d3, gI g sd 20 d4, gI g se 20 d5, gO mo 9 [.int 0, .ref zt, .int (nI tn), .int (nI sz), .ref zx, .ref zy, .ref zm, .ref zb, .int rt, .int w0, .int w1, .int w2, .int lg, .int nr, .int (nI yr), .ref va, .ref vb, .ref vc, .ref vd, .ref qa, .ref qb, .ref qc, .int (nI ln), .ref sa, .ref sb, .ref sc, .ref sd, .ref se, .int (nI pn), .ref ma, .ref mb, .ref mc, .ref rv, .int (nI mn), .int tol, .int (nI rn)]] := hD
  obtain rfl := hw_27
  refine lv_if_eq (tgt := 35) hx hb dX9_owner_30 (by decide) (fun _ => ?_) (fun h => absurd (by decide) h)
  refine lv_iload_n hx hb dX9_owner_35 rfl (lv_at hl 2 rfl) ?_
  refine lv_if_ne (tgt := 48) hx hb dX9_owner_36 (by decide) (fun _ => ?_) (fun h => absurd h (by decide))
  refine lv_iload_n hx hb dX9_owner_48 rfl (lv_at hl 2 rfl) ?_
  refine lv_iconst (v := 1) hx hb dX9_owner_49 (by decide) ?_
  refine lv_icmp_ne (tgt := 73) hx hb dX9_owner_50 (by decide) (fun h => absurd (by decide) h) (fun _ => ?_)
  refine lv_aload_n hx hb dX9_owner_53 rfl (lv_at hl 0 rfl) ?_
  refine lv_iconst (v := 0) hx hb dX9_owner_54 (by decide) ?_
  refine lv_aload_n hx hb dX9_owner_55 rfl (lv_at hl 0 rfl) ?_
  refine g_get (C := RX9) (T := TX9) (N := 36) F hK hP i_X9_owner_X9 8 rfl rfl 23 (by decide) k_X9_owner_f79 (v := .ref sa) rfl dX9_owner_56 ?_
  refine lv_iload_n hx hb dX9_owner_59 rfl (lv_at hl 1 rfl) ?_
  refine g_iald (i := i) (v := (d1 i)) hx hb hK hP 3 rfl (by decide) (by omega) (rfl) dX9_owner_60 ?_
  refine lv_aload_n hx hb dX9_owner_61 rfl (lv_at hl 0 rfl) ?_
  refine g_get (C := RX9) (T := TX9) (N := 36) F hK hP i_X9_owner_X9 8 rfl rfl 24 (by decide) k_X9_owner_f82 (v := .ref sb) rfl dX9_owner_62 ?_
  refine lv_iload_n hx hb dX9_owner_65 rfl (lv_at hl 1 rfl) ?_
  refine g_iald (i := i) (v := (d2 i)) hx hb hK hP 4 rfl (by decide) (by omega) (rfl) dX9_owner_66 ?_
  refine g_VI (wr := [gI g sa 20 d1, gI g sb 20 d2, gI g sc 20 d3, gI g sd 20 d4, gI g se 20 d5]) (As := [.int 0, .int (d1 i), .int (d2 i)]) (rest := []) (n := 3) F (c_X9_sideOf l g mo 0 zt tn sz zx zy zm zb rt w0 w1 w2 lg nr yr va vb vc vd qa qb qc ln sa sb sc sd se pn ma mb mc rv mn tol rn 0 n fm fx fy X Y (d1 i) (d2 i) (by decide) (hm0) (hn) (hX0) (hY0) (h1n) (hok.2.2) (hpl.1) (hpl.2)) gX9_owner_X9_sideOf rfl (by decide) ⟨by decide, by decide⟩ 8 9 rfl rfl rfl rfl hl.1 rfl (Nat.le_of_ble_eq_true rfl) dX9_owner_67 ⟨Nat.le_of_ble_eq_true rfl, Nat.le_of_ble_eq_true rfl⟩ hK hP hD hS hA [8, 0, 1, 2] [3, 4, 5, 6, 7] (by decide) rfl rfl (by decide) (by decide) (fun r_67 u_67 H locs hw_67 hP hD hS => ?_)
  have hP : gP g [gI g sa 20 d1, gI g sb 20 d2, gI g sc 20 d3, gI g sd 20 d4, gI g se 20 d5, gO mo 9 [.int 0, .ref zt, .int (nI tn), .int (nI sz), .ref zx, .ref zy, .ref zm, .ref zb, .int rt, .int w0, .int w1, .int w2, .int lg, .int nr, .int (nI yr), .ref va, .ref vb, .ref vc, .ref vd, .ref qa, .ref qb, .ref qc, .int (nI ln), .ref sa, .ref sb, .ref sc, .ref sd, .ref se, .int (nI pn), .ref ma, .ref mb, .ref mc, .ref rv, .int (nI mn), .int tol, .int (nI rn)], gI g zx 144 fx, gI g zy 144 fy, gI g zm 3 fm] H := hP
  have hD : va_D A [gI g sa 20 d1, gI g sb 20 d2, gI g sc 20 d3, gI g sd 20 d4, gI g se 20 d5, gO mo 9 [.int 0, .ref zt, .int (nI tn), .int (nI sz), .ref zx, .ref zy, .ref zm, .ref zb, .int rt, .int w0, .int w1, .int w2, .int lg, .int nr, .int (nI yr), .ref va, .ref vb, .ref vc, .ref vd, .ref qa, .ref qb, .ref qc, .int (nI ln), .ref sa, .ref sb, .ref sc, .ref sd, .ref se, .int (nI pn), .ref ma, .ref mb, .ref mc, .ref rv, .int (nI mn), .int tol, .int (nI rn)], gI g zx 144 fx, gI g zy 144 fy, gI g zm 3 fm] := hD
  obtain rfl := hw_67
  refine lv_goto (tgt := 79) hx hb dX9_owner_70 (by decide) ?_
  have hP9 := hP.sub (ws' := [gO mo 9 [.int 0, .ref zt, .int (nI tn), .int (nI sz), .ref zx, .ref zy, .ref zm, .ref zb, .int rt, .int w0, .int w1, .int w2, .int lg, .int nr, .int (nI yr), .ref va, .ref vb, .ref vc, .ref vd, .ref qa, .ref qb, .ref qc, .int (nI ln), .ref sa, .ref sb, .ref sc, .ref sd, .ref se, .int (nI pn), .ref ma, .ref mb, .ref mc, .ref rv, .int (nI mn), .int tol, .int (nI rn)], gI g zx 144 fx, gI g zy 144 fy, gI g zm 3 fm, gI g sa 20 d1, gI g sb 20 d2, gI g sc 20 d3, gI g sd 20 d4, gI g se 20 d5]) [5, 6, 7, 8, 0, 1, 2, 3, 4] rfl
  have hD9 := hD.sub (ws' := [gO mo 9 [.int 0, .ref zt, .int (nI tn), .int (nI sz), .ref zx, .ref zy, .ref zm, .ref zb, .int rt, .int w0, .int w1, .int w2, .int lg, .int nr, .int (nI yr), .ref va, .ref vb, .ref vc, .ref vd, .ref qa, .ref qb, .ref qc, .int (nI ln), .ref sa, .ref sb, .ref sc, .ref sd, .ref se, .int (nI pn), .ref ma, .ref mb, .ref mc, .ref rv, .int (nI mn), .int tol, .int (nI rn)], gI g zx 144 fx, gI g zy 144 fy, gI g zm 3 fm, gI g sa 20 d1, gI g sb 20 d2, gI g sc 20 d3, gI g sd 20 d4, gI g se 20 d5]) [5, 6, 7, 8, 0, 1, 2, 3, 4] (by decide) rfl
  exact hret _ _ _ _ (nI (sideS X Y n (d1 i) (d2 i))) () dX9_owner_79 rfl (rfl) hP9 hD9 hS

set_option maxHeartbeats 4000000 in
set_option maxRecDepth 100000 in
theorem c_X9_point_t (l : Launch) (g : gT) (mo : Nat) (th : Int32) (zt : Nat) (tn : Nat) (sz : Nat) (zx : Nat) (zy : Nat) (zm : Nat) (zb : Nat) (rt : Int32) (w0 : Int32) (w1 : Int32) (w2 : Int32) (lg : Int32) (nr : Int32) (yr : Nat) (va : Nat) (vb : Nat) (vc : Nat) (vd : Nat) (qa : Nat) (qb : Nat) (qc : Nat) (ln : Nat) (sa : Nat) (sb : Nat) (sc : Nat) (sd : Nat) (se : Nat) (pn : Nat) (ma : Nat) (mb : Nat) (mc : Nat) (rv : Nat) (mn : Nat) (tol : Int32) (rn : Nat) (n : Nat) (fm : Nat → Int32) (fx : Nat → Int32) (fy : Nat → Int32) (X : Nat → Int32) (Y : Nat → Int32) (k : Int32) (v : Int32) (hm0 : fm 0 = nI n) (hn : n ≤ 48) (hX0 : ∀ k, k < n → fx (48 * 0 + k) = X k) (hY0 : ∀ k, k < n → fy (48 * 0 + k) = Y k) (hok : okL (n, X, Y)) (h : k < 0 ∨ nI n ≤ k ∨ v < 0 ∨ ¬ v ≤ 1) : CtI l g yX9_point wsX9_point rm_X9_point [.ref mo, .int k, .int v] [gO mo 9 [.int th, .ref zt, .int (nI tn), .int (nI sz), .ref zx, .ref zy, .ref zm, .ref zb, .int rt, .int w0, .int w1, .int w2, .int lg, .int nr, .int (nI yr), .ref va, .ref vb, .ref vc, .ref vd, .ref qa, .ref qb, .ref qc, .int (nI ln), .ref sa, .ref sb, .ref sc, .ref sd, .ref se, .int (nI pn), .ref ma, .ref mb, .ref mc, .ref rv, .int (nI mn), .int tol, .int (nI rn)], gI g zx 144 fx, gI g zy 144 fy, gI g zm 3 fm] (fun (r : Int32) (_ : Unit) => r = 0) (fun (_ : Unit) => [gO mo 9 [.int 1, .ref zt, .int (nI tn), .int (nI sz), .ref zx, .ref zy, .ref zm, .ref zb, .int rt, .int w0, .int w1, .int w2, .int lg, .int nr, .int (nI yr), .ref va, .ref vb, .ref vc, .ref vd, .ref qa, .ref qb, .ref qc, .int (nI ln), .ref sa, .ref sb, .ref sc, .ref sd, .ref se, .int (nI pn), .ref ma, .ref mb, .ref mc, .ref rv, .int (nI mn), .int tol, .int (nI rn)], gI g zx 144 fx, gI g zy 144 fy, gI g zm 3 fm]) := by
  refine CtI.of (cc := cX9_point) (maxL := 3) (ret := .int) (by decide) rfl (Nat.le_of_ble_eq_true rfl) ?_
  intro p e s m args below meth c A Q hnm F hK hA hP hD hS hret ls hl
  have hx := F.1
  have hb := F.2.1
  have hl : lv_has ls 3 [(0, .ref mo), (1, .int k), (2, .int v)] := hl
  refine lv_aload_n hx hb dX9_point_0 rfl (lv_at hl 0 rfl) ?_
  refine lv_iload_n hx hb dX9_point_1 rfl (lv_at hl 1 rfl) ?_
  refine lv_if_lt (tgt := 24) hx hb dX9_point_2 (by decide) (fun c_2 => ?_) (fun c_2 => ?_)
  · refine lv_iconst (v := 1) hx hb dX9_point_24 (by decide) ?_
    refine lv_goto (tgt := 29) hx hb dX9_point_25 (by decide) ?_
    refine g_VI (wr := [gI g zx 144 fx, gI g zy 144 fy, gI g zm 3 fm]) (As := [.int 1]) (rest := []) (n := 1) F (c_X9_throwsIf_1 l g mo th zt tn sz zx zy zm zb rt w0 w1 w2 lg nr yr va vb vc vd qa qb qc ln sa sb sc sd se pn ma mb mc rv mn tol rn) gX9_point_X9_throwsIf rfl (by decide) ⟨by decide, by decide⟩ 0 9 rfl rfl rfl rfl hl.1 rfl (Nat.le_of_ble_eq_true rfl) dX9_point_29 ⟨Nat.le_of_ble_eq_true rfl, Nat.le_of_ble_eq_true rfl⟩ hK hP hD hS hA [0] [1, 2, 3] (by decide) rfl rfl (by decide) (by decide) (fun r_29 u_29 H locs hw_29 hP hD hS => ?_)
    have hP : gP g [gI g zx 144 fx, gI g zy 144 fy, gI g zm 3 fm, gO mo 9 [.int 1, .ref zt, .int (nI tn), .int (nI sz), .ref zx, .ref zy, .ref zm, .ref zb, .int rt, .int w0, .int w1, .int w2, .int lg, .int nr, .int (nI yr), .ref va, .ref vb, .ref vc, .ref vd, .ref qa, .ref qb, .ref qc, .int (nI ln), .ref sa, .ref sb, .ref sc, .ref sd, .ref se, .int (nI pn), .ref ma, .ref mb, .ref mc, .ref rv, .int (nI mn), .int tol, .int (nI rn)]] H := hP
    have hD : va_D A [gI g zx 144 fx, gI g zy 144 fy, gI g zm 3 fm, gO mo 9 [.int 1, .ref zt, .int (nI tn), .int (nI sz), .ref zx, .ref zy, .ref zm, .ref zb, .int rt, .int w0, .int w1, .int w2, .int lg, .int nr, .int (nI yr), .ref va, .ref vb, .ref vc, .ref vd, .ref qa, .ref qb, .ref qc, .int (nI ln), .ref sa, .ref sb, .ref sc, .ref sd, .ref se, .int (nI pn), .ref ma, .ref mb, .ref mc, .ref rv, .int (nI mn), .int tol, .int (nI rn)]] := hD
    obtain rfl := hw_29
    refine lv_if_eq (tgt := 37) hx hb dX9_point_32 (by decide) (fun h => absurd h (by decide)) (fun _ => ?_)
    refine lv_iconst (v := 0) hx hb dX9_point_35 (by decide) ?_
    have hP9 := hP.sub (ws' := [gO mo 9 [.int 1, .ref zt, .int (nI tn), .int (nI sz), .ref zx, .ref zy, .ref zm, .ref zb, .int rt, .int w0, .int w1, .int w2, .int lg, .int nr, .int (nI yr), .ref va, .ref vb, .ref vc, .ref vd, .ref qa, .ref qb, .ref qc, .int (nI ln), .ref sa, .ref sb, .ref sc, .ref sd, .ref se, .int (nI pn), .ref ma, .ref mb, .ref mc, .ref rv, .int (nI mn), .int tol, .int (nI rn)], gI g zx 144 fx, gI g zy 144 fy, gI g zm 3 fm]) [3, 0, 1, 2] rfl
    have hD9 := hD.sub (ws' := [gO mo 9 [.int 1, .ref zt, .int (nI tn), .int (nI sz), .ref zx, .ref zy, .ref zm, .ref zb, .int rt, .int w0, .int w1, .int w2, .int lg, .int nr, .int (nI yr), .ref va, .ref vb, .ref vc, .ref vd, .ref qa, .ref qb, .ref qc, .int (nI ln), .ref sa, .ref sb, .ref sc, .ref sd, .ref se, .int (nI pn), .ref ma, .ref mb, .ref mc, .ref rv, .int (nI mn), .int tol, .int (nI rn)], gI g zx 144 fx, gI g zy 144 fy, gI g zm 3 fm]) [3, 0, 1, 2] (by decide) rfl
    exact hret _ _ _ _ 0 () dX9_point_36 rfl (rfl) hP9 hD9 hS
  · refine lv_iload_n hx hb dX9_point_5 rfl (lv_at hl 1 rfl) ?_
    refine lv_aload_n hx hb dX9_point_6 rfl (lv_at hl 0 rfl) ?_
    refine g_get (C := RX9) (T := TX9) (N := 36) F hK hP i_X9_point_X9 0 rfl rfl 6 (by decide) k_X9_point_f34 (v := .ref zm) rfl dX9_point_7 ?_
    refine lv_iconst (v := 0) hx hb dX9_point_10 (by decide) ?_
    refine g_iald (i := 0) (v := (nI n)) hx hb hK hP 3 rfl (by decide) (by omega) (hm0) dX9_point_11 ?_
    refine lv_icmp_ge (tgt := 24) hx hb dX9_point_12 (by decide) (fun c_12 => ?_) (fun c_12 => ?_)
    · refine lv_iconst (v := 1) hx hb dX9_point_24 (by decide) ?_
      refine lv_goto (tgt := 29) hx hb dX9_point_25 (by decide) ?_
      refine g_VI (wr := [gI g zx 144 fx, gI g zy 144 fy, gI g zm 3 fm]) (As := [.int 1]) (rest := []) (n := 1) F (c_X9_throwsIf_1 l g mo th zt tn sz zx zy zm zb rt w0 w1 w2 lg nr yr va vb vc vd qa qb qc ln sa sb sc sd se pn ma mb mc rv mn tol rn) gX9_point_X9_throwsIf rfl (by decide) ⟨by decide, by decide⟩ 0 9 rfl rfl rfl rfl hl.1 rfl (Nat.le_of_ble_eq_true rfl) dX9_point_29 ⟨Nat.le_of_ble_eq_true rfl, Nat.le_of_ble_eq_true rfl⟩ hK hP hD hS hA [0] [1, 2, 3] (by decide) rfl rfl (by decide) (by decide) (fun r_29 u_29 H locs hw_29 hP hD hS => ?_)
      have hP : gP g [gI g zx 144 fx, gI g zy 144 fy, gI g zm 3 fm, gO mo 9 [.int 1, .ref zt, .int (nI tn), .int (nI sz), .ref zx, .ref zy, .ref zm, .ref zb, .int rt, .int w0, .int w1, .int w2, .int lg, .int nr, .int (nI yr), .ref va, .ref vb, .ref vc, .ref vd, .ref qa, .ref qb, .ref qc, .int (nI ln), .ref sa, .ref sb, .ref sc, .ref sd, .ref se, .int (nI pn), .ref ma, .ref mb, .ref mc, .ref rv, .int (nI mn), .int tol, .int (nI rn)]] H := hP
      have hD : va_D A [gI g zx 144 fx, gI g zy 144 fy, gI g zm 3 fm, gO mo 9 [.int 1, .ref zt, .int (nI tn), .int (nI sz), .ref zx, .ref zy, .ref zm, .ref zb, .int rt, .int w0, .int w1, .int w2, .int lg, .int nr, .int (nI yr), .ref va, .ref vb, .ref vc, .ref vd, .ref qa, .ref qb, .ref qc, .int (nI ln), .ref sa, .ref sb, .ref sc, .ref sd, .ref se, .int (nI pn), .ref ma, .ref mb, .ref mc, .ref rv, .int (nI mn), .int tol, .int (nI rn)]] := hD
      obtain rfl := hw_29
      refine lv_if_eq (tgt := 37) hx hb dX9_point_32 (by decide) (fun h => absurd h (by decide)) (fun _ => ?_)
      refine lv_iconst (v := 0) hx hb dX9_point_35 (by decide) ?_
      have hP9 := hP.sub (ws' := [gO mo 9 [.int 1, .ref zt, .int (nI tn), .int (nI sz), .ref zx, .ref zy, .ref zm, .ref zb, .int rt, .int w0, .int w1, .int w2, .int lg, .int nr, .int (nI yr), .ref va, .ref vb, .ref vc, .ref vd, .ref qa, .ref qb, .ref qc, .int (nI ln), .ref sa, .ref sb, .ref sc, .ref sd, .ref se, .int (nI pn), .ref ma, .ref mb, .ref mc, .ref rv, .int (nI mn), .int tol, .int (nI rn)], gI g zx 144 fx, gI g zy 144 fy, gI g zm 3 fm]) [3, 0, 1, 2] rfl
      have hD9 := hD.sub (ws' := [gO mo 9 [.int 1, .ref zt, .int (nI tn), .int (nI sz), .ref zx, .ref zy, .ref zm, .ref zb, .int rt, .int w0, .int w1, .int w2, .int lg, .int nr, .int (nI yr), .ref va, .ref vb, .ref vc, .ref vd, .ref qa, .ref qb, .ref qc, .int (nI ln), .ref sa, .ref sb, .ref sc, .ref sd, .ref se, .int (nI pn), .ref ma, .ref mb, .ref mc, .ref rv, .int (nI mn), .int tol, .int (nI rn)], gI g zx 144 fx, gI g zy 144 fy, gI g zm 3 fm]) [3, 0, 1, 2] (by decide) rfl
      exact hret _ _ _ _ 0 () dX9_point_36 rfl (rfl) hP9 hD9 hS
    · refine lv_iload_n hx hb dX9_point_15 rfl (lv_at hl 2 rfl) ?_
      refine lv_if_lt (tgt := 24) hx hb dX9_point_16 (by decide) (fun c_16 => ?_) (fun c_16 => ?_)
      · refine lv_iconst (v := 1) hx hb dX9_point_24 (by decide) ?_
        refine lv_goto (tgt := 29) hx hb dX9_point_25 (by decide) ?_
        refine g_VI (wr := [gI g zx 144 fx, gI g zy 144 fy, gI g zm 3 fm]) (As := [.int 1]) (rest := []) (n := 1) F (c_X9_throwsIf_1 l g mo th zt tn sz zx zy zm zb rt w0 w1 w2 lg nr yr va vb vc vd qa qb qc ln sa sb sc sd se pn ma mb mc rv mn tol rn) gX9_point_X9_throwsIf rfl (by decide) ⟨by decide, by decide⟩ 0 9 rfl rfl rfl rfl hl.1 rfl (Nat.le_of_ble_eq_true rfl) dX9_point_29 ⟨Nat.le_of_ble_eq_true rfl, Nat.le_of_ble_eq_true rfl⟩ hK hP hD hS hA [0] [1, 2, 3] (by decide) rfl rfl (by decide) (by decide) (fun r_29 u_29 H locs hw_29 hP hD hS => ?_)
        have hP : gP g [gI g zx 144 fx, gI g zy 144 fy, gI g zm 3 fm, gO mo 9 [.int 1, .ref zt, .int (nI tn), .int (nI sz), .ref zx, .ref zy, .ref zm, .ref zb, .int rt, .int w0, .int w1, .int w2, .int lg, .int nr, .int (nI yr), .ref va, .ref vb, .ref vc, .ref vd, .ref qa, .ref qb, .ref qc, .int (nI ln), .ref sa, .ref sb, .ref sc, .ref sd, .ref se, .int (nI pn), .ref ma, .ref mb, .ref mc, .ref rv, .int (nI mn), .int tol, .int (nI rn)]] H := hP
        have hD : va_D A [gI g zx 144 fx, gI g zy 144 fy, gI g zm 3 fm, gO mo 9 [.int 1, .ref zt, .int (nI tn), .int (nI sz), .ref zx, .ref zy, .ref zm, .ref zb, .int rt, .int w0, .int w1, .int w2, .int lg, .int nr, .int (nI yr), .ref va, .ref vb, .ref vc, .ref vd, .ref qa, .ref qb, .ref qc, .int (nI ln), .ref sa, .ref sb, .ref sc, .ref sd, .ref se, .int (nI pn), .ref ma, .ref mb, .ref mc, .ref rv, .int (nI mn), .int tol, .int (nI rn)]] := hD
        obtain rfl := hw_29
        refine lv_if_eq (tgt := 37) hx hb dX9_point_32 (by decide) (fun h => absurd h (by decide)) (fun _ => ?_)
        refine lv_iconst (v := 0) hx hb dX9_point_35 (by decide) ?_
        have hP9 := hP.sub (ws' := [gO mo 9 [.int 1, .ref zt, .int (nI tn), .int (nI sz), .ref zx, .ref zy, .ref zm, .ref zb, .int rt, .int w0, .int w1, .int w2, .int lg, .int nr, .int (nI yr), .ref va, .ref vb, .ref vc, .ref vd, .ref qa, .ref qb, .ref qc, .int (nI ln), .ref sa, .ref sb, .ref sc, .ref sd, .ref se, .int (nI pn), .ref ma, .ref mb, .ref mc, .ref rv, .int (nI mn), .int tol, .int (nI rn)], gI g zx 144 fx, gI g zy 144 fy, gI g zm 3 fm]) [3, 0, 1, 2] rfl
        have hD9 := hD.sub (ws' := [gO mo 9 [.int 1, .ref zt, .int (nI tn), .int (nI sz), .ref zx, .ref zy, .ref zm, .ref zb, .int rt, .int w0, .int w1, .int w2, .int lg, .int nr, .int (nI yr), .ref va, .ref vb, .ref vc, .ref vd, .ref qa, .ref qb, .ref qc, .int (nI ln), .ref sa, .ref sb, .ref sc, .ref sd, .ref se, .int (nI pn), .ref ma, .ref mb, .ref mc, .ref rv, .int (nI mn), .int tol, .int (nI rn)], gI g zx 144 fx, gI g zy 144 fy, gI g zm 3 fm]) [3, 0, 1, 2] (by decide) rfl
        exact hret _ _ _ _ 0 () dX9_point_36 rfl (rfl) hP9 hD9 hS
      · refine lv_iload_n hx hb dX9_point_19 rfl (lv_at hl 2 rfl) ?_
        refine lv_iconst (v := 1) hx hb dX9_point_20 (by decide) ?_
        refine lv_icmp_le (tgt := 28) hx hb dX9_point_21 (by decide) (fun c_21 => ?_) (fun c_21 => ?_)
        · exact absurd h (by rintro (z | z | z | z); exact c_2 z; exact c_12 z; exact c_16 z; exact z c_21)
        · refine lv_iconst (v := 1) hx hb dX9_point_24 (by decide) ?_
          refine lv_goto (tgt := 29) hx hb dX9_point_25 (by decide) ?_
          refine g_VI (wr := [gI g zx 144 fx, gI g zy 144 fy, gI g zm 3 fm]) (As := [.int 1]) (rest := []) (n := 1) F (c_X9_throwsIf_1 l g mo th zt tn sz zx zy zm zb rt w0 w1 w2 lg nr yr va vb vc vd qa qb qc ln sa sb sc sd se pn ma mb mc rv mn tol rn) gX9_point_X9_throwsIf rfl (by decide) ⟨by decide, by decide⟩ 0 9 rfl rfl rfl rfl hl.1 rfl (Nat.le_of_ble_eq_true rfl) dX9_point_29 ⟨Nat.le_of_ble_eq_true rfl, Nat.le_of_ble_eq_true rfl⟩ hK hP hD hS hA [0] [1, 2, 3] (by decide) rfl rfl (by decide) (by decide) (fun r_29 u_29 H locs hw_29 hP hD hS => ?_)
          have hP : gP g [gI g zx 144 fx, gI g zy 144 fy, gI g zm 3 fm, gO mo 9 [.int 1, .ref zt, .int (nI tn), .int (nI sz), .ref zx, .ref zy, .ref zm, .ref zb, .int rt, .int w0, .int w1, .int w2, .int lg, .int nr, .int (nI yr), .ref va, .ref vb, .ref vc, .ref vd, .ref qa, .ref qb, .ref qc, .int (nI ln), .ref sa, .ref sb, .ref sc, .ref sd, .ref se, .int (nI pn), .ref ma, .ref mb, .ref mc, .ref rv, .int (nI mn), .int tol, .int (nI rn)]] H := hP
          have hD : va_D A [gI g zx 144 fx, gI g zy 144 fy, gI g zm 3 fm, gO mo 9 [.int 1, .ref zt, .int (nI tn), .int (nI sz), .ref zx, .ref zy, .ref zm, .ref zb, .int rt, .int w0, .int w1, .int w2, .int lg, .int nr, .int (nI yr), .ref va, .ref vb, .ref vc, .ref vd, .ref qa, .ref qb, .ref qc, .int (nI ln), .ref sa, .ref sb, .ref sc, .ref sd, .ref se, .int (nI pn), .ref ma, .ref mb, .ref mc, .ref rv, .int (nI mn), .int tol, .int (nI rn)]] := hD
          obtain rfl := hw_29
          refine lv_if_eq (tgt := 37) hx hb dX9_point_32 (by decide) (fun h => absurd h (by decide)) (fun _ => ?_)
          refine lv_iconst (v := 0) hx hb dX9_point_35 (by decide) ?_
          have hP9 := hP.sub (ws' := [gO mo 9 [.int 1, .ref zt, .int (nI tn), .int (nI sz), .ref zx, .ref zy, .ref zm, .ref zb, .int rt, .int w0, .int w1, .int w2, .int lg, .int nr, .int (nI yr), .ref va, .ref vb, .ref vc, .ref vd, .ref qa, .ref qb, .ref qc, .int (nI ln), .ref sa, .ref sb, .ref sc, .ref sd, .ref se, .int (nI pn), .ref ma, .ref mb, .ref mc, .ref rv, .int (nI mn), .int tol, .int (nI rn)], gI g zx 144 fx, gI g zy 144 fy, gI g zm 3 fm]) [3, 0, 1, 2] rfl
          have hD9 := hD.sub (ws' := [gO mo 9 [.int 1, .ref zt, .int (nI tn), .int (nI sz), .ref zx, .ref zy, .ref zm, .ref zb, .int rt, .int w0, .int w1, .int w2, .int lg, .int nr, .int (nI yr), .ref va, .ref vb, .ref vc, .ref vd, .ref qa, .ref qb, .ref qc, .int (nI ln), .ref sa, .ref sb, .ref sc, .ref sd, .ref se, .int (nI pn), .ref ma, .ref mb, .ref mc, .ref rv, .int (nI mn), .int tol, .int (nI rn)], gI g zx 144 fx, gI g zy 144 fy, gI g zm 3 fm]) [3, 0, 1, 2] (by decide) rfl
          exact hret _ _ _ _ 0 () dX9_point_36 rfl (rfl) hP9 hD9 hS

set_option maxHeartbeats 4000000 in
set_option maxRecDepth 100000 in
theorem c_X9_loop_t (l : Launch) (g : gT) (mo : Nat) (th : Int32) (zt : Nat) (tn : Nat) (sz : Nat) (zx : Nat) (zy : Nat) (zm : Nat) (zb : Nat) (rt : Int32) (w0 : Int32) (w1 : Int32) (w2 : Int32) (lg : Int32) (nr : Int32) (yr : Nat) (va : Nat) (vb : Nat) (vc : Nat) (vd : Nat) (qa : Nat) (qb : Nat) (qc : Nat) (ln : Nat) (sa : Nat) (sb : Nat) (sc : Nat) (sd : Nat) (se : Nat) (pn : Nat) (ma : Nat) (mb : Nat) (mc : Nat) (rv : Nat) (mn : Nat) (tol : Int32) (rn : Nat) (k : Int32) (v : Int32) (hln : ln ≤ 30) (h : k < 0 ∨ nI ln ≤ k ∨ v < 0 ∨ ¬ v ≤ 2) : CtI l g yX9_loop wsX9_loop rm_X9_loop [.ref mo, .int k, .int v] [gO mo 9 [.int th, .ref zt, .int (nI tn), .int (nI sz), .ref zx, .ref zy, .ref zm, .ref zb, .int rt, .int w0, .int w1, .int w2, .int lg, .int nr, .int (nI yr), .ref va, .ref vb, .ref vc, .ref vd, .ref qa, .ref qb, .ref qc, .int (nI ln), .ref sa, .ref sb, .ref sc, .ref sd, .ref se, .int (nI pn), .ref ma, .ref mb, .ref mc, .ref rv, .int (nI mn), .int tol, .int (nI rn)]] (fun (r : Int32) (_ : Unit) => r = 0) (fun (_ : Unit) => [gO mo 9 [.int 1, .ref zt, .int (nI tn), .int (nI sz), .ref zx, .ref zy, .ref zm, .ref zb, .int rt, .int w0, .int w1, .int w2, .int lg, .int nr, .int (nI yr), .ref va, .ref vb, .ref vc, .ref vd, .ref qa, .ref qb, .ref qc, .int (nI ln), .ref sa, .ref sb, .ref sc, .ref sd, .ref se, .int (nI pn), .ref ma, .ref mb, .ref mc, .ref rv, .int (nI mn), .int tol, .int (nI rn)]]) := by
  refine CtI.of (cc := cX9_loop) (maxL := 3) (ret := .int) (by decide) rfl (Nat.le_of_ble_eq_true rfl) ?_
  intro p e s m args below meth c A Q hnm F hK hA hP hD hS hret ls hl
  have hx := F.1
  have hb := F.2.1
  have hl : lv_has ls 3 [(0, .ref mo), (1, .int k), (2, .int v)] := hl
  refine lv_aload_n hx hb dX9_loop_0 rfl (lv_at hl 0 rfl) ?_
  refine lv_iload_n hx hb dX9_loop_1 rfl (lv_at hl 1 rfl) ?_
  refine lv_if_lt (tgt := 22) hx hb dX9_loop_2 (by decide) (fun c_2 => ?_) (fun c_2 => ?_)
  · refine lv_iconst (v := 1) hx hb dX9_loop_22 (by decide) ?_
    refine lv_goto (tgt := 27) hx hb dX9_loop_23 (by decide) ?_
    refine g_VI (wr := []) (As := [.int 1]) (rest := []) (n := 1) F (c_X9_throwsIf_1 l g mo th zt tn sz zx zy zm zb rt w0 w1 w2 lg nr yr va vb vc vd qa qb qc ln sa sb sc sd se pn ma mb mc rv mn tol rn) gX9_loop_X9_throwsIf rfl (by decide) ⟨by decide, by decide⟩ 0 9 rfl rfl rfl rfl hl.1 rfl (Nat.le_of_ble_eq_true rfl) dX9_loop_27 ⟨Nat.le_of_ble_eq_true rfl, Nat.le_of_ble_eq_true rfl⟩ hK hP hD hS hA [0] [] (by decide) rfl rfl (by decide) (by decide) (fun r_27 u_27 H locs hw_27 hP hD hS => ?_)
    have hP : gP g [gO mo 9 [.int 1, .ref zt, .int (nI tn), .int (nI sz), .ref zx, .ref zy, .ref zm, .ref zb, .int rt, .int w0, .int w1, .int w2, .int lg, .int nr, .int (nI yr), .ref va, .ref vb, .ref vc, .ref vd, .ref qa, .ref qb, .ref qc, .int (nI ln), .ref sa, .ref sb, .ref sc, .ref sd, .ref se, .int (nI pn), .ref ma, .ref mb, .ref mc, .ref rv, .int (nI mn), .int tol, .int (nI rn)]] H := hP
    have hD : va_D A [gO mo 9 [.int 1, .ref zt, .int (nI tn), .int (nI sz), .ref zx, .ref zy, .ref zm, .ref zb, .int rt, .int w0, .int w1, .int w2, .int lg, .int nr, .int (nI yr), .ref va, .ref vb, .ref vc, .ref vd, .ref qa, .ref qb, .ref qc, .int (nI ln), .ref sa, .ref sb, .ref sc, .ref sd, .ref se, .int (nI pn), .ref ma, .ref mb, .ref mc, .ref rv, .int (nI mn), .int tol, .int (nI rn)]] := hD
    obtain rfl := hw_27
    refine lv_if_eq (tgt := 35) hx hb dX9_loop_30 (by decide) (fun h => absurd h (by decide)) (fun _ => ?_)
    refine lv_iconst (v := 0) hx hb dX9_loop_33 (by decide) ?_
    exact hret _ _ _ _ 0 () dX9_loop_34 rfl (rfl) hP hD hS
  · refine lv_iload_n hx hb dX9_loop_5 rfl (lv_at hl 1 rfl) ?_
    refine lv_aload_n hx hb dX9_loop_6 rfl (lv_at hl 0 rfl) ?_
    refine g_get (C := RX9) (T := TX9) (N := 36) F hK hP i_X9_loop_X9 0 rfl rfl 22 (by decide) k_X9_loop_f123 (v := .int (nI ln)) rfl dX9_loop_7 ?_
    refine lv_icmp_ge (tgt := 22) hx hb dX9_loop_10 (by decide) (fun c_10 => ?_) (fun c_10 => ?_)
    · refine lv_iconst (v := 1) hx hb dX9_loop_22 (by decide) ?_
      refine lv_goto (tgt := 27) hx hb dX9_loop_23 (by decide) ?_
      refine g_VI (wr := []) (As := [.int 1]) (rest := []) (n := 1) F (c_X9_throwsIf_1 l g mo th zt tn sz zx zy zm zb rt w0 w1 w2 lg nr yr va vb vc vd qa qb qc ln sa sb sc sd se pn ma mb mc rv mn tol rn) gX9_loop_X9_throwsIf rfl (by decide) ⟨by decide, by decide⟩ 0 9 rfl rfl rfl rfl hl.1 rfl (Nat.le_of_ble_eq_true rfl) dX9_loop_27 ⟨Nat.le_of_ble_eq_true rfl, Nat.le_of_ble_eq_true rfl⟩ hK hP hD hS hA [0] [] (by decide) rfl rfl (by decide) (by decide) (fun r_27 u_27 H locs hw_27 hP hD hS => ?_)
      have hP : gP g [gO mo 9 [.int 1, .ref zt, .int (nI tn), .int (nI sz), .ref zx, .ref zy, .ref zm, .ref zb, .int rt, .int w0, .int w1, .int w2, .int lg, .int nr, .int (nI yr), .ref va, .ref vb, .ref vc, .ref vd, .ref qa, .ref qb, .ref qc, .int (nI ln), .ref sa, .ref sb, .ref sc, .ref sd, .ref se, .int (nI pn), .ref ma, .ref mb, .ref mc, .ref rv, .int (nI mn), .int tol, .int (nI rn)]] H := hP
      have hD : va_D A [gO mo 9 [.int 1, .ref zt, .int (nI tn), .int (nI sz), .ref zx, .ref zy, .ref zm, .ref zb, .int rt, .int w0, .int w1, .int w2, .int lg, .int nr, .int (nI yr), .ref va, .ref vb, .ref vc, .ref vd, .ref qa, .ref qb, .ref qc, .int (nI ln), .ref sa, .ref sb, .ref sc, .ref sd, .ref se, .int (nI pn), .ref ma, .ref mb, .ref mc, .ref rv, .int (nI mn), .int tol, .int (nI rn)]] := hD
      obtain rfl := hw_27
      refine lv_if_eq (tgt := 35) hx hb dX9_loop_30 (by decide) (fun h => absurd h (by decide)) (fun _ => ?_)
      refine lv_iconst (v := 0) hx hb dX9_loop_33 (by decide) ?_
      exact hret _ _ _ _ 0 () dX9_loop_34 rfl (rfl) hP hD hS
    · refine lv_iload_n hx hb dX9_loop_13 rfl (lv_at hl 2 rfl) ?_
      refine lv_if_lt (tgt := 22) hx hb dX9_loop_14 (by decide) (fun c_14 => ?_) (fun c_14 => ?_)
      · refine lv_iconst (v := 1) hx hb dX9_loop_22 (by decide) ?_
        refine lv_goto (tgt := 27) hx hb dX9_loop_23 (by decide) ?_
        refine g_VI (wr := []) (As := [.int 1]) (rest := []) (n := 1) F (c_X9_throwsIf_1 l g mo th zt tn sz zx zy zm zb rt w0 w1 w2 lg nr yr va vb vc vd qa qb qc ln sa sb sc sd se pn ma mb mc rv mn tol rn) gX9_loop_X9_throwsIf rfl (by decide) ⟨by decide, by decide⟩ 0 9 rfl rfl rfl rfl hl.1 rfl (Nat.le_of_ble_eq_true rfl) dX9_loop_27 ⟨Nat.le_of_ble_eq_true rfl, Nat.le_of_ble_eq_true rfl⟩ hK hP hD hS hA [0] [] (by decide) rfl rfl (by decide) (by decide) (fun r_27 u_27 H locs hw_27 hP hD hS => ?_)
        have hP : gP g [gO mo 9 [.int 1, .ref zt, .int (nI tn), .int (nI sz), .ref zx, .ref zy, .ref zm, .ref zb, .int rt, .int w0, .int w1, .int w2, .int lg, .int nr, .int (nI yr), .ref va, .ref vb, .ref vc, .ref vd, .ref qa, .ref qb, .ref qc, .int (nI ln), .ref sa, .ref sb, .ref sc, .ref sd, .ref se, .int (nI pn), .ref ma, .ref mb, .ref mc, .ref rv, .int (nI mn), .int tol, .int (nI rn)]] H := hP
        have hD : va_D A [gO mo 9 [.int 1, .ref zt, .int (nI tn), .int (nI sz), .ref zx, .ref zy, .ref zm, .ref zb, .int rt, .int w0, .int w1, .int w2, .int lg, .int nr, .int (nI yr), .ref va, .ref vb, .ref vc, .ref vd, .ref qa, .ref qb, .ref qc, .int (nI ln), .ref sa, .ref sb, .ref sc, .ref sd, .ref se, .int (nI pn), .ref ma, .ref mb, .ref mc, .ref rv, .int (nI mn), .int tol, .int (nI rn)]] := hD
        obtain rfl := hw_27
        refine lv_if_eq (tgt := 35) hx hb dX9_loop_30 (by decide) (fun h => absurd h (by decide)) (fun _ => ?_)
        refine lv_iconst (v := 0) hx hb dX9_loop_33 (by decide) ?_
        exact hret _ _ _ _ 0 () dX9_loop_34 rfl (rfl) hP hD hS
      · refine lv_iload_n hx hb dX9_loop_17 rfl (lv_at hl 2 rfl) ?_
        refine lv_iconst (v := 2) hx hb dX9_loop_18 (by decide) ?_
        refine lv_icmp_le (tgt := 26) hx hb dX9_loop_19 (by decide) (fun c_19 => ?_) (fun c_19 => ?_)
        · exact absurd h (by rintro (z | z | z | z); exact c_2 z; exact c_10 z; exact c_14 z; exact z c_19)
        · refine lv_iconst (v := 1) hx hb dX9_loop_22 (by decide) ?_
          refine lv_goto (tgt := 27) hx hb dX9_loop_23 (by decide) ?_
          refine g_VI (wr := []) (As := [.int 1]) (rest := []) (n := 1) F (c_X9_throwsIf_1 l g mo th zt tn sz zx zy zm zb rt w0 w1 w2 lg nr yr va vb vc vd qa qb qc ln sa sb sc sd se pn ma mb mc rv mn tol rn) gX9_loop_X9_throwsIf rfl (by decide) ⟨by decide, by decide⟩ 0 9 rfl rfl rfl rfl hl.1 rfl (Nat.le_of_ble_eq_true rfl) dX9_loop_27 ⟨Nat.le_of_ble_eq_true rfl, Nat.le_of_ble_eq_true rfl⟩ hK hP hD hS hA [0] [] (by decide) rfl rfl (by decide) (by decide) (fun r_27 u_27 H locs hw_27 hP hD hS => ?_)
          have hP : gP g [gO mo 9 [.int 1, .ref zt, .int (nI tn), .int (nI sz), .ref zx, .ref zy, .ref zm, .ref zb, .int rt, .int w0, .int w1, .int w2, .int lg, .int nr, .int (nI yr), .ref va, .ref vb, .ref vc, .ref vd, .ref qa, .ref qb, .ref qc, .int (nI ln), .ref sa, .ref sb, .ref sc, .ref sd, .ref se, .int (nI pn), .ref ma, .ref mb, .ref mc, .ref rv, .int (nI mn), .int tol, .int (nI rn)]] H := hP
          have hD : va_D A [gO mo 9 [.int 1, .ref zt, .int (nI tn), .int (nI sz), .ref zx, .ref zy, .ref zm, .ref zb, .int rt, .int w0, .int w1, .int w2, .int lg, .int nr, .int (nI yr), .ref va, .ref vb, .ref vc, .ref vd, .ref qa, .ref qb, .ref qc, .int (nI ln), .ref sa, .ref sb, .ref sc, .ref sd, .ref se, .int (nI pn), .ref ma, .ref mb, .ref mc, .ref rv, .int (nI mn), .int tol, .int (nI rn)]] := hD
          obtain rfl := hw_27
          refine lv_if_eq (tgt := 35) hx hb dX9_loop_30 (by decide) (fun h => absurd h (by decide)) (fun _ => ?_)
          refine lv_iconst (v := 0) hx hb dX9_loop_33 (by decide) ?_
          exact hret _ _ _ _ 0 () dX9_loop_34 rfl (rfl) hP hD hS

set_option maxHeartbeats 4000000 in
set_option maxRecDepth 100000 in
theorem c_X9_owner_t (l : Launch) (g : gT) (mo : Nat) (th : Int32) (zt : Nat) (tn : Nat) (sz : Nat) (zx : Nat) (zy : Nat) (zm : Nat) (zb : Nat) (rt : Int32) (w0 : Int32) (w1 : Int32) (w2 : Int32) (lg : Int32) (nr : Int32) (yr : Nat) (va : Nat) (vb : Nat) (vc : Nat) (vd : Nat) (qa : Nat) (qb : Nat) (qc : Nat) (ln : Nat) (sa : Nat) (sb : Nat) (sc : Nat) (sd : Nat) (se : Nat) (pn : Nat) (ma : Nat) (mb : Nat) (mc : Nat) (rv : Nat) (mn : Nat) (tol : Int32) (rn : Nat) (k : Int32) (v : Int32) (hpn : pn ≤ 20) (h : k < 0 ∨ nI pn ≤ k ∨ v < 0 ∨ ¬ v ≤ 2) : CtI l g yX9_owner wsX9_owner rm_X9_owner [.ref mo, .int k, .int v] [gO mo 9 [.int th, .ref zt, .int (nI tn), .int (nI sz), .ref zx, .ref zy, .ref zm, .ref zb, .int rt, .int w0, .int w1, .int w2, .int lg, .int nr, .int (nI yr), .ref va, .ref vb, .ref vc, .ref vd, .ref qa, .ref qb, .ref qc, .int (nI ln), .ref sa, .ref sb, .ref sc, .ref sd, .ref se, .int (nI pn), .ref ma, .ref mb, .ref mc, .ref rv, .int (nI mn), .int tol, .int (nI rn)]] (fun (r : Int32) (_ : Unit) => r = 0) (fun (_ : Unit) => [gO mo 9 [.int 1, .ref zt, .int (nI tn), .int (nI sz), .ref zx, .ref zy, .ref zm, .ref zb, .int rt, .int w0, .int w1, .int w2, .int lg, .int nr, .int (nI yr), .ref va, .ref vb, .ref vc, .ref vd, .ref qa, .ref qb, .ref qc, .int (nI ln), .ref sa, .ref sb, .ref sc, .ref sd, .ref se, .int (nI pn), .ref ma, .ref mb, .ref mc, .ref rv, .int (nI mn), .int tol, .int (nI rn)]]) := by
  refine CtI.of (cc := cX9_owner) (maxL := 3) (ret := .int) (by decide) rfl (Nat.le_of_ble_eq_true rfl) ?_
  intro p e s m args below meth c A Q hnm F hK hA hP hD hS hret ls hl
  have hx := F.1
  have hb := F.2.1
  have hl : lv_has ls 3 [(0, .ref mo), (1, .int k), (2, .int v)] := hl
  refine lv_aload_n hx hb dX9_owner_0 rfl (lv_at hl 0 rfl) ?_
  refine lv_iload_n hx hb dX9_owner_1 rfl (lv_at hl 1 rfl) ?_
  refine lv_if_lt (tgt := 22) hx hb dX9_owner_2 (by decide) (fun c_2 => ?_) (fun c_2 => ?_)
  · refine lv_iconst (v := 1) hx hb dX9_owner_22 (by decide) ?_
    refine lv_goto (tgt := 27) hx hb dX9_owner_23 (by decide) ?_
    refine g_VI (wr := []) (As := [.int 1]) (rest := []) (n := 1) F (c_X9_throwsIf_1 l g mo th zt tn sz zx zy zm zb rt w0 w1 w2 lg nr yr va vb vc vd qa qb qc ln sa sb sc sd se pn ma mb mc rv mn tol rn) gX9_owner_X9_throwsIf rfl (by decide) ⟨by decide, by decide⟩ 0 9 rfl rfl rfl rfl hl.1 rfl (Nat.le_of_ble_eq_true rfl) dX9_owner_27 ⟨Nat.le_of_ble_eq_true rfl, Nat.le_of_ble_eq_true rfl⟩ hK hP hD hS hA [0] [] (by decide) rfl rfl (by decide) (by decide) (fun r_27 u_27 H locs hw_27 hP hD hS => ?_)
    have hP : gP g [gO mo 9 [.int 1, .ref zt, .int (nI tn), .int (nI sz), .ref zx, .ref zy, .ref zm, .ref zb, .int rt, .int w0, .int w1, .int w2, .int lg, .int nr, .int (nI yr), .ref va, .ref vb, .ref vc, .ref vd, .ref qa, .ref qb, .ref qc, .int (nI ln), .ref sa, .ref sb, .ref sc, .ref sd, .ref se, .int (nI pn), .ref ma, .ref mb, .ref mc, .ref rv, .int (nI mn), .int tol, .int (nI rn)]] H := hP
    have hD : va_D A [gO mo 9 [.int 1, .ref zt, .int (nI tn), .int (nI sz), .ref zx, .ref zy, .ref zm, .ref zb, .int rt, .int w0, .int w1, .int w2, .int lg, .int nr, .int (nI yr), .ref va, .ref vb, .ref vc, .ref vd, .ref qa, .ref qb, .ref qc, .int (nI ln), .ref sa, .ref sb, .ref sc, .ref sd, .ref se, .int (nI pn), .ref ma, .ref mb, .ref mc, .ref rv, .int (nI mn), .int tol, .int (nI rn)]] := hD
    obtain rfl := hw_27
    refine lv_if_eq (tgt := 35) hx hb dX9_owner_30 (by decide) (fun h => absurd h (by decide)) (fun _ => ?_)
    refine lv_iconst (v := 0) hx hb dX9_owner_33 (by decide) ?_
    exact hret _ _ _ _ 0 () dX9_owner_34 rfl (rfl) hP hD hS
  · refine lv_iload_n hx hb dX9_owner_5 rfl (lv_at hl 1 rfl) ?_
    refine lv_aload_n hx hb dX9_owner_6 rfl (lv_at hl 0 rfl) ?_
    refine g_get (C := RX9) (T := TX9) (N := 36) F hK hP i_X9_owner_X9 0 rfl rfl 28 (by decide) k_X9_owner_f126 (v := .int (nI pn)) rfl dX9_owner_7 ?_
    refine lv_icmp_ge (tgt := 22) hx hb dX9_owner_10 (by decide) (fun c_10 => ?_) (fun c_10 => ?_)
    · refine lv_iconst (v := 1) hx hb dX9_owner_22 (by decide) ?_
      refine lv_goto (tgt := 27) hx hb dX9_owner_23 (by decide) ?_
      refine g_VI (wr := []) (As := [.int 1]) (rest := []) (n := 1) F (c_X9_throwsIf_1 l g mo th zt tn sz zx zy zm zb rt w0 w1 w2 lg nr yr va vb vc vd qa qb qc ln sa sb sc sd se pn ma mb mc rv mn tol rn) gX9_owner_X9_throwsIf rfl (by decide) ⟨by decide, by decide⟩ 0 9 rfl rfl rfl rfl hl.1 rfl (Nat.le_of_ble_eq_true rfl) dX9_owner_27 ⟨Nat.le_of_ble_eq_true rfl, Nat.le_of_ble_eq_true rfl⟩ hK hP hD hS hA [0] [] (by decide) rfl rfl (by decide) (by decide) (fun r_27 u_27 H locs hw_27 hP hD hS => ?_)
      have hP : gP g [gO mo 9 [.int 1, .ref zt, .int (nI tn), .int (nI sz), .ref zx, .ref zy, .ref zm, .ref zb, .int rt, .int w0, .int w1, .int w2, .int lg, .int nr, .int (nI yr), .ref va, .ref vb, .ref vc, .ref vd, .ref qa, .ref qb, .ref qc, .int (nI ln), .ref sa, .ref sb, .ref sc, .ref sd, .ref se, .int (nI pn), .ref ma, .ref mb, .ref mc, .ref rv, .int (nI mn), .int tol, .int (nI rn)]] H := hP
      have hD : va_D A [gO mo 9 [.int 1, .ref zt, .int (nI tn), .int (nI sz), .ref zx, .ref zy, .ref zm, .ref zb, .int rt, .int w0, .int w1, .int w2, .int lg, .int nr, .int (nI yr), .ref va, .ref vb, .ref vc, .ref vd, .ref qa, .ref qb, .ref qc, .int (nI ln), .ref sa, .ref sb, .ref sc, .ref sd, .ref se, .int (nI pn), .ref ma, .ref mb, .ref mc, .ref rv, .int (nI mn), .int tol, .int (nI rn)]] := hD
      obtain rfl := hw_27
      refine lv_if_eq (tgt := 35) hx hb dX9_owner_30 (by decide) (fun h => absurd h (by decide)) (fun _ => ?_)
      refine lv_iconst (v := 0) hx hb dX9_owner_33 (by decide) ?_
      exact hret _ _ _ _ 0 () dX9_owner_34 rfl (rfl) hP hD hS
    · refine lv_iload_n hx hb dX9_owner_13 rfl (lv_at hl 2 rfl) ?_
      refine lv_if_lt (tgt := 22) hx hb dX9_owner_14 (by decide) (fun c_14 => ?_) (fun c_14 => ?_)
      · refine lv_iconst (v := 1) hx hb dX9_owner_22 (by decide) ?_
        refine lv_goto (tgt := 27) hx hb dX9_owner_23 (by decide) ?_
        refine g_VI (wr := []) (As := [.int 1]) (rest := []) (n := 1) F (c_X9_throwsIf_1 l g mo th zt tn sz zx zy zm zb rt w0 w1 w2 lg nr yr va vb vc vd qa qb qc ln sa sb sc sd se pn ma mb mc rv mn tol rn) gX9_owner_X9_throwsIf rfl (by decide) ⟨by decide, by decide⟩ 0 9 rfl rfl rfl rfl hl.1 rfl (Nat.le_of_ble_eq_true rfl) dX9_owner_27 ⟨Nat.le_of_ble_eq_true rfl, Nat.le_of_ble_eq_true rfl⟩ hK hP hD hS hA [0] [] (by decide) rfl rfl (by decide) (by decide) (fun r_27 u_27 H locs hw_27 hP hD hS => ?_)
        have hP : gP g [gO mo 9 [.int 1, .ref zt, .int (nI tn), .int (nI sz), .ref zx, .ref zy, .ref zm, .ref zb, .int rt, .int w0, .int w1, .int w2, .int lg, .int nr, .int (nI yr), .ref va, .ref vb, .ref vc, .ref vd, .ref qa, .ref qb, .ref qc, .int (nI ln), .ref sa, .ref sb, .ref sc, .ref sd, .ref se, .int (nI pn), .ref ma, .ref mb, .ref mc, .ref rv, .int (nI mn), .int tol, .int (nI rn)]] H := hP
        have hD : va_D A [gO mo 9 [.int 1, .ref zt, .int (nI tn), .int (nI sz), .ref zx, .ref zy, .ref zm, .ref zb, .int rt, .int w0, .int w1, .int w2, .int lg, .int nr, .int (nI yr), .ref va, .ref vb, .ref vc, .ref vd, .ref qa, .ref qb, .ref qc, .int (nI ln), .ref sa, .ref sb, .ref sc, .ref sd, .ref se, .int (nI pn), .ref ma, .ref mb, .ref mc, .ref rv, .int (nI mn), .int tol, .int (nI rn)]] := hD
        obtain rfl := hw_27
        refine lv_if_eq (tgt := 35) hx hb dX9_owner_30 (by decide) (fun h => absurd h (by decide)) (fun _ => ?_)
        refine lv_iconst (v := 0) hx hb dX9_owner_33 (by decide) ?_
        exact hret _ _ _ _ 0 () dX9_owner_34 rfl (rfl) hP hD hS
      · refine lv_iload_n hx hb dX9_owner_17 rfl (lv_at hl 2 rfl) ?_
        refine lv_iconst (v := 2) hx hb dX9_owner_18 (by decide) ?_
        refine lv_icmp_le (tgt := 26) hx hb dX9_owner_19 (by decide) (fun c_19 => ?_) (fun c_19 => ?_)
        · exact absurd h (by rintro (z | z | z | z); exact c_2 z; exact c_10 z; exact c_14 z; exact z c_19)
        · refine lv_iconst (v := 1) hx hb dX9_owner_22 (by decide) ?_
          refine lv_goto (tgt := 27) hx hb dX9_owner_23 (by decide) ?_
          refine g_VI (wr := []) (As := [.int 1]) (rest := []) (n := 1) F (c_X9_throwsIf_1 l g mo th zt tn sz zx zy zm zb rt w0 w1 w2 lg nr yr va vb vc vd qa qb qc ln sa sb sc sd se pn ma mb mc rv mn tol rn) gX9_owner_X9_throwsIf rfl (by decide) ⟨by decide, by decide⟩ 0 9 rfl rfl rfl rfl hl.1 rfl (Nat.le_of_ble_eq_true rfl) dX9_owner_27 ⟨Nat.le_of_ble_eq_true rfl, Nat.le_of_ble_eq_true rfl⟩ hK hP hD hS hA [0] [] (by decide) rfl rfl (by decide) (by decide) (fun r_27 u_27 H locs hw_27 hP hD hS => ?_)
          have hP : gP g [gO mo 9 [.int 1, .ref zt, .int (nI tn), .int (nI sz), .ref zx, .ref zy, .ref zm, .ref zb, .int rt, .int w0, .int w1, .int w2, .int lg, .int nr, .int (nI yr), .ref va, .ref vb, .ref vc, .ref vd, .ref qa, .ref qb, .ref qc, .int (nI ln), .ref sa, .ref sb, .ref sc, .ref sd, .ref se, .int (nI pn), .ref ma, .ref mb, .ref mc, .ref rv, .int (nI mn), .int tol, .int (nI rn)]] H := hP
          have hD : va_D A [gO mo 9 [.int 1, .ref zt, .int (nI tn), .int (nI sz), .ref zx, .ref zy, .ref zm, .ref zb, .int rt, .int w0, .int w1, .int w2, .int lg, .int nr, .int (nI yr), .ref va, .ref vb, .ref vc, .ref vd, .ref qa, .ref qb, .ref qc, .int (nI ln), .ref sa, .ref sb, .ref sc, .ref sd, .ref se, .int (nI pn), .ref ma, .ref mb, .ref mc, .ref rv, .int (nI mn), .int tol, .int (nI rn)]] := hD
          obtain rfl := hw_27
          refine lv_if_eq (tgt := 35) hx hb dX9_owner_30 (by decide) (fun h => absurd h (by decide)) (fun _ => ?_)
          refine lv_iconst (v := 0) hx hb dX9_owner_33 (by decide) ?_
          exact hret _ _ _ _ 0 () dX9_owner_34 rfl (rfl) hP hD hS

