theorem cls_1 (X Y : RW) (n : Nat) : clsS X Y n 1 = (1, upd (fun _ => 0) 0 (X 0), upd (fun _ => 0) 0 (Y 0), n) := by
  rw [cls_in (i := 0) (fun h => absurd h.1.1 (by decide))]; rfl
theorem lng_1 (X Y : RW) (n : Nat) (d : Int32) : lngS X Y n d 1 = (1, upd (fun _ => 0) 0 (X 0), upd (fun _ => 0) 0 (Y 0), n) := by
  rw [lng_one (i := 0) (fun h => absurd h.1 (by decide))]; rfl
theorem near3 {a b x y : Int32} (h1 : inP a) (h2 : inP b) (h3 : inP x) (h4 : inP y) {SX SY : RW} {k : Nat} (e1 : SX k = a) (e2 : SY k = b) : nearB SX SY k x y 3 = true ↔ ¬ 4 ≤ g_abs (x - a) ∧ ¬ 4 ≤ g_abs (y - b) := by
  rw [nearB, e1, e2, Bool.and_eq_true, decide_eq_true_eq, decide_eq_true_eq, abs_43 h3 h1, abs_43 h4 h2]
theorem nearL {a b x y d : Int32} (h1 : inP a) (h2 : inP b) (h3 : inP x) (h4 : inP y) {SX SY : RW} {k : Nat} (e1 : SX k = a) (e2 : SY k = b) : nearB SX SY k x y d = true ↔ ¬ d < g_abs (x - a) ∧ ¬ d < g_abs (y - b) := by
  rw [nearB, e1, e2, Bool.and_eq_true, decide_eq_true_eq, decide_eq_true_eq, abs_c h3 h1, abs_c h4 h2]
/-- in place: kept up to t, as before from k on -/
def inW (b n t k : Nat) (S X f g : RW) : Prop := (∀ j, j < t → g (48 * b + j) = S j) ∧ (∀ j, k ≤ j → j < n → g (48 * b + j) = X j) ∧ ∀ q, (q < 48 * b ∨ 48 * b + 48 ≤ q) → g q = f q
theorem inW_out {b n t k : Nat} {S X f g : RW} (h : inW b n t k S X f g) : inW b n t (k + 1) S X f g := ⟨h.1, fun j a c => h.2.1 j (by omega) c, h.2.2⟩
theorem inW_in {b n t k : Nat} {S X f g : RW} {x : Int32} (h : inW b n t k S X f g) (htk : t ≤ k) (hk : k < 48) (hx : x = X k) : inW b n (t + 1) (k + 1) (upd S t (X k)) X f (upd g (48 * b + t) x) := by
  refine ⟨fun j hj => ?_, fun j h1 h2 => ?_, fun q hq => ?_⟩
  · by_cases e : j = t
    · subst e; rw [pk_us, pk_us]; exact hx
    · rw [pk_un (by omega), pk_un e]; exact h.1 j (by omega)
  · rw [pk_un (by omega)]; exact h.2.1 j (by omega) h2
  · rw [pk_un (by omega)]; exact h.2.2 q hq
/-- anew: written up to t, outside as before -/
def nwW (b t : Nat) (S f g : RW) : Prop := (∀ j, j < t → g (48 * b + j) = S j) ∧ ∀ q, (q < 48 * b ∨ 48 * b + 48 ≤ q) → g q = f q
theorem nwW_s {b t : Nat} {S f g : RW} {x : Int32} (h : nwW b t S f g) (ht : t < 48) : nwW b (t + 1) (upd S t x) f (upd g (48 * b + t) x) := by
  refine ⟨fun j hj => ?_, fun q hq => ?_⟩
  · by_cases e : j = t
    · subst e; rw [pk_us, pk_us]
    · rw [pk_un (by omega), pk_un e]; exact h.1 j (by omega)
  · rw [pk_un (by omega)]; exact h.2 q hq
abbrev rm_X9_space : Room := { frames := 1, cells := 0, slots := 0, locals := 20 }
theorem i_X9_space_X9 : ∀ w ∈ wsX90, w ∈ wsX9_space := by decide +kernel
theorem k_X9_space_f34 : Cond.fieldLink RX9 34 (TX9 6).1 (TX9 6).2.1 (TX9 6).2.2.1 ∈ wsX9_space := by decide +kernel
theorem k_X9_space_f64 : Cond.fieldLink RX9 64 (TX9 17).1 (TX9 17).2.1 (TX9 17).2.2.1 ∈ wsX9_space := by decide +kernel
theorem k_X9_space_f52 : Cond.fieldLink RX9 52 (TX9 12).1 (TX9 12).2.1 (TX9 12).2.2.1 ∈ wsX9_space := by decide +kernel
theorem k_X9_space_f27 : Cond.fieldLink RX9 27 (TX9 4).1 (TX9 4).2.1 (TX9 4).2.2.1 ∈ wsX9_space := by decide +kernel
theorem k_X9_space_f31 : Cond.fieldLink RX9 31 (TX9 5).1 (TX9 5).2.1 (TX9 5).2.2.1 ∈ wsX9_space := by decide +kernel
theorem k_X9_space_f67 : Cond.fieldLink RX9 67 (TX9 18).1 (TX9 18).2.1 (TX9 18).2.2.1 ∈ wsX9_space := by decide +kernel
set_option maxHeartbeats 4000000 in
set_option maxRecDepth 100000 in
theorem c_X9_space (l : Launch) (g : gT) (mo : Nat) (th : Int32) (zt : Nat) (tn : Nat) (sz : Nat) (zx : Nat) (zy : Nat) (zm : Nat) (zb : Nat) (rt : Int32) (w0 : Int32) (w1 : Int32) (w2 : Int32) (lg : Int32) (nr : Int32) (yr : Nat) (va : Nat) (vb : Nat) (vc : Nat) (vd : Nat) (qa : Nat) (qb : Nat) (qc : Nat) (ln : Nat) (sa : Nat) (sb : Nat) (sc : Nat) (sd : Nat) (se : Nat) (pn : Nat) (ma : Nat) (mb : Nat) (mc : Nat) (rv : Nat) (mn : Nat) (tol : Int32) (rn : Nat) (l_ : Nat) (n : Nat) (fm : Nat → Int32) (fx : Nat → Int32) (fy : Nat → Int32) (X : Nat → Int32) (Y : Nat → Int32) (e3 : Nat → Int32) (e4 : Nat → Int32) (hl3 : l_ < 3) (hm : fm l_ = nI n) (hn : n ≤ 48) (hX : ∀ k, k < n → fx (48 * l_ + k) = X k) (hY : ∀ k, k < n → fy (48 * l_ + k) = Y k) (h4n : 4 ≤ n) (hin : ∀ k, k < n → inP (X k) ∧ inP (Y k)) : CtV l g yX9_space wsX9_space rm_X9_space [.ref mo, .int (nI l_)] [gO mo 9 [.int th, .ref zt, .int (nI tn), .int (nI sz), .ref zx, .ref zy, .ref zm, .ref zb, .int rt, .int w0, .int w1, .int w2, .int lg, .int nr, .int (nI yr), .ref va, .ref vb, .ref vc, .ref vd, .ref qa, .ref qb, .ref qc, .int (nI ln), .ref sa, .ref sb, .ref sc, .ref sd, .ref se, .int (nI pn), .ref ma, .ref mb, .ref mc, .ref rv, .int (nI mn), .int tol, .int (nI rn)], gI g zx 144 fx, gI g zy 144 fy, gI g zm 3 fm, gI g vc 48 e3, gI g vd 48 e4] (fun (u : (Nat → Int32) × (Nat → Int32) × (Nat → Int32) × (Nat → Int32)) => nwW l_ (lngS (clsS X Y n n).2.1 (clsS X Y n n).2.2.1 (clsS X Y n n).1 lg (clsS X Y n n).1).1 (lngS (clsS X Y n n).2.1 (clsS X Y n n).2.2.1 (clsS X Y n n).1 lg (clsS X Y n n).1).2.1 fx u.1 ∧ nwW l_ (lngS (clsS X Y n n).2.1 (clsS X Y n n).2.2.1 (clsS X Y n n).1 lg (clsS X Y n n).1).1 (lngS (clsS X Y n n).2.1 (clsS X Y n n).2.2.1 (clsS X Y n n).1 lg (clsS X Y n n).1).2.2.1 fy u.2.1) (fun (u : (Nat → Int32) × (Nat → Int32) × (Nat → Int32) × (Nat → Int32)) => [gO mo 9 [.int th, .ref zt, .int (nI tn), .int (nI sz), .ref zx, .ref zy, .ref zm, .ref zb, .int rt, .int w0, .int w1, .int w2, .int lg, .int nr, .int (nI yr), .ref va, .ref vb, .ref vc, .ref vd, .ref qa, .ref qb, .ref qc, .int (nI ln), .ref sa, .ref sb, .ref sc, .ref sd, .ref se, .int (nI pn), .ref ma, .ref mb, .ref mc, .ref rv, .int (nI mn), .int tol, .int (nI rn)], gI g zx 144 u.1, gI g zy 144 u.2.1, gI g zm 3 (upd fm l_ (nI (lngS (clsS X Y n n).2.1 (clsS X Y n n).2.2.1 (clsS X Y n n).1 lg (clsS X Y n n).1).1)), gI g vc 48 u.2.2.1, gI g vd 48 u.2.2.2]) := by
  refine CtV.of (cc := cX9_space) (maxL := 9) (by decide) rfl (Nat.le_of_ble_eq_true rfl) ?_
  intro p e s m args below meth c A Q hnm F hK hA hP hD hS hret ls hl
  have hx := F.1
  have hb := F.2.1
  have hl : lv_has ls 9 [(0, .ref mo), (1, .int (nI l_))] := hl
  refine lv_bipush (v := 48) hx hb dX9_space_0 (by decide) ?_
  refine lv_iload_n hx hb dX9_space_2 rfl (lv_at hl 1 rfl) ?_
  refine n_imul (a := 48) (b := l_) (d := 48 * l_) hx hb dX9_space_3 (rfl) ?_
  refine lv_istore_n (lv' := [(2, .int (nI (48 * l_))), (0, .ref mo), (1, .int (nI l_))]) hx hb dX9_space_4 rfl hl (by decide) rfl (fun ls hl => ?_)
  refine lv_aload_n hx hb dX9_space_5 rfl (lv_at hl 1 rfl) ?_
  refine g_get (C := RX9) (T := TX9) (N := 36) F hK hP i_X9_space_X9 0 rfl rfl 6 (by decide) k_X9_space_f34 (v := .ref zm) rfl dX9_space_6 ?_
  refine lv_iload_n hx hb dX9_space_9 rfl (lv_at hl 2 rfl) ?_
  refine g_iald (i := l_) (v := (nI n)) hx hb hK hP 3 rfl (by decide) (by omega) (hm) dX9_space_10 ?_
  refine lv_istore_n (lv' := [(3, .int (nI n)), (2, .int (nI (48 * l_))), (0, .ref mo), (1, .int (nI l_))]) hx hb dX9_space_11 rfl hl (by decide) rfl (fun ls hl => ?_)
  refine lv_iconst (v := 1) hx hb dX9_space_12 (by decide) ?_
  refine lv_istore (lv' := [(4, .int 1), (3, .int (nI n)), (2, .int (nI (48 * l_))), (0, .ref mo), (1, .int (nI l_))]) hx hb dX9_space_13 hl (by decide) rfl (fun ls hl => ?_)
  refine lv_iconst (v := 1) hx hb dX9_space_15 (by decide) ?_
  refine lv_istore (lv' := [(5, .int 1), (4, .int 1), (3, .int (nI n)), (2, .int (nI (48 * l_))), (0, .ref mo), (1, .int (nI l_))]) hx hb dX9_space_16 hl (by decide) rfl (fun ls hl => ?_)
  have L18 : ∀ (fuel : Nat) (t : Nat) (mm : Nat) (k : Nat) (gx : Nat → Int32) (gy : Nat → Int32) (ls : Array Slot) (H : Heap) (locs : List Loc), n - k < fuel → (1 ≤ k) → (k ≤ n) → (mm = (clsS X Y n k).1) → (t = (clsS X Y n k).2.2.2) → (inW l_ n mm k (clsS X Y n k).2.1 X fx gx) → (inW l_ n mm k (clsS X Y n k).2.2.1 Y fy gy) → lv_has ls 9 [(0, .ref mo), (1, .int (nI l_)), (2, .int (nI (48 * l_))), (3, .int (nI t)), (4, .int (nI mm)), (5, .int (nI k))] → gP g [gO mo 9 [.int th, .ref zt, .int (nI tn), .int (nI sz), .ref zx, .ref zy, .ref zm, .ref zb, .int rt, .int w0, .int w1, .int w2, .int lg, .int nr, .int (nI yr), .ref va, .ref vb, .ref vc, .ref vd, .ref qa, .ref qb, .ref qc, .int (nI ln), .ref sa, .ref sb, .ref sc, .ref sd, .ref se, .int (nI pn), .ref ma, .ref mb, .ref mc, .ref rv, .int (nI mn), .int tol, .int (nI rn)], gI g zx 144 gx, gI g zy 144 gy, gI g zm 3 fm, gI g vc 48 e3, gI g vd 48 e4] H → va_D A [gO mo 9 [.int th, .ref zt, .int (nI tn), .int (nI sz), .ref zx, .ref zy, .ref zm, .ref zb, .int rt, .int w0, .int w1, .int w2, .int lg, .int nr, .int (nI yr), .ref va, .ref vb, .ref vc, .ref vd, .ref qa, .ref qb, .ref qc, .int (nI ln), .ref sa, .ref sb, .ref sc, .ref sd, .ref se, .int (nI pn), .ref ma, .ref mb, .ref mc, .ref rv, .int (nI mn), .int tol, .int (nI rn)], gI g zx 144 gx, gI g zy 144 gy, gI g zm 3 fm, gI g vc 48 e3, gI g vd 48 e4] → va_S A s.heap H locs → W p l e rm_X9_space s m args below meth c H locs 0 0 Q (F0 m 18 ls []) := by
    intro fuel
    induction fuel with
    | zero => intro t mm k gx gy _ _ _ hk; exact absurd hk (Nat.not_lt_zero _)
    | succ fuel_18 ih_18 =>
      intro t mm k gx gy ls H locs hk_18 hk1 hk hm_ ht a1 a2 hl hP hD hS
      have hiv := cls_inv X Y h4n k hk
      have hm1 : 1 ≤ mm := by have := hiv.2.2.2 (by omega); omega
      have hmk : mm ≤ k := by omega
      refine lv_iload hx hb dX9_space_18 (lv_at hl 5 rfl) ?_
      refine lv_aload_n hx hb dX9_space_20 rfl (lv_at hl 0 rfl) ?_
      refine g_get (C := RX9) (T := TX9) (N := 36) F hK hP i_X9_space_X9 0 rfl rfl 6 (by decide) k_X9_space_f34 (v := .ref zm) rfl dX9_space_21 ?_
      refine lv_iload_n hx hb dX9_space_24 rfl (lv_at hl 1 rfl) ?_
      refine g_iald (i := l_) (v := (nI n)) hx hb hK hP 3 rfl (by decide) (by omega) (hm) dX9_space_25 ?_
      refine n_icmp_ge (a := k) (b := n) (tgt := 166) hx hb dX9_space_26 (by decide) (by omega) (by omega) (fun c_26 => ?_) (fun c_26 => ?_)
      · obtain rfl : n = k := by omega
        obtain rfl : (clsS X Y n n).1 = mm := hm_.symm
        have hiv := cls_inv X Y h4n n (Nat.le_refl _)
        have hrg := cls_rng hin n (Nat.le_refl _)
        refine lv_iconst (v := 0) hx hb dX9_space_166 (by decide) ?_
        refine lv_istore (lv' := [(5, .int 0), (0, .ref mo), (1, .int (nI l_)), (2, .int (nI (48 * l_))), (3, .int (nI t)), (4, .int (nI ((clsS X Y n n).1)))]) hx hb dX9_space_167 hl (by decide) rfl (fun ls hl => ?_)
        have L169 : ∀ (fuel : Nat) (k : Nat) (c3 : Nat → Int32) (c4 : Nat → Int32) (ls : Array Slot) (H : Heap) (locs : List Loc), (clsS X Y n n).1 - k < fuel → (k ≤ (clsS X Y n n).1) → (∀ j, j < k → c3 j = (clsS X Y n n).2.1 j) → (∀ j, j < k → c4 j = (clsS X Y n n).2.2.1 j) → lv_has ls 9 [(0, .ref mo), (1, .int (nI l_)), (2, .int (nI (48 * l_))), (3, .int (nI t)), (4, .int (nI ((clsS X Y n n).1))), (5, .int (nI k))] → gP g [gO mo 9 [.int th, .ref zt, .int (nI tn), .int (nI sz), .ref zx, .ref zy, .ref zm, .ref zb, .int rt, .int w0, .int w1, .int w2, .int lg, .int nr, .int (nI yr), .ref va, .ref vb, .ref vc, .ref vd, .ref qa, .ref qb, .ref qc, .int (nI ln), .ref sa, .ref sb, .ref sc, .ref sd, .ref se, .int (nI pn), .ref ma, .ref mb, .ref mc, .ref rv, .int (nI mn), .int tol, .int (nI rn)], gI g zx 144 gx, gI g zy 144 gy, gI g zm 3 fm, gI g vc 48 c3, gI g vd 48 c4] H → va_D A [gO mo 9 [.int th, .ref zt, .int (nI tn), .int (nI sz), .ref zx, .ref zy, .ref zm, .ref zb, .int rt, .int w0, .int w1, .int w2, .int lg, .int nr, .int (nI yr), .ref va, .ref vb, .ref vc, .ref vd, .ref qa, .ref qb, .ref qc, .int (nI ln), .ref sa, .ref sb, .ref sc, .ref sd, .ref se, .int (nI pn), .ref ma, .ref mb, .ref mc, .ref rv, .int (nI mn), .int tol, .int (nI rn)], gI g zx 144 gx, gI g zy 144 gy, gI g zm 3 fm, gI g vc 48 c3, gI g vd 48 c4] → va_S A s.heap H locs → W p l e rm_X9_space s m args below meth c H locs 0 0 Q (F0 m 169 ls []) := by
          intro fuel
          induction fuel with
          | zero => intro k c3 c4 _ _ _ hk; exact absurd hk (Nat.not_lt_zero _)
          | succ fuel_169 ih_169 =>
            intro k c3 c4 ls H locs hk_169 hk h3 h4 hl hP hD hS
            refine lv_iload hx hb dX9_space_169 (lv_at hl 5 rfl) ?_
            refine lv_iload hx hb dX9_space_171 (lv_at hl 4 rfl) ?_
            refine n_icmp_ge (a := k) (b := (clsS X Y n n).1) (tgt := 214) hx hb dX9_space_173 (by decide) (by omega) (by omega) (fun c_173 => ?_) (fun c_173 => ?_)
            · obtain rfl : (clsS X Y n n).1 = k := by omega
              refine lv_iload hx hb dX9_space_214 (lv_at hl 4 rfl) ?_
              refine lv_istore (lv' := [(5, .int (nI ((clsS X Y n n).1))), (0, .ref mo), (1, .int (nI l_)), (2, .int (nI (48 * l_))), (3, .int (nI t)), (4, .int (nI ((clsS X Y n n).1)))]) hx hb dX9_space_216 hl (by decide) rfl (fun ls hl => ?_)
              refine lv_iconst (v := 1) hx hb dX9_space_218 (by decide) ?_
              refine lv_istore (lv' := [(6, .int 1), (5, .int (nI ((clsS X Y n n).1))), (0, .ref mo), (1, .int (nI l_)), (2, .int (nI (48 * l_))), (3, .int (nI t)), (4, .int (nI ((clsS X Y n n).1)))]) hx hb dX9_space_219 hl (by decide) rfl (fun ls hl => ?_)
              refine lv_iconst (v := 1) hx hb dX9_space_221 (by decide) ?_
              refine lv_istore (lv' := [(7, .int 1), (6, .int 1), (5, .int (nI ((clsS X Y n n).1))), (0, .ref mo), (1, .int (nI l_)), (2, .int (nI (48 * l_))), (3, .int (nI t)), (4, .int (nI ((clsS X Y n n).1)))]) hx hb dX9_space_222 hl (by decide) rfl (fun ls hl => ?_)
              have L224 : ∀ (fuel : Nat) (tt : Nat) (mm : Nat) (k : Nat) (gx2 : Nat → Int32) (gy2 : Nat → Int32) (ls : Array Slot) (H : Heap) (locs : List Loc), (clsS X Y n n).1 - k < fuel → (1 ≤ k) → (k ≤ (clsS X Y n n).1) → (mm = (lngS (clsS X Y n n).2.1 (clsS X Y n n).2.2.1 (clsS X Y n n).1 lg k).1) → (tt = (lngS (clsS X Y n n).2.1 (clsS X Y n n).2.2.1 (clsS X Y n n).1 lg k).2.2.2) → (nwW l_ mm (lngS (clsS X Y n n).2.1 (clsS X Y n n).2.2.1 (clsS X Y n n).1 lg k).2.1 fx gx2) → (nwW l_ mm (lngS (clsS X Y n n).2.1 (clsS X Y n n).2.2.1 (clsS X Y n n).1 lg k).2.2.1 fy gy2) → lv_has ls 9 [(0, .ref mo), (1, .int (nI l_)), (2, .int (nI (48 * l_))), (4, .int (nI ((clsS X Y n n).1))), (5, .int (nI tt)), (6, .int (nI mm)), (7, .int (nI k))] → gP g [gO mo 9 [.int th, .ref zt, .int (nI tn), .int (nI sz), .ref zx, .ref zy, .ref zm, .ref zb, .int rt, .int w0, .int w1, .int w2, .int lg, .int nr, .int (nI yr), .ref va, .ref vb, .ref vc, .ref vd, .ref qa, .ref qb, .ref qc, .int (nI ln), .ref sa, .ref sb, .ref sc, .ref sd, .ref se, .int (nI pn), .ref ma, .ref mb, .ref mc, .ref rv, .int (nI mn), .int tol, .int (nI rn)], gI g zx 144 gx2, gI g zy 144 gy2, gI g zm 3 fm, gI g vc 48 c3, gI g vd 48 c4] H → va_D A [gO mo 9 [.int th, .ref zt, .int (nI tn), .int (nI sz), .ref zx, .ref zy, .ref zm, .ref zb, .int rt, .int w0, .int w1, .int w2, .int lg, .int nr, .int (nI yr), .ref va, .ref vb, .ref vc, .ref vd, .ref qa, .ref qb, .ref qc, .int (nI ln), .ref sa, .ref sb, .ref sc, .ref sd, .ref se, .int (nI pn), .ref ma, .ref mb, .ref mc, .ref rv, .int (nI mn), .int tol, .int (nI rn)], gI g zx 144 gx2, gI g zy 144 gy2, gI g zm 3 fm, gI g vc 48 c3, gI g vd 48 c4] → va_S A s.heap H locs → W p l e rm_X9_space s m args below meth c H locs 0 0 Q (F0 m 224 ls []) := by
                intro fuel
                induction fuel with
                | zero => intro tt mm k gx2 gy2 _ _ _ hk; exact absurd hk (Nat.not_lt_zero _)
                | succ fuel_224 ih_224 =>
                  intro tt mm k gx2 gy2 ls H locs hk_224 hk1 hk hm_ ht b1 b2 hl hP hD hS
                  have hlv := lng_inv (clsS X Y n n).2.1 (clsS X Y n n).2.2.1 lg (n := (clsS X Y n n).1) (by omega) k hk
                  refine lv_iload hx hb dX9_space_224 (lv_at hl 6 rfl) ?_
                  refine lv_iload hx hb dX9_space_226 (lv_at hl 3 rfl) ?_
                  refine n_icmp_ge (a := k) (b := (clsS X Y n n).1) (tgt := 407) hx hb dX9_space_228 (by decide) (by omega) (by omega) (fun c_228 => ?_) (fun c_228 => ?_)
                  · obtain rfl : (clsS X Y n n).1 = k := by omega
                    obtain rfl : (lngS (clsS X Y n n).2.1 (clsS X Y n n).2.2.1 (clsS X Y n n).1 lg (clsS X Y n n).1).1 = mm := hm_.symm
                    obtain rfl : (lngS (clsS X Y n n).2.1 (clsS X Y n n).2.2.1 (clsS X Y n n).1 lg (clsS X Y n n).1).1 = tt := by omega
                    refine lv_aload_n hx hb dX9_space_407 rfl (lv_at hl 0 rfl) ?_
                    refine g_get (C := RX9) (T := TX9) (N := 36) F hK hP i_X9_space_X9 0 rfl rfl 6 (by decide) k_X9_space_f34 (v := .ref zm) rfl dX9_space_408 ?_
                    refine lv_iload_n hx hb dX9_space_411 rfl (lv_at hl 1 rfl) ?_
                    refine lv_iload hx hb dX9_space_412 (lv_at hl 4 rfl) ?_
                    refine g_iast (i := l_) (ws2 := [gO mo 9 [.int th, .ref zt, .int (nI tn), .int (nI sz), .ref zx, .ref zy, .ref zm, .ref zb, .int rt, .int w0, .int w1, .int w2, .int lg, .int nr, .int (nI yr), .ref va, .ref vb, .ref vc, .ref vd, .ref qa, .ref qb, .ref qc, .int (nI ln), .ref sa, .ref sb, .ref sc, .ref sd, .ref se, .int (nI pn), .ref ma, .ref mb, .ref mc, .ref rv, .int (nI mn), .int tol, .int (nI rn)], gI g zx 144 gx2, gI g zy 144 gy2, gI g zm 3 (upd fm l_ (nI ((lngS (clsS X Y n n).2.1 (clsS X Y n n).2.2.1 (clsS X Y n n).1 lg (clsS X Y n n).1).1))), gI g vc 48 c3, gI g vd 48 c4]) hx hb hK hP hD hS 3 rfl (by decide) (by omega) rfl dX9_space_414 (fun H locs hP hD hS => ?_)
                    exact hret _ _ _ _ (gx2, gy2, c3, c4) dX9_space_415 (⟨b1, b2⟩) hP hD hS
                  · have hq1 := hrg.1 k (by omega)
                    have hq2 := hrg.2 k (by omega)
                    have hq3 := hrg.1 (k - 1) (by omega)
                    have hq4 := hrg.2 (k - 1) (by omega)
                    refine lv_aload_n hx hb dX9_space_231 rfl (lv_at hl 0 rfl) ?_
                    refine g_get (C := RX9) (T := TX9) (N := 36) F hK hP i_X9_space_X9 0 rfl rfl 17 (by decide) k_X9_space_f64 (v := .ref vc) rfl dX9_space_232 ?_
                    refine lv_iload hx hb dX9_space_235 (lv_at hl 6 rfl) ?_
                    refine g_iald (i := k) (v := ((clsS X Y n n).2.1 k)) hx hb hK hP 4 rfl (by decide) (by omega) (h3 k (by omega)) dX9_space_237 ?_
                    refine lv_aload_n hx hb dX9_space_238 rfl (lv_at hl 0 rfl) ?_
                    refine g_get (C := RX9) (T := TX9) (N := 36) F hK hP i_X9_space_X9 0 rfl rfl 17 (by decide) k_X9_space_f64 (v := .ref vc) rfl dX9_space_239 ?_
                    refine lv_iload hx hb dX9_space_242 (lv_at hl 6 rfl) ?_
                    refine lv_iconst (v := 1) hx hb dX9_space_244 (by decide) ?_
                    refine n_isub (a := k) (b := 1) (d := k - 1) hx hb dX9_space_245 (by omega) (by omega) ?_
                    refine g_iald (i := k - 1) (v := ((clsS X Y n n).2.1 (k - 1))) hx hb hK hP 4 rfl (by decide) (by omega) (h3 (k - 1) (by omega)) dX9_space_246 ?_
                    refine lv_isub hx hb dX9_space_247 ?_
                    refine g_SI (wr := [gO mo 9 [.int th, .ref zt, .int (nI tn), .int (nI sz), .ref zx, .ref zy, .ref zm, .ref zb, .int rt, .int w0, .int w1, .int w2, .int lg, .int nr, .int (nI yr), .ref va, .ref vb, .ref vc, .ref vd, .ref qa, .ref qb, .ref qc, .int (nI ln), .ref sa, .ref sb, .ref sc, .ref sd, .ref se, .int (nI pn), .ref ma, .ref mb, .ref mc, .ref rv, .int (nI mn), .int tol, .int (nI rn)], gI g zx 144 gx2, gI g zy 144 gy2, gI g zm 3 fm, gI g vc 48 c3, gI g vd 48 c4]) (As := [.int (((clsS X Y n n).2.1 k) - ((clsS X Y n n).2.1 (k - 1)))]) (rest := []) (n := 1) F (c_X9_size l g (((clsS X Y n n).2.1 k) - ((clsS X Y n n).2.1 (k - 1)))) gX9_space_X9_size rfl (by decide) ⟨by decide, by decide⟩ rfl hl.1 rfl (Nat.le_of_ble_eq_true rfl) dX9_space_248 ⟨Nat.le_of_ble_eq_true rfl, Nat.le_of_ble_eq_true rfl⟩ hK hP hD hS hA [] [0, 1, 2, 3, 4, 5] (by decide) rfl rfl (by decide) (by decide) (fun r_248 u_248 H locs hw_248 hP hD hS => ?_)
                    have hP : gP g [gO mo 9 [.int th, .ref zt, .int (nI tn), .int (nI sz), .ref zx, .ref zy, .ref zm, .ref zb, .int rt, .int w0, .int w1, .int w2, .int lg, .int nr, .int (nI yr), .ref va, .ref vb, .ref vc, .ref vd, .ref qa, .ref qb, .ref qc, .int (nI ln), .ref sa, .ref sb, .ref sc, .ref sd, .ref se, .int (nI pn), .ref ma, .ref mb, .ref mc, .ref rv, .int (nI mn), .int tol, .int (nI rn)], gI g zx 144 gx2, gI g zy 144 gy2, gI g zm 3 fm, gI g vc 48 c3, gI g vd 48 c4] H := hP
                    have hD : va_D A [gO mo 9 [.int th, .ref zt, .int (nI tn), .int (nI sz), .ref zx, .ref zy, .ref zm, .ref zb, .int rt, .int w0, .int w1, .int w2, .int lg, .int nr, .int (nI yr), .ref va, .ref vb, .ref vc, .ref vd, .ref qa, .ref qb, .ref qc, .int (nI ln), .ref sa, .ref sb, .ref sc, .ref sd, .ref se, .int (nI pn), .ref ma, .ref mb, .ref mc, .ref rv, .int (nI mn), .int tol, .int (nI rn)], gI g zx 144 gx2, gI g zy 144 gy2, gI g zm 3 fm, gI g vc 48 c3, gI g vd 48 c4] := hD
                    obtain rfl := hw_248
                    refine lv_aload_n hx hb dX9_space_251 rfl (lv_at hl 0 rfl) ?_
                    refine g_get (C := RX9) (T := TX9) (N := 36) F hK hP i_X9_space_X9 0 rfl rfl 12 (by decide) k_X9_space_f52 (v := .int lg) rfl dX9_space_252 ?_
                    refine lv_icmp_gt (tgt := 285) hx hb dX9_space_255 (by decide) (fun c_255 => ?_) (fun c_255 => ?_)
                    · refine lv_iconst (v := 1) hx hb dX9_space_285 (by decide) ?_
                      refine lv_goto (tgt := 290) hx hb dX9_space_286 (by decide) ?_
                      refine lv_istore (lv' := [(8, .int 1), (0, .ref mo), (1, .int (nI l_)), (2, .int (nI (48 * l_))), (4, .int (nI ((clsS X Y n n).1))), (5, .int (nI tt)), (6, .int (nI mm)), (7, .int (nI k))]) hx hb dX9_space_290 hl (by decide) rfl (fun ls hl => ?_)
                      refine lv_iload hx hb dX9_space_292 (lv_at hl 0 rfl) ?_
                      refine lv_if_eq (tgt := 366) hx hb dX9_space_294 (by decide) (fun h => absurd h (by decide)) (fun _ => ?_)
                      refine lv_iload hx hb dX9_space_297 (lv_at hl 5 rfl) ?_
                      refine lv_bipush (v := 48) hx hb dX9_space_299 (by decide) ?_
                      refine n_icmp_ge (a := tt) (b := 48) (tgt := 366) hx hb dX9_space_301 (by decide) (by omega) (by omega) (fun c_301 => ?_) (fun c_301 => ?_)
                      · refine lv_aload_n hx hb dX9_space_366 rfl (lv_at hl 1 rfl) ?_
                        refine g_get (C := RX9) (T := TX9) (N := 36) F hK hP i_X9_space_X9 0 rfl rfl 4 (by decide) k_X9_space_f27 (v := .ref zx) rfl dX9_space_367 ?_
                        refine lv_iload_n hx hb dX9_space_370 rfl (lv_at hl 3 rfl) ?_
                        refine lv_iload hx hb dX9_space_371 (lv_at hl 6 rfl) ?_
                        refine n_iadd (a := 48 * l_) (b := mm) (d := 48 * l_ + mm) hx hb dX9_space_373 (by omega) ?_
                        refine lv_aload_n hx hb dX9_space_374 rfl (lv_at hl 1 rfl) ?_
                        refine g_get (C := RX9) (T := TX9) (N := 36) F hK hP i_X9_space_X9 0 rfl rfl 17 (by decide) k_X9_space_f64 (v := .ref vc) rfl dX9_space_375 ?_
                        refine lv_iload hx hb dX9_space_378 (lv_at hl 7 rfl) ?_
                        refine g_iald (i := k) (v := ((clsS X Y n n).2.1 k)) hx hb hK hP 4 rfl (by decide) (by omega) (h3 k (by omega)) dX9_space_380 ?_
                        refine g_iast (i := 48 * l_ + mm) (ws2 := [gO mo 9 [.int th, .ref zt, .int (nI tn), .int (nI sz), .ref zx, .ref zy, .ref zm, .ref zb, .int rt, .int w0, .int w1, .int w2, .int lg, .int nr, .int (nI yr), .ref va, .ref vb, .ref vc, .ref vd, .ref qa, .ref qb, .ref qc, .int (nI ln), .ref sa, .ref sb, .ref sc, .ref sd, .ref se, .int (nI pn), .ref ma, .ref mb, .ref mc, .ref rv, .int (nI mn), .int tol, .int (nI rn)], gI g zx 144 (upd gx2 (48 * l_ + mm) ((clsS X Y n n).2.1 k)), gI g zy 144 gy2, gI g zm 3 fm, gI g vc 48 c3, gI g vd 48 c4]) hx hb hK hP hD hS 1 rfl (by decide) (by omega) rfl dX9_space_381 (fun H locs hP hD hS => ?_)
                        refine lv_aload_n hx hb dX9_space_382 rfl (lv_at hl 1 rfl) ?_
                        refine g_get (C := RX9) (T := TX9) (N := 36) F hK hP i_X9_space_X9 0 rfl rfl 5 (by decide) k_X9_space_f31 (v := .ref zy) rfl dX9_space_383 ?_
                        refine lv_iload_n hx hb dX9_space_386 rfl (lv_at hl 3 rfl) ?_
                        refine lv_iload hx hb dX9_space_387 (lv_at hl 6 rfl) ?_
                        refine n_iadd (a := 48 * l_) (b := mm) (d := 48 * l_ + mm) hx hb dX9_space_389 (by omega) ?_
                        refine lv_aload_n hx hb dX9_space_390 rfl (lv_at hl 1 rfl) ?_
                        refine g_get (C := RX9) (T := TX9) (N := 36) F hK hP i_X9_space_X9 0 rfl rfl 18 (by decide) k_X9_space_f67 (v := .ref vd) rfl dX9_space_391 ?_
                        refine lv_iload hx hb dX9_space_394 (lv_at hl 7 rfl) ?_
                        refine g_iald (i := k) (v := ((clsS X Y n n).2.2.1 k)) hx hb hK hP 5 rfl (by decide) (by omega) (h4 k (by omega)) dX9_space_396 ?_
                        refine g_iast (i := 48 * l_ + mm) (ws2 := [gO mo 9 [.int th, .ref zt, .int (nI tn), .int (nI sz), .ref zx, .ref zy, .ref zm, .ref zb, .int rt, .int w0, .int w1, .int w2, .int lg, .int nr, .int (nI yr), .ref va, .ref vb, .ref vc, .ref vd, .ref qa, .ref qb, .ref qc, .int (nI ln), .ref sa, .ref sb, .ref sc, .ref sd, .ref se, .int (nI pn), .ref ma, .ref mb, .ref mc, .ref rv, .int (nI mn), .int tol, .int (nI rn)], gI g zx 144 (upd gx2 (48 * l_ + mm) ((clsS X Y n n).2.1 k)), gI g zy 144 (upd gy2 (48 * l_ + mm) ((clsS X Y n n).2.2.1 k)), gI g zm 3 fm, gI g vc 48 c3, gI g vd 48 c4]) hx hb hK hP hD hS 2 rfl (by decide) (by omega) rfl dX9_space_397 (fun H locs hP hD hS => ?_)
                        refine lv_iinc (v := (nI (mm + 1))) (lv' := [(6, .int (nI (mm + 1))), (8, .int 1), (0, .ref mo), (1, .int (nI l_)), (2, .int (nI (48 * l_))), (4, .int (nI ((clsS X Y n n).1))), (5, .int (nI tt)), (7, .int (nI k))]) hx hb dX9_space_398 hl (k := 6) rfl (g_inc mm 1 (by decide)) (by decide) rfl (fun ls hl => ?_)
                        refine lv_iinc (v := (nI (k + 1))) (lv' := [(7, .int (nI (k + 1))), (6, .int (nI (mm + 1))), (8, .int 1), (0, .ref mo), (1, .int (nI l_)), (2, .int (nI (48 * l_))), (4, .int (nI ((clsS X Y n n).1))), (5, .int (nI tt))]) hx hb dX9_space_401 hl (k := 7) rfl (g_inc k 1 (by decide)) (by decide) rfl (fun ls hl => ?_)
                        refine lv_goto (tgt := 224) hx hb dX9_space_404 (by decide) ?_
                        have he := lng_one (X := (clsS X Y n n).2.1) (Y := (clsS X Y n n).2.2.1) (n := (clsS X Y n n).1) (d := lg) (i := k) (fun hz => absurd hz.2.1 (by omega))
                        exact ih_224 tt (mm + 1) (k + 1) (upd gx2 (48 * l_ + mm) ((clsS X Y n n).2.1 k)) (upd gy2 (48 * l_ + mm) ((clsS X Y n n).2.2.1 k)) ls _ _ (by omega) (by omega) (by omega) (by rw [he, hm_]) (by rw [he]; exact ht) (by rw [he]; subst hm_; exact nwW_s b1 (by omega)) (by rw [he]; subst hm_; exact nwW_s b2 (by omega)) (lv_sub hl [3, 4, 5, 6, 7, 1, 0] rfl) hP hD hS
                      · refine lv_aload_n hx hb dX9_space_304 rfl (lv_at hl 1 rfl) ?_
                        refine g_get (C := RX9) (T := TX9) (N := 36) F hK hP i_X9_space_X9 0 rfl rfl 4 (by decide) k_X9_space_f27 (v := .ref zx) rfl dX9_space_305 ?_
                        refine lv_iload_n hx hb dX9_space_308 rfl (lv_at hl 3 rfl) ?_
                        refine lv_iload hx hb dX9_space_309 (lv_at hl 6 rfl) ?_
                        refine n_iadd (a := 48 * l_) (b := mm) (d := 48 * l_ + mm) hx hb dX9_space_311 (by omega) ?_
                        refine lv_aload_n hx hb dX9_space_312 rfl (lv_at hl 1 rfl) ?_
                        refine g_get (C := RX9) (T := TX9) (N := 36) F hK hP i_X9_space_X9 0 rfl rfl 17 (by decide) k_X9_space_f64 (v := .ref vc) rfl dX9_space_313 ?_
                        refine lv_iload hx hb dX9_space_316 (lv_at hl 7 rfl) ?_
                        refine g_iald (i := k) (v := ((clsS X Y n n).2.1 k)) hx hb hK hP 4 rfl (by decide) (by omega) (h3 k (by omega)) dX9_space_318 ?_
                        refine lv_aload_n hx hb dX9_space_319 rfl (lv_at hl 1 rfl) ?_
                        refine g_get (C := RX9) (T := TX9) (N := 36) F hK hP i_X9_space_X9 0 rfl rfl 17 (by decide) k_X9_space_f64 (v := .ref vc) rfl dX9_space_320 ?_
                        refine lv_iload hx hb dX9_space_323 (lv_at hl 7 rfl) ?_
                        refine lv_iconst (v := 1) hx hb dX9_space_325 (by decide) ?_
                        refine n_isub (a := k) (b := 1) (d := k - 1) hx hb dX9_space_326 (by omega) (by omega) ?_
                        refine g_iald (i := k - 1) (v := ((clsS X Y n n).2.1 (k - 1))) hx hb hK hP 4 rfl (by decide) (by omega) (h3 (k - 1) (by omega)) dX9_space_327 ?_
                        refine lv_iadd hx hb dX9_space_328 ?_
                        refine lv_iconst (v := 2) hx hb dX9_space_329 (by decide) ?_
                        refine lv_idiv hx hb dX9_space_330 (by decide) ?_
                        refine g_iast (i := 48 * l_ + mm) (ws2 := [gO mo 9 [.int th, .ref zt, .int (nI tn), .int (nI sz), .ref zx, .ref zy, .ref zm, .ref zb, .int rt, .int w0, .int w1, .int w2, .int lg, .int nr, .int (nI yr), .ref va, .ref vb, .ref vc, .ref vd, .ref qa, .ref qb, .ref qc, .int (nI ln), .ref sa, .ref sb, .ref sc, .ref sd, .ref se, .int (nI pn), .ref ma, .ref mb, .ref mc, .ref rv, .int (nI mn), .int tol, .int (nI rn)], gI g zx 144 (upd gx2 (48 * l_ + mm) ((((clsS X Y n n).2.1 k) + ((clsS X Y n n).2.1 (k - 1))) / 2)), gI g zy 144 gy2, gI g zm 3 fm, gI g vc 48 c3, gI g vd 48 c4]) hx hb hK hP hD hS 1 rfl (by decide) (by omega) rfl dX9_space_331 (fun H locs hP hD hS => ?_)
                        refine lv_aload_n hx hb dX9_space_332 rfl (lv_at hl 1 rfl) ?_
                        refine g_get (C := RX9) (T := TX9) (N := 36) F hK hP i_X9_space_X9 0 rfl rfl 5 (by decide) k_X9_space_f31 (v := .ref zy) rfl dX9_space_333 ?_
                        refine lv_iload_n hx hb dX9_space_336 rfl (lv_at hl 3 rfl) ?_
                        refine lv_iload hx hb dX9_space_337 (lv_at hl 6 rfl) ?_
                        refine n_iadd (a := 48 * l_) (b := mm) (d := 48 * l_ + mm) hx hb dX9_space_339 (by omega) ?_
                        refine lv_aload_n hx hb dX9_space_340 rfl (lv_at hl 1 rfl) ?_
                        refine g_get (C := RX9) (T := TX9) (N := 36) F hK hP i_X9_space_X9 0 rfl rfl 18 (by decide) k_X9_space_f67 (v := .ref vd) rfl dX9_space_341 ?_
                        refine lv_iload hx hb dX9_space_344 (lv_at hl 7 rfl) ?_
                        refine g_iald (i := k) (v := ((clsS X Y n n).2.2.1 k)) hx hb hK hP 5 rfl (by decide) (by omega) (h4 k (by omega)) dX9_space_346 ?_
                        refine lv_aload_n hx hb dX9_space_347 rfl (lv_at hl 1 rfl) ?_
                        refine g_get (C := RX9) (T := TX9) (N := 36) F hK hP i_X9_space_X9 0 rfl rfl 18 (by decide) k_X9_space_f67 (v := .ref vd) rfl dX9_space_348 ?_
                        refine lv_iload hx hb dX9_space_351 (lv_at hl 7 rfl) ?_
                        refine lv_iconst (v := 1) hx hb dX9_space_353 (by decide) ?_
                        refine n_isub (a := k) (b := 1) (d := k - 1) hx hb dX9_space_354 (by omega) (by omega) ?_
                        refine g_iald (i := k - 1) (v := ((clsS X Y n n).2.2.1 (k - 1))) hx hb hK hP 5 rfl (by decide) (by omega) (h4 (k - 1) (by omega)) dX9_space_355 ?_
                        refine lv_iadd hx hb dX9_space_356 ?_
                        refine lv_iconst (v := 2) hx hb dX9_space_357 (by decide) ?_
                        refine lv_idiv hx hb dX9_space_358 (by decide) ?_
                        refine g_iast (i := 48 * l_ + mm) (ws2 := [gO mo 9 [.int th, .ref zt, .int (nI tn), .int (nI sz), .ref zx, .ref zy, .ref zm, .ref zb, .int rt, .int w0, .int w1, .int w2, .int lg, .int nr, .int (nI yr), .ref va, .ref vb, .ref vc, .ref vd, .ref qa, .ref qb, .ref qc, .int (nI ln), .ref sa, .ref sb, .ref sc, .ref sd, .ref se, .int (nI pn), .ref ma, .ref mb, .ref mc, .ref rv, .int (nI mn), .int tol, .int (nI rn)], gI g zx 144 (upd gx2 (48 * l_ + mm) ((((clsS X Y n n).2.1 k) + ((clsS X Y n n).2.1 (k - 1))) / 2)), gI g zy 144 (upd gy2 (48 * l_ + mm) ((((clsS X Y n n).2.2.1 k) + ((clsS X Y n n).2.2.1 (k - 1))) / 2)), gI g zm 3 fm, gI g vc 48 c3, gI g vd 48 c4]) hx hb hK hP hD hS 2 rfl (by decide) (by omega) rfl dX9_space_359 (fun H locs hP hD hS => ?_)
                        refine lv_iinc (v := (nI (mm + 1))) (lv' := [(6, .int (nI (mm + 1))), (8, .int 1), (0, .ref mo), (1, .int (nI l_)), (2, .int (nI (48 * l_))), (4, .int (nI ((clsS X Y n n).1))), (5, .int (nI tt)), (7, .int (nI k))]) hx hb dX9_space_360 hl (k := 6) rfl (g_inc mm 1 (by decide)) (by decide) rfl (fun ls hl => ?_)
                        refine lv_iinc (v := (nI (tt + 1))) (lv' := [(5, .int (nI (tt + 1))), (6, .int (nI (mm + 1))), (8, .int 1), (0, .ref mo), (1, .int (nI l_)), (2, .int (nI (48 * l_))), (4, .int (nI ((clsS X Y n n).1))), (7, .int (nI k))]) hx hb dX9_space_363 hl (k := 6) rfl (g_inc tt 1 (by decide)) (by decide) rfl (fun ls hl => ?_)
                        refine lv_aload_n hx hb dX9_space_366 rfl (lv_at hl 3 rfl) ?_
                        refine g_get (C := RX9) (T := TX9) (N := 36) F hK hP i_X9_space_X9 0 rfl rfl 4 (by decide) k_X9_space_f27 (v := .ref zx) rfl dX9_space_367 ?_
                        refine lv_iload_n hx hb dX9_space_370 rfl (lv_at hl 5 rfl) ?_
                        refine lv_iload hx hb dX9_space_371 (lv_at hl 1 rfl) ?_
                        refine n_iadd (a := 48 * l_) (b := mm + 1) (d := 48 * l_ + (mm + 1)) hx hb dX9_space_373 (by omega) ?_
                        refine lv_aload_n hx hb dX9_space_374 rfl (lv_at hl 3 rfl) ?_
                        refine g_get (C := RX9) (T := TX9) (N := 36) F hK hP i_X9_space_X9 0 rfl rfl 17 (by decide) k_X9_space_f64 (v := .ref vc) rfl dX9_space_375 ?_
                        refine lv_iload hx hb dX9_space_378 (lv_at hl 7 rfl) ?_
                        refine g_iald (i := k) (v := ((clsS X Y n n).2.1 k)) hx hb hK hP 4 rfl (by decide) (by omega) (h3 k (by omega)) dX9_space_380 ?_
                        refine g_iast (i := 48 * l_ + (mm + 1)) (ws2 := [gO mo 9 [.int th, .ref zt, .int (nI tn), .int (nI sz), .ref zx, .ref zy, .ref zm, .ref zb, .int rt, .int w0, .int w1, .int w2, .int lg, .int nr, .int (nI yr), .ref va, .ref vb, .ref vc, .ref vd, .ref qa, .ref qb, .ref qc, .int (nI ln), .ref sa, .ref sb, .ref sc, .ref sd, .ref se, .int (nI pn), .ref ma, .ref mb, .ref mc, .ref rv, .int (nI mn), .int tol, .int (nI rn)], gI g zx 144 (upd (upd gx2 (48 * l_ + mm) ((((clsS X Y n n).2.1 k) + ((clsS X Y n n).2.1 (k - 1))) / 2)) (48 * l_ + (mm + 1)) ((clsS X Y n n).2.1 k)), gI g zy 144 (upd gy2 (48 * l_ + mm) ((((clsS X Y n n).2.2.1 k) + ((clsS X Y n n).2.2.1 (k - 1))) / 2)), gI g zm 3 fm, gI g vc 48 c3, gI g vd 48 c4]) hx hb hK hP hD hS 1 rfl (by decide) (by omega) rfl dX9_space_381 (fun H locs hP hD hS => ?_)
                        refine lv_aload_n hx hb dX9_space_382 rfl (lv_at hl 3 rfl) ?_
                        refine g_get (C := RX9) (T := TX9) (N := 36) F hK hP i_X9_space_X9 0 rfl rfl 5 (by decide) k_X9_space_f31 (v := .ref zy) rfl dX9_space_383 ?_
                        refine lv_iload_n hx hb dX9_space_386 rfl (lv_at hl 5 rfl) ?_
                        refine lv_iload hx hb dX9_space_387 (lv_at hl 1 rfl) ?_
                        refine n_iadd (a := 48 * l_) (b := mm + 1) (d := 48 * l_ + (mm + 1)) hx hb dX9_space_389 (by omega) ?_
                        refine lv_aload_n hx hb dX9_space_390 rfl (lv_at hl 3 rfl) ?_
                        refine g_get (C := RX9) (T := TX9) (N := 36) F hK hP i_X9_space_X9 0 rfl rfl 18 (by decide) k_X9_space_f67 (v := .ref vd) rfl dX9_space_391 ?_
                        refine lv_iload hx hb dX9_space_394 (lv_at hl 7 rfl) ?_
                        refine g_iald (i := k) (v := ((clsS X Y n n).2.2.1 k)) hx hb hK hP 5 rfl (by decide) (by omega) (h4 k (by omega)) dX9_space_396 ?_
                        refine g_iast (i := 48 * l_ + (mm + 1)) (ws2 := [gO mo 9 [.int th, .ref zt, .int (nI tn), .int (nI sz), .ref zx, .ref zy, .ref zm, .ref zb, .int rt, .int w0, .int w1, .int w2, .int lg, .int nr, .int (nI yr), .ref va, .ref vb, .ref vc, .ref vd, .ref qa, .ref qb, .ref qc, .int (nI ln), .ref sa, .ref sb, .ref sc, .ref sd, .ref se, .int (nI pn), .ref ma, .ref mb, .ref mc, .ref rv, .int (nI mn), .int tol, .int (nI rn)], gI g zx 144 (upd (upd gx2 (48 * l_ + mm) ((((clsS X Y n n).2.1 k) + ((clsS X Y n n).2.1 (k - 1))) / 2)) (48 * l_ + (mm + 1)) ((clsS X Y n n).2.1 k)), gI g zy 144 (upd (upd gy2 (48 * l_ + mm) ((((clsS X Y n n).2.2.1 k) + ((clsS X Y n n).2.2.1 (k - 1))) / 2)) (48 * l_ + (mm + 1)) ((clsS X Y n n).2.2.1 k)), gI g zm 3 fm, gI g vc 48 c3, gI g vd 48 c4]) hx hb hK hP hD hS 2 rfl (by decide) (by omega) rfl dX9_space_397 (fun H locs hP hD hS => ?_)
                        refine lv_iinc (v := (nI (mm + 2))) (lv' := [(6, .int (nI (mm + 2))), (5, .int (nI (tt + 1))), (8, .int 1), (0, .ref mo), (1, .int (nI l_)), (2, .int (nI (48 * l_))), (4, .int (nI ((clsS X Y n n).1))), (7, .int (nI k))]) hx hb dX9_space_398 hl (k := 1) rfl (g_inc (mm + 1) 1 (by decide)) (by decide) rfl (fun ls hl => ?_)
                        refine lv_iinc (v := (nI (k + 1))) (lv' := [(7, .int (nI (k + 1))), (6, .int (nI (mm + 2))), (5, .int (nI (tt + 1))), (8, .int 1), (0, .ref mo), (1, .int (nI l_)), (2, .int (nI (48 * l_))), (4, .int (nI ((clsS X Y n n).1)))]) hx hb dX9_space_401 hl (k := 7) rfl (g_inc k 1 (by decide)) (by decide) rfl (fun ls hl => ?_)
                        refine lv_goto (tgt := 224) hx hb dX9_space_404 (by decide) ?_
                        have he := lng_more (X := (clsS X Y n n).2.1) (Y := (clsS X Y n n).2.2.1) (n := (clsS X Y n n).1) (d := lg) (i := k) ⟨by omega, by omega, fun z => ((nearL hq3 hq4 hq1 hq2 rfl rfl).mp z).1 c_255⟩
                        exact ih_224 (tt + 1) (mm + 2) (k + 1) (upd (upd gx2 (48 * l_ + mm) ((((clsS X Y n n).2.1 k) + ((clsS X Y n n).2.1 (k - 1))) / 2)) (48 * l_ + (mm + 1)) ((clsS X Y n n).2.1 k)) (upd (upd gy2 (48 * l_ + mm) ((((clsS X Y n n).2.2.1 k) + ((clsS X Y n n).2.2.1 (k - 1))) / 2)) (48 * l_ + (mm + 1)) ((clsS X Y n n).2.2.1 k)) ls _ _ (by omega) (by omega) (by omega) (by rw [he, hm_]) (by rw [he, ht]) (by rw [he]; subst hm_; rw [Int32.add_comm ((clsS X Y n n).2.1 (k - 1))]; exact nwW_s (nwW_s b1 (by omega)) (by omega)) (by rw [he]; subst hm_; rw [Int32.add_comm ((clsS X Y n n).2.2.1 (k - 1))]; exact nwW_s (nwW_s b2 (by omega)) (by omega)) (lv_sub hl [4, 5, 6, 7, 2, 1, 0] rfl) hP hD hS
                    · refine lv_aload_n hx hb dX9_space_258 rfl (lv_at hl 0 rfl) ?_
                      refine g_get (C := RX9) (T := TX9) (N := 36) F hK hP i_X9_space_X9 0 rfl rfl 18 (by decide) k_X9_space_f67 (v := .ref vd) rfl dX9_space_259 ?_
                      refine lv_iload hx hb dX9_space_262 (lv_at hl 6 rfl) ?_
                      refine g_iald (i := k) (v := ((clsS X Y n n).2.2.1 k)) hx hb hK hP 5 rfl (by decide) (by omega) (h4 k (by omega)) dX9_space_264 ?_
                      refine lv_aload_n hx hb dX9_space_265 rfl (lv_at hl 0 rfl) ?_
                      refine g_get (C := RX9) (T := TX9) (N := 36) F hK hP i_X9_space_X9 0 rfl rfl 18 (by decide) k_X9_space_f67 (v := .ref vd) rfl dX9_space_266 ?_
                      refine lv_iload hx hb dX9_space_269 (lv_at hl 6 rfl) ?_
                      refine lv_iconst (v := 1) hx hb dX9_space_271 (by decide) ?_
                      refine n_isub (a := k) (b := 1) (d := k - 1) hx hb dX9_space_272 (by omega) (by omega) ?_
                      refine g_iald (i := k - 1) (v := ((clsS X Y n n).2.2.1 (k - 1))) hx hb hK hP 5 rfl (by decide) (by omega) (h4 (k - 1) (by omega)) dX9_space_273 ?_
                      refine lv_isub hx hb dX9_space_274 ?_
                      refine g_SI (wr := [gO mo 9 [.int th, .ref zt, .int (nI tn), .int (nI sz), .ref zx, .ref zy, .ref zm, .ref zb, .int rt, .int w0, .int w1, .int w2, .int lg, .int nr, .int (nI yr), .ref va, .ref vb, .ref vc, .ref vd, .ref qa, .ref qb, .ref qc, .int (nI ln), .ref sa, .ref sb, .ref sc, .ref sd, .ref se, .int (nI pn), .ref ma, .ref mb, .ref mc, .ref rv, .int (nI mn), .int tol, .int (nI rn)], gI g zx 144 gx2, gI g zy 144 gy2, gI g zm 3 fm, gI g vc 48 c3, gI g vd 48 c4]) (As := [.int (((clsS X Y n n).2.2.1 k) - ((clsS X Y n n).2.2.1 (k - 1)))]) (rest := []) (n := 1) F (c_X9_size l g (((clsS X Y n n).2.2.1 k) - ((clsS X Y n n).2.2.1 (k - 1)))) gX9_space_X9_size rfl (by decide) ⟨by decide, by decide⟩ rfl hl.1 rfl (Nat.le_of_ble_eq_true rfl) dX9_space_275 ⟨Nat.le_of_ble_eq_true rfl, Nat.le_of_ble_eq_true rfl⟩ hK hP hD hS hA [] [0, 1, 2, 3, 4, 5] (by decide) rfl rfl (by decide) (by decide) (fun r_275 u_275 H locs hw_275 hP hD hS => ?_)
                      have hP : gP g [gO mo 9 [.int th, .ref zt, .int (nI tn), .int (nI sz), .ref zx, .ref zy, .ref zm, .ref zb, .int rt, .int w0, .int w1, .int w2, .int lg, .int nr, .int (nI yr), .ref va, .ref vb, .ref vc, .ref vd, .ref qa, .ref qb, .ref qc, .int (nI ln), .ref sa, .ref sb, .ref sc, .ref sd, .ref se, .int (nI pn), .ref ma, .ref mb, .ref mc, .ref rv, .int (nI mn), .int tol, .int (nI rn)], gI g zx 144 gx2, gI g zy 144 gy2, gI g zm 3 fm, gI g vc 48 c3, gI g vd 48 c4] H := hP
                      have hD : va_D A [gO mo 9 [.int th, .ref zt, .int (nI tn), .int (nI sz), .ref zx, .ref zy, .ref zm, .ref zb, .int rt, .int w0, .int w1, .int w2, .int lg, .int nr, .int (nI yr), .ref va, .ref vb, .ref vc, .ref vd, .ref qa, .ref qb, .ref qc, .int (nI ln), .ref sa, .ref sb, .ref sc, .ref sd, .ref se, .int (nI pn), .ref ma, .ref mb, .ref mc, .ref rv, .int (nI mn), .int tol, .int (nI rn)], gI g zx 144 gx2, gI g zy 144 gy2, gI g zm 3 fm, gI g vc 48 c3, gI g vd 48 c4] := hD
                      obtain rfl := hw_275
                      refine lv_aload_n hx hb dX9_space_278 rfl (lv_at hl 0 rfl) ?_
                      refine g_get (C := RX9) (T := TX9) (N := 36) F hK hP i_X9_space_X9 0 rfl rfl 12 (by decide) k_X9_space_f52 (v := .int lg) rfl dX9_space_279 ?_
                      refine lv_icmp_le (tgt := 289) hx hb dX9_space_282 (by decide) (fun c_282 => ?_) (fun c_282 => ?_)
                      · refine lv_iconst (v := 0) hx hb dX9_space_289 (by decide) ?_
                        refine lv_istore (lv' := [(8, .int 0), (0, .ref mo), (1, .int (nI l_)), (2, .int (nI (48 * l_))), (4, .int (nI ((clsS X Y n n).1))), (5, .int (nI tt)), (6, .int (nI mm)), (7, .int (nI k))]) hx hb dX9_space_290 hl (by decide) rfl (fun ls hl => ?_)
                        refine lv_iload hx hb dX9_space_292 (lv_at hl 0 rfl) ?_
                        refine lv_if_eq (tgt := 366) hx hb dX9_space_294 (by decide) (fun _ => ?_) (fun h => absurd (by decide) h)
                        refine lv_aload_n hx hb dX9_space_366 rfl (lv_at hl 1 rfl) ?_
                        refine g_get (C := RX9) (T := TX9) (N := 36) F hK hP i_X9_space_X9 0 rfl rfl 4 (by decide) k_X9_space_f27 (v := .ref zx) rfl dX9_space_367 ?_
                        refine lv_iload_n hx hb dX9_space_370 rfl (lv_at hl 3 rfl) ?_
                        refine lv_iload hx hb dX9_space_371 (lv_at hl 6 rfl) ?_
                        refine n_iadd (a := 48 * l_) (b := mm) (d := 48 * l_ + mm) hx hb dX9_space_373 (by omega) ?_
                        refine lv_aload_n hx hb dX9_space_374 rfl (lv_at hl 1 rfl) ?_
                        refine g_get (C := RX9) (T := TX9) (N := 36) F hK hP i_X9_space_X9 0 rfl rfl 17 (by decide) k_X9_space_f64 (v := .ref vc) rfl dX9_space_375 ?_
                        refine lv_iload hx hb dX9_space_378 (lv_at hl 7 rfl) ?_
                        refine g_iald (i := k) (v := ((clsS X Y n n).2.1 k)) hx hb hK hP 4 rfl (by decide) (by omega) (h3 k (by omega)) dX9_space_380 ?_
                        refine g_iast (i := 48 * l_ + mm) (ws2 := [gO mo 9 [.int th, .ref zt, .int (nI tn), .int (nI sz), .ref zx, .ref zy, .ref zm, .ref zb, .int rt, .int w0, .int w1, .int w2, .int lg, .int nr, .int (nI yr), .ref va, .ref vb, .ref vc, .ref vd, .ref qa, .ref qb, .ref qc, .int (nI ln), .ref sa, .ref sb, .ref sc, .ref sd, .ref se, .int (nI pn), .ref ma, .ref mb, .ref mc, .ref rv, .int (nI mn), .int tol, .int (nI rn)], gI g zx 144 (upd gx2 (48 * l_ + mm) ((clsS X Y n n).2.1 k)), gI g zy 144 gy2, gI g zm 3 fm, gI g vc 48 c3, gI g vd 48 c4]) hx hb hK hP hD hS 1 rfl (by decide) (by omega) rfl dX9_space_381 (fun H locs hP hD hS => ?_)
                        refine lv_aload_n hx hb dX9_space_382 rfl (lv_at hl 1 rfl) ?_
                        refine g_get (C := RX9) (T := TX9) (N := 36) F hK hP i_X9_space_X9 0 rfl rfl 5 (by decide) k_X9_space_f31 (v := .ref zy) rfl dX9_space_383 ?_
                        refine lv_iload_n hx hb dX9_space_386 rfl (lv_at hl 3 rfl) ?_
                        refine lv_iload hx hb dX9_space_387 (lv_at hl 6 rfl) ?_
                        refine n_iadd (a := 48 * l_) (b := mm) (d := 48 * l_ + mm) hx hb dX9_space_389 (by omega) ?_
                        refine lv_aload_n hx hb dX9_space_390 rfl (lv_at hl 1 rfl) ?_
                        refine g_get (C := RX9) (T := TX9) (N := 36) F hK hP i_X9_space_X9 0 rfl rfl 18 (by decide) k_X9_space_f67 (v := .ref vd) rfl dX9_space_391 ?_
                        refine lv_iload hx hb dX9_space_394 (lv_at hl 7 rfl) ?_
                        refine g_iald (i := k) (v := ((clsS X Y n n).2.2.1 k)) hx hb hK hP 5 rfl (by decide) (by omega) (h4 k (by omega)) dX9_space_396 ?_
                        refine g_iast (i := 48 * l_ + mm) (ws2 := [gO mo 9 [.int th, .ref zt, .int (nI tn), .int (nI sz), .ref zx, .ref zy, .ref zm, .ref zb, .int rt, .int w0, .int w1, .int w2, .int lg, .int nr, .int (nI yr), .ref va, .ref vb, .ref vc, .ref vd, .ref qa, .ref qb, .ref qc, .int (nI ln), .ref sa, .ref sb, .ref sc, .ref sd, .ref se, .int (nI pn), .ref ma, .ref mb, .ref mc, .ref rv, .int (nI mn), .int tol, .int (nI rn)], gI g zx 144 (upd gx2 (48 * l_ + mm) ((clsS X Y n n).2.1 k)), gI g zy 144 (upd gy2 (48 * l_ + mm) ((clsS X Y n n).2.2.1 k)), gI g zm 3 fm, gI g vc 48 c3, gI g vd 48 c4]) hx hb hK hP hD hS 2 rfl (by decide) (by omega) rfl dX9_space_397 (fun H locs hP hD hS => ?_)
                        refine lv_iinc (v := (nI (mm + 1))) (lv' := [(6, .int (nI (mm + 1))), (8, .int 0), (0, .ref mo), (1, .int (nI l_)), (2, .int (nI (48 * l_))), (4, .int (nI ((clsS X Y n n).1))), (5, .int (nI tt)), (7, .int (nI k))]) hx hb dX9_space_398 hl (k := 6) rfl (g_inc mm 1 (by decide)) (by decide) rfl (fun ls hl => ?_)
                        refine lv_iinc (v := (nI (k + 1))) (lv' := [(7, .int (nI (k + 1))), (6, .int (nI (mm + 1))), (8, .int 0), (0, .ref mo), (1, .int (nI l_)), (2, .int (nI (48 * l_))), (4, .int (nI ((clsS X Y n n).1))), (5, .int (nI tt))]) hx hb dX9_space_401 hl (k := 7) rfl (g_inc k 1 (by decide)) (by decide) rfl (fun ls hl => ?_)
                        refine lv_goto (tgt := 224) hx hb dX9_space_404 (by decide) ?_
                        have he := lng_one (X := (clsS X Y n n).2.1) (Y := (clsS X Y n n).2.2.1) (n := (clsS X Y n n).1) (d := lg) (i := k) (fun hz => hz.2.2 ((nearL hq3 hq4 hq1 hq2 rfl rfl).mpr ⟨c_255, Int32.not_lt.mpr c_282⟩))
                        exact ih_224 tt (mm + 1) (k + 1) (upd gx2 (48 * l_ + mm) ((clsS X Y n n).2.1 k)) (upd gy2 (48 * l_ + mm) ((clsS X Y n n).2.2.1 k)) ls _ _ (by omega) (by omega) (by omega) (by rw [he, hm_]) (by rw [he]; exact ht) (by rw [he]; subst hm_; exact nwW_s b1 (by omega)) (by rw [he]; subst hm_; exact nwW_s b2 (by omega)) (lv_sub hl [3, 4, 5, 6, 7, 1, 0] rfl) hP hD hS
                      · refine lv_iconst (v := 1) hx hb dX9_space_285 (by decide) ?_
                        refine lv_goto (tgt := 290) hx hb dX9_space_286 (by decide) ?_
                        refine lv_istore (lv' := [(8, .int 1), (0, .ref mo), (1, .int (nI l_)), (2, .int (nI (48 * l_))), (4, .int (nI ((clsS X Y n n).1))), (5, .int (nI tt)), (6, .int (nI mm)), (7, .int (nI k))]) hx hb dX9_space_290 hl (by decide) rfl (fun ls hl => ?_)
                        refine lv_iload hx hb dX9_space_292 (lv_at hl 0 rfl) ?_
                        refine lv_if_eq (tgt := 366) hx hb dX9_space_294 (by decide) (fun h => absurd h (by decide)) (fun _ => ?_)
                        refine lv_iload hx hb dX9_space_297 (lv_at hl 5 rfl) ?_
                        refine lv_bipush (v := 48) hx hb dX9_space_299 (by decide) ?_
                        refine n_icmp_ge (a := tt) (b := 48) (tgt := 366) hx hb dX9_space_301 (by decide) (by omega) (by omega) (fun c_301 => ?_) (fun c_301 => ?_)
                        · refine lv_aload_n hx hb dX9_space_366 rfl (lv_at hl 1 rfl) ?_
                          refine g_get (C := RX9) (T := TX9) (N := 36) F hK hP i_X9_space_X9 0 rfl rfl 4 (by decide) k_X9_space_f27 (v := .ref zx) rfl dX9_space_367 ?_
                          refine lv_iload_n hx hb dX9_space_370 rfl (lv_at hl 3 rfl) ?_
                          refine lv_iload hx hb dX9_space_371 (lv_at hl 6 rfl) ?_
                          refine n_iadd (a := 48 * l_) (b := mm) (d := 48 * l_ + mm) hx hb dX9_space_373 (by omega) ?_
                          refine lv_aload_n hx hb dX9_space_374 rfl (lv_at hl 1 rfl) ?_
                          refine g_get (C := RX9) (T := TX9) (N := 36) F hK hP i_X9_space_X9 0 rfl rfl 17 (by decide) k_X9_space_f64 (v := .ref vc) rfl dX9_space_375 ?_
                          refine lv_iload hx hb dX9_space_378 (lv_at hl 7 rfl) ?_
                          refine g_iald (i := k) (v := ((clsS X Y n n).2.1 k)) hx hb hK hP 4 rfl (by decide) (by omega) (h3 k (by omega)) dX9_space_380 ?_
                          refine g_iast (i := 48 * l_ + mm) (ws2 := [gO mo 9 [.int th, .ref zt, .int (nI tn), .int (nI sz), .ref zx, .ref zy, .ref zm, .ref zb, .int rt, .int w0, .int w1, .int w2, .int lg, .int nr, .int (nI yr), .ref va, .ref vb, .ref vc, .ref vd, .ref qa, .ref qb, .ref qc, .int (nI ln), .ref sa, .ref sb, .ref sc, .ref sd, .ref se, .int (nI pn), .ref ma, .ref mb, .ref mc, .ref rv, .int (nI mn), .int tol, .int (nI rn)], gI g zx 144 (upd gx2 (48 * l_ + mm) ((clsS X Y n n).2.1 k)), gI g zy 144 gy2, gI g zm 3 fm, gI g vc 48 c3, gI g vd 48 c4]) hx hb hK hP hD hS 1 rfl (by decide) (by omega) rfl dX9_space_381 (fun H locs hP hD hS => ?_)
                          refine lv_aload_n hx hb dX9_space_382 rfl (lv_at hl 1 rfl) ?_
                          refine g_get (C := RX9) (T := TX9) (N := 36) F hK hP i_X9_space_X9 0 rfl rfl 5 (by decide) k_X9_space_f31 (v := .ref zy) rfl dX9_space_383 ?_
                          refine lv_iload_n hx hb dX9_space_386 rfl (lv_at hl 3 rfl) ?_
                          refine lv_iload hx hb dX9_space_387 (lv_at hl 6 rfl) ?_
                          refine n_iadd (a := 48 * l_) (b := mm) (d := 48 * l_ + mm) hx hb dX9_space_389 (by omega) ?_
                          refine lv_aload_n hx hb dX9_space_390 rfl (lv_at hl 1 rfl) ?_
                          refine g_get (C := RX9) (T := TX9) (N := 36) F hK hP i_X9_space_X9 0 rfl rfl 18 (by decide) k_X9_space_f67 (v := .ref vd) rfl dX9_space_391 ?_
                          refine lv_iload hx hb dX9_space_394 (lv_at hl 7 rfl) ?_
                          refine g_iald (i := k) (v := ((clsS X Y n n).2.2.1 k)) hx hb hK hP 5 rfl (by decide) (by omega) (h4 k (by omega)) dX9_space_396 ?_
                          refine g_iast (i := 48 * l_ + mm) (ws2 := [gO mo 9 [.int th, .ref zt, .int (nI tn), .int (nI sz), .ref zx, .ref zy, .ref zm, .ref zb, .int rt, .int w0, .int w1, .int w2, .int lg, .int nr, .int (nI yr), .ref va, .ref vb, .ref vc, .ref vd, .ref qa, .ref qb, .ref qc, .int (nI ln), .ref sa, .ref sb, .ref sc, .ref sd, .ref se, .int (nI pn), .ref ma, .ref mb, .ref mc, .ref rv, .int (nI mn), .int tol, .int (nI rn)], gI g zx 144 (upd gx2 (48 * l_ + mm) ((clsS X Y n n).2.1 k)), gI g zy 144 (upd gy2 (48 * l_ + mm) ((clsS X Y n n).2.2.1 k)), gI g zm 3 fm, gI g vc 48 c3, gI g vd 48 c4]) hx hb hK hP hD hS 2 rfl (by decide) (by omega) rfl dX9_space_397 (fun H locs hP hD hS => ?_)
                          refine lv_iinc (v := (nI (mm + 1))) (lv' := [(6, .int (nI (mm + 1))), (8, .int 1), (0, .ref mo), (1, .int (nI l_)), (2, .int (nI (48 * l_))), (4, .int (nI ((clsS X Y n n).1))), (5, .int (nI tt)), (7, .int (nI k))]) hx hb dX9_space_398 hl (k := 6) rfl (g_inc mm 1 (by decide)) (by decide) rfl (fun ls hl => ?_)
                          refine lv_iinc (v := (nI (k + 1))) (lv' := [(7, .int (nI (k + 1))), (6, .int (nI (mm + 1))), (8, .int 1), (0, .ref mo), (1, .int (nI l_)), (2, .int (nI (48 * l_))), (4, .int (nI ((clsS X Y n n).1))), (5, .int (nI tt))]) hx hb dX9_space_401 hl (k := 7) rfl (g_inc k 1 (by decide)) (by decide) rfl (fun ls hl => ?_)
                          refine lv_goto (tgt := 224) hx hb dX9_space_404 (by decide) ?_
                          have he := lng_one (X := (clsS X Y n n).2.1) (Y := (clsS X Y n n).2.2.1) (n := (clsS X Y n n).1) (d := lg) (i := k) (fun hz => absurd hz.2.1 (by omega))
                          exact ih_224 tt (mm + 1) (k + 1) (upd gx2 (48 * l_ + mm) ((clsS X Y n n).2.1 k)) (upd gy2 (48 * l_ + mm) ((clsS X Y n n).2.2.1 k)) ls _ _ (by omega) (by omega) (by omega) (by rw [he, hm_]) (by rw [he]; exact ht) (by rw [he]; subst hm_; exact nwW_s b1 (by omega)) (by rw [he]; subst hm_; exact nwW_s b2 (by omega)) (lv_sub hl [3, 4, 5, 6, 7, 1, 0] rfl) hP hD hS
                        · refine lv_aload_n hx hb dX9_space_304 rfl (lv_at hl 1 rfl) ?_
                          refine g_get (C := RX9) (T := TX9) (N := 36) F hK hP i_X9_space_X9 0 rfl rfl 4 (by decide) k_X9_space_f27 (v := .ref zx) rfl dX9_space_305 ?_
                          refine lv_iload_n hx hb dX9_space_308 rfl (lv_at hl 3 rfl) ?_
                          refine lv_iload hx hb dX9_space_309 (lv_at hl 6 rfl) ?_
                          refine n_iadd (a := 48 * l_) (b := mm) (d := 48 * l_ + mm) hx hb dX9_space_311 (by omega) ?_
                          refine lv_aload_n hx hb dX9_space_312 rfl (lv_at hl 1 rfl) ?_
                          refine g_get (C := RX9) (T := TX9) (N := 36) F hK hP i_X9_space_X9 0 rfl rfl 17 (by decide) k_X9_space_f64 (v := .ref vc) rfl dX9_space_313 ?_
                          refine lv_iload hx hb dX9_space_316 (lv_at hl 7 rfl) ?_
                          refine g_iald (i := k) (v := ((clsS X Y n n).2.1 k)) hx hb hK hP 4 rfl (by decide) (by omega) (h3 k (by omega)) dX9_space_318 ?_
                          refine lv_aload_n hx hb dX9_space_319 rfl (lv_at hl 1 rfl) ?_
                          refine g_get (C := RX9) (T := TX9) (N := 36) F hK hP i_X9_space_X9 0 rfl rfl 17 (by decide) k_X9_space_f64 (v := .ref vc) rfl dX9_space_320 ?_
                          refine lv_iload hx hb dX9_space_323 (lv_at hl 7 rfl) ?_
                          refine lv_iconst (v := 1) hx hb dX9_space_325 (by decide) ?_
                          refine n_isub (a := k) (b := 1) (d := k - 1) hx hb dX9_space_326 (by omega) (by omega) ?_
                          refine g_iald (i := k - 1) (v := ((clsS X Y n n).2.1 (k - 1))) hx hb hK hP 4 rfl (by decide) (by omega) (h3 (k - 1) (by omega)) dX9_space_327 ?_
                          refine lv_iadd hx hb dX9_space_328 ?_
                          refine lv_iconst (v := 2) hx hb dX9_space_329 (by decide) ?_
                          refine lv_idiv hx hb dX9_space_330 (by decide) ?_
                          refine g_iast (i := 48 * l_ + mm) (ws2 := [gO mo 9 [.int th, .ref zt, .int (nI tn), .int (nI sz), .ref zx, .ref zy, .ref zm, .ref zb, .int rt, .int w0, .int w1, .int w2, .int lg, .int nr, .int (nI yr), .ref va, .ref vb, .ref vc, .ref vd, .ref qa, .ref qb, .ref qc, .int (nI ln), .ref sa, .ref sb, .ref sc, .ref sd, .ref se, .int (nI pn), .ref ma, .ref mb, .ref mc, .ref rv, .int (nI mn), .int tol, .int (nI rn)], gI g zx 144 (upd gx2 (48 * l_ + mm) ((((clsS X Y n n).2.1 k) + ((clsS X Y n n).2.1 (k - 1))) / 2)), gI g zy 144 gy2, gI g zm 3 fm, gI g vc 48 c3, gI g vd 48 c4]) hx hb hK hP hD hS 1 rfl (by decide) (by omega) rfl dX9_space_331 (fun H locs hP hD hS => ?_)
                          refine lv_aload_n hx hb dX9_space_332 rfl (lv_at hl 1 rfl) ?_
                          refine g_get (C := RX9) (T := TX9) (N := 36) F hK hP i_X9_space_X9 0 rfl rfl 5 (by decide) k_X9_space_f31 (v := .ref zy) rfl dX9_space_333 ?_
                          refine lv_iload_n hx hb dX9_space_336 rfl (lv_at hl 3 rfl) ?_
                          refine lv_iload hx hb dX9_space_337 (lv_at hl 6 rfl) ?_
                          refine n_iadd (a := 48 * l_) (b := mm) (d := 48 * l_ + mm) hx hb dX9_space_339 (by omega) ?_
                          refine lv_aload_n hx hb dX9_space_340 rfl (lv_at hl 1 rfl) ?_
                          refine g_get (C := RX9) (T := TX9) (N := 36) F hK hP i_X9_space_X9 0 rfl rfl 18 (by decide) k_X9_space_f67 (v := .ref vd) rfl dX9_space_341 ?_
                          refine lv_iload hx hb dX9_space_344 (lv_at hl 7 rfl) ?_
                          refine g_iald (i := k) (v := ((clsS X Y n n).2.2.1 k)) hx hb hK hP 5 rfl (by decide) (by omega) (h4 k (by omega)) dX9_space_346 ?_
                          refine lv_aload_n hx hb dX9_space_347 rfl (lv_at hl 1 rfl) ?_
                          refine g_get (C := RX9) (T := TX9) (N := 36) F hK hP i_X9_space_X9 0 rfl rfl 18 (by decide) k_X9_space_f67 (v := .ref vd) rfl dX9_space_348 ?_
                          refine lv_iload hx hb dX9_space_351 (lv_at hl 7 rfl) ?_
                          refine lv_iconst (v := 1) hx hb dX9_space_353 (by decide) ?_
                          refine n_isub (a := k) (b := 1) (d := k - 1) hx hb dX9_space_354 (by omega) (by omega) ?_
                          refine g_iald (i := k - 1) (v := ((clsS X Y n n).2.2.1 (k - 1))) hx hb hK hP 5 rfl (by decide) (by omega) (h4 (k - 1) (by omega)) dX9_space_355 ?_
                          refine lv_iadd hx hb dX9_space_356 ?_
                          refine lv_iconst (v := 2) hx hb dX9_space_357 (by decide) ?_
                          refine lv_idiv hx hb dX9_space_358 (by decide) ?_
                          refine g_iast (i := 48 * l_ + mm) (ws2 := [gO mo 9 [.int th, .ref zt, .int (nI tn), .int (nI sz), .ref zx, .ref zy, .ref zm, .ref zb, .int rt, .int w0, .int w1, .int w2, .int lg, .int nr, .int (nI yr), .ref va, .ref vb, .ref vc, .ref vd, .ref qa, .ref qb, .ref qc, .int (nI ln), .ref sa, .ref sb, .ref sc, .ref sd, .ref se, .int (nI pn), .ref ma, .ref mb, .ref mc, .ref rv, .int (nI mn), .int tol, .int (nI rn)], gI g zx 144 (upd gx2 (48 * l_ + mm) ((((clsS X Y n n).2.1 k) + ((clsS X Y n n).2.1 (k - 1))) / 2)), gI g zy 144 (upd gy2 (48 * l_ + mm) ((((clsS X Y n n).2.2.1 k) + ((clsS X Y n n).2.2.1 (k - 1))) / 2)), gI g zm 3 fm, gI g vc 48 c3, gI g vd 48 c4]) hx hb hK hP hD hS 2 rfl (by decide) (by omega) rfl dX9_space_359 (fun H locs hP hD hS => ?_)
                          refine lv_iinc (v := (nI (mm + 1))) (lv' := [(6, .int (nI (mm + 1))), (8, .int 1), (0, .ref mo), (1, .int (nI l_)), (2, .int (nI (48 * l_))), (4, .int (nI ((clsS X Y n n).1))), (5, .int (nI tt)), (7, .int (nI k))]) hx hb dX9_space_360 hl (k := 6) rfl (g_inc mm 1 (by decide)) (by decide) rfl (fun ls hl => ?_)
                          refine lv_iinc (v := (nI (tt + 1))) (lv' := [(5, .int (nI (tt + 1))), (6, .int (nI (mm + 1))), (8, .int 1), (0, .ref mo), (1, .int (nI l_)), (2, .int (nI (48 * l_))), (4, .int (nI ((clsS X Y n n).1))), (7, .int (nI k))]) hx hb dX9_space_363 hl (k := 6) rfl (g_inc tt 1 (by decide)) (by decide) rfl (fun ls hl => ?_)
                          refine lv_aload_n hx hb dX9_space_366 rfl (lv_at hl 3 rfl) ?_
                          refine g_get (C := RX9) (T := TX9) (N := 36) F hK hP i_X9_space_X9 0 rfl rfl 4 (by decide) k_X9_space_f27 (v := .ref zx) rfl dX9_space_367 ?_
                          refine lv_iload_n hx hb dX9_space_370 rfl (lv_at hl 5 rfl) ?_
                          refine lv_iload hx hb dX9_space_371 (lv_at hl 1 rfl) ?_
                          refine n_iadd (a := 48 * l_) (b := mm + 1) (d := 48 * l_ + (mm + 1)) hx hb dX9_space_373 (by omega) ?_
                          refine lv_aload_n hx hb dX9_space_374 rfl (lv_at hl 3 rfl) ?_
                          refine g_get (C := RX9) (T := TX9) (N := 36) F hK hP i_X9_space_X9 0 rfl rfl 17 (by decide) k_X9_space_f64 (v := .ref vc) rfl dX9_space_375 ?_
                          refine lv_iload hx hb dX9_space_378 (lv_at hl 7 rfl) ?_
                          refine g_iald (i := k) (v := ((clsS X Y n n).2.1 k)) hx hb hK hP 4 rfl (by decide) (by omega) (h3 k (by omega)) dX9_space_380 ?_
                          refine g_iast (i := 48 * l_ + (mm + 1)) (ws2 := [gO mo 9 [.int th, .ref zt, .int (nI tn), .int (nI sz), .ref zx, .ref zy, .ref zm, .ref zb, .int rt, .int w0, .int w1, .int w2, .int lg, .int nr, .int (nI yr), .ref va, .ref vb, .ref vc, .ref vd, .ref qa, .ref qb, .ref qc, .int (nI ln), .ref sa, .ref sb, .ref sc, .ref sd, .ref se, .int (nI pn), .ref ma, .ref mb, .ref mc, .ref rv, .int (nI mn), .int tol, .int (nI rn)], gI g zx 144 (upd (upd gx2 (48 * l_ + mm) ((((clsS X Y n n).2.1 k) + ((clsS X Y n n).2.1 (k - 1))) / 2)) (48 * l_ + (mm + 1)) ((clsS X Y n n).2.1 k)), gI g zy 144 (upd gy2 (48 * l_ + mm) ((((clsS X Y n n).2.2.1 k) + ((clsS X Y n n).2.2.1 (k - 1))) / 2)), gI g zm 3 fm, gI g vc 48 c3, gI g vd 48 c4]) hx hb hK hP hD hS 1 rfl (by decide) (by omega) rfl dX9_space_381 (fun H locs hP hD hS => ?_)
                          refine lv_aload_n hx hb dX9_space_382 rfl (lv_at hl 3 rfl) ?_
                          refine g_get (C := RX9) (T := TX9) (N := 36) F hK hP i_X9_space_X9 0 rfl rfl 5 (by decide) k_X9_space_f31 (v := .ref zy) rfl dX9_space_383 ?_
                          refine lv_iload_n hx hb dX9_space_386 rfl (lv_at hl 5 rfl) ?_
                          refine lv_iload hx hb dX9_space_387 (lv_at hl 1 rfl) ?_
                          refine n_iadd (a := 48 * l_) (b := mm + 1) (d := 48 * l_ + (mm + 1)) hx hb dX9_space_389 (by omega) ?_
                          refine lv_aload_n hx hb dX9_space_390 rfl (lv_at hl 3 rfl) ?_
                          refine g_get (C := RX9) (T := TX9) (N := 36) F hK hP i_X9_space_X9 0 rfl rfl 18 (by decide) k_X9_space_f67 (v := .ref vd) rfl dX9_space_391 ?_
                          refine lv_iload hx hb dX9_space_394 (lv_at hl 7 rfl) ?_
                          refine g_iald (i := k) (v := ((clsS X Y n n).2.2.1 k)) hx hb hK hP 5 rfl (by decide) (by omega) (h4 k (by omega)) dX9_space_396 ?_
                          refine g_iast (i := 48 * l_ + (mm + 1)) (ws2 := [gO mo 9 [.int th, .ref zt, .int (nI tn), .int (nI sz), .ref zx, .ref zy, .ref zm, .ref zb, .int rt, .int w0, .int w1, .int w2, .int lg, .int nr, .int (nI yr), .ref va, .ref vb, .ref vc, .ref vd, .ref qa, .ref qb, .ref qc, .int (nI ln), .ref sa, .ref sb, .ref sc, .ref sd, .ref se, .int (nI pn), .ref ma, .ref mb, .ref mc, .ref rv, .int (nI mn), .int tol, .int (nI rn)], gI g zx 144 (upd (upd gx2 (48 * l_ + mm) ((((clsS X Y n n).2.1 k) + ((clsS X Y n n).2.1 (k - 1))) / 2)) (48 * l_ + (mm + 1)) ((clsS X Y n n).2.1 k)), gI g zy 144 (upd (upd gy2 (48 * l_ + mm) ((((clsS X Y n n).2.2.1 k) + ((clsS X Y n n).2.2.1 (k - 1))) / 2)) (48 * l_ + (mm + 1)) ((clsS X Y n n).2.2.1 k)), gI g zm 3 fm, gI g vc 48 c3, gI g vd 48 c4]) hx hb hK hP hD hS 2 rfl (by decide) (by omega) rfl dX9_space_397 (fun H locs hP hD hS => ?_)
                          refine lv_iinc (v := (nI (mm + 2))) (lv' := [(6, .int (nI (mm + 2))), (5, .int (nI (tt + 1))), (8, .int 1), (0, .ref mo), (1, .int (nI l_)), (2, .int (nI (48 * l_))), (4, .int (nI ((clsS X Y n n).1))), (7, .int (nI k))]) hx hb dX9_space_398 hl (k := 1) rfl (g_inc (mm + 1) 1 (by decide)) (by decide) rfl (fun ls hl => ?_)
                          refine lv_iinc (v := (nI (k + 1))) (lv' := [(7, .int (nI (k + 1))), (6, .int (nI (mm + 2))), (5, .int (nI (tt + 1))), (8, .int 1), (0, .ref mo), (1, .int (nI l_)), (2, .int (nI (48 * l_))), (4, .int (nI ((clsS X Y n n).1)))]) hx hb dX9_space_401 hl (k := 7) rfl (g_inc k 1 (by decide)) (by decide) rfl (fun ls hl => ?_)
                          refine lv_goto (tgt := 224) hx hb dX9_space_404 (by decide) ?_
                          have he := lng_more (X := (clsS X Y n n).2.1) (Y := (clsS X Y n n).2.2.1) (n := (clsS X Y n n).1) (d := lg) (i := k) ⟨by omega, by omega, fun z => ((nearL hq3 hq4 hq1 hq2 rfl rfl).mp z).2 (Int32.not_le.mp c_282)⟩
                          exact ih_224 (tt + 1) (mm + 2) (k + 1) (upd (upd gx2 (48 * l_ + mm) ((((clsS X Y n n).2.1 k) + ((clsS X Y n n).2.1 (k - 1))) / 2)) (48 * l_ + (mm + 1)) ((clsS X Y n n).2.1 k)) (upd (upd gy2 (48 * l_ + mm) ((((clsS X Y n n).2.2.1 k) + ((clsS X Y n n).2.2.1 (k - 1))) / 2)) (48 * l_ + (mm + 1)) ((clsS X Y n n).2.2.1 k)) ls _ _ (by omega) (by omega) (by omega) (by rw [he, hm_]) (by rw [he, ht]) (by rw [he]; subst hm_; rw [Int32.add_comm ((clsS X Y n n).2.1 (k - 1))]; exact nwW_s (nwW_s b1 (by omega)) (by omega)) (by rw [he]; subst hm_; rw [Int32.add_comm ((clsS X Y n n).2.2.1 (k - 1))]; exact nwW_s (nwW_s b2 (by omega)) (by omega)) (lv_sub hl [4, 5, 6, 7, 2, 1, 0] rfl) hP hD hS
              exact L224 (((clsS X Y n n).1 - 1) + 1) ((clsS X Y n n).1) 1 1 gx gy ls _ _ (Nat.lt_succ_self _) (by omega) (by omega) (by rw [lng_1]) (by rw [lng_1]) (⟨fun j hj => by rw [lng_1]; dsimp only; rw [show j = 0 by omega, pk_us]; exact a1.1 0 (by omega), a1.2.2⟩) (⟨fun j hj => by rw [lng_1]; dsimp only; rw [show j = 0 by omega, pk_us]; exact a2.1 0 (by omega), a2.2.2⟩) (lv_sub hl [3, 4, 5, 7, 2, 1, 0] rfl) hP hD hS
            · refine lv_aload_n hx hb dX9_space_176 rfl (lv_at hl 0 rfl) ?_
              refine g_get (C := RX9) (T := TX9) (N := 36) F hK hP i_X9_space_X9 0 rfl rfl 17 (by decide) k_X9_space_f64 (v := .ref vc) rfl dX9_space_177 ?_
              refine lv_iload hx hb dX9_space_180 (lv_at hl 5 rfl) ?_
              refine lv_aload_n hx hb dX9_space_182 rfl (lv_at hl 0 rfl) ?_
              refine g_get (C := RX9) (T := TX9) (N := 36) F hK hP i_X9_space_X9 0 rfl rfl 4 (by decide) k_X9_space_f27 (v := .ref zx) rfl dX9_space_183 ?_
              refine lv_iload_n hx hb dX9_space_186 rfl (lv_at hl 2 rfl) ?_
              refine lv_iload hx hb dX9_space_187 (lv_at hl 5 rfl) ?_
              refine n_iadd (a := 48 * l_) (b := k) (d := 48 * l_ + k) hx hb dX9_space_189 (by omega) ?_
              refine g_iald (i := 48 * l_ + k) (v := ((clsS X Y n n).2.1 k)) hx hb hK hP 1 rfl (by decide) (by omega) (a1.1 k (by omega)) dX9_space_190 ?_
              refine g_iast (i := k) (ws2 := [gO mo 9 [.int th, .ref zt, .int (nI tn), .int (nI sz), .ref zx, .ref zy, .ref zm, .ref zb, .int rt, .int w0, .int w1, .int w2, .int lg, .int nr, .int (nI yr), .ref va, .ref vb, .ref vc, .ref vd, .ref qa, .ref qb, .ref qc, .int (nI ln), .ref sa, .ref sb, .ref sc, .ref sd, .ref se, .int (nI pn), .ref ma, .ref mb, .ref mc, .ref rv, .int (nI mn), .int tol, .int (nI rn)], gI g zx 144 gx, gI g zy 144 gy, gI g zm 3 fm, gI g vc 48 (upd c3 k ((clsS X Y n n).2.1 k)), gI g vd 48 c4]) hx hb hK hP hD hS 4 rfl (by decide) (by omega) rfl dX9_space_191 (fun H locs hP hD hS => ?_)
              refine lv_aload_n hx hb dX9_space_192 rfl (lv_at hl 0 rfl) ?_
              refine g_get (C := RX9) (T := TX9) (N := 36) F hK hP i_X9_space_X9 0 rfl rfl 18 (by decide) k_X9_space_f67 (v := .ref vd) rfl dX9_space_193 ?_
              refine lv_iload hx hb dX9_space_196 (lv_at hl 5 rfl) ?_
              refine lv_aload_n hx hb dX9_space_198 rfl (lv_at hl 0 rfl) ?_
              refine g_get (C := RX9) (T := TX9) (N := 36) F hK hP i_X9_space_X9 0 rfl rfl 5 (by decide) k_X9_space_f31 (v := .ref zy) rfl dX9_space_199 ?_
              refine lv_iload_n hx hb dX9_space_202 rfl (lv_at hl 2 rfl) ?_
              refine lv_iload hx hb dX9_space_203 (lv_at hl 5 rfl) ?_
              refine n_iadd (a := 48 * l_) (b := k) (d := 48 * l_ + k) hx hb dX9_space_205 (by omega) ?_
              refine g_iald (i := 48 * l_ + k) (v := ((clsS X Y n n).2.2.1 k)) hx hb hK hP 2 rfl (by decide) (by omega) (a2.1 k (by omega)) dX9_space_206 ?_
              refine g_iast (i := k) (ws2 := [gO mo 9 [.int th, .ref zt, .int (nI tn), .int (nI sz), .ref zx, .ref zy, .ref zm, .ref zb, .int rt, .int w0, .int w1, .int w2, .int lg, .int nr, .int (nI yr), .ref va, .ref vb, .ref vc, .ref vd, .ref qa, .ref qb, .ref qc, .int (nI ln), .ref sa, .ref sb, .ref sc, .ref sd, .ref se, .int (nI pn), .ref ma, .ref mb, .ref mc, .ref rv, .int (nI mn), .int tol, .int (nI rn)], gI g zx 144 gx, gI g zy 144 gy, gI g zm 3 fm, gI g vc 48 (upd c3 k ((clsS X Y n n).2.1 k)), gI g vd 48 (upd c4 k ((clsS X Y n n).2.2.1 k))]) hx hb hK hP hD hS 5 rfl (by decide) (by omega) rfl dX9_space_207 (fun H locs hP hD hS => ?_)
              refine lv_iinc (v := (nI (k + 1))) (lv' := [(5, .int (nI (k + 1))), (0, .ref mo), (1, .int (nI l_)), (2, .int (nI (48 * l_))), (3, .int (nI t)), (4, .int (nI ((clsS X Y n n).1)))]) hx hb dX9_space_208 hl (k := 5) rfl (g_inc k 1 (by decide)) (by decide) rfl (fun ls hl => ?_)
              refine lv_goto (tgt := 169) hx hb dX9_space_211 (by decide) ?_
              exact ih_169 (k + 1) (upd c3 k ((clsS X Y n n).2.1 k)) (upd c4 k ((clsS X Y n n).2.2.1 k)) ls _ _ (by omega) (by omega) (upd_c h3 rfl) (upd_c h4 rfl) (lv_sub hl [1, 2, 3, 4, 5, 0] rfl) hP hD hS
        exact L169 (((clsS X Y n n).1 - 0) + 1) 0 e3 e4 ls _ _ (Nat.lt_succ_self _) (by omega) (fun j hj => absurd hj (Nat.not_lt_zero j)) (fun j hj => absurd hj (Nat.not_lt_zero j)) (lv_sub hl [1, 2, 3, 4, 5, 0] rfl) hP hD hS
      · have hp1 := (hin k (by omega)).1
        have hp2 := (hin k (by omega)).2
        have hrg := cls_rng hin k (by omega)
        have hs1 := hrg.1 (mm - 1) (by omega)
        have hs2 := hrg.2 (mm - 1) (by omega)
        have hg1 : (clsS X Y n k).2.1 ((clsS X Y n k).1 - 1) = (clsS X Y n k).2.1 (mm - 1) := by rw [hm_]
        have hg2 : (clsS X Y n k).2.2.1 ((clsS X Y n k).1 - 1) = (clsS X Y n k).2.2.1 (mm - 1) := by rw [hm_]
        refine lv_aload_n hx hb dX9_space_29 rfl (lv_at hl 0 rfl) ?_
        refine g_get (C := RX9) (T := TX9) (N := 36) F hK hP i_X9_space_X9 0 rfl rfl 4 (by decide) k_X9_space_f27 (v := .ref zx) rfl dX9_space_30 ?_
        refine lv_iload_n hx hb dX9_space_33 rfl (lv_at hl 2 rfl) ?_
        refine lv_iload hx hb dX9_space_34 (lv_at hl 5 rfl) ?_
        refine n_iadd (a := 48 * l_) (b := k) (d := 48 * l_ + k) hx hb dX9_space_36 (by omega) ?_
        refine g_iald (i := 48 * l_ + k) (v := (X k)) hx hb hK hP 1 rfl (by decide) (by omega) (a1.2.1 k (Nat.le_refl _) (by omega)) dX9_space_37 ?_
        refine lv_aload_n hx hb dX9_space_38 rfl (lv_at hl 0 rfl) ?_
        refine g_get (C := RX9) (T := TX9) (N := 36) F hK hP i_X9_space_X9 0 rfl rfl 4 (by decide) k_X9_space_f27 (v := .ref zx) rfl dX9_space_39 ?_
        refine lv_iload_n hx hb dX9_space_42 rfl (lv_at hl 2 rfl) ?_
        refine lv_iload hx hb dX9_space_43 (lv_at hl 4 rfl) ?_
        refine n_iadd (a := 48 * l_) (b := mm) (d := 48 * l_ + mm) hx hb dX9_space_45 (by omega) ?_
        refine lv_iconst (v := 1) hx hb dX9_space_46 (by decide) ?_
        refine n_isub (a := 48 * l_ + mm) (b := 1) (d := (48 * l_ + mm) - 1) hx hb dX9_space_47 (by omega) (by omega) ?_
        refine g_iald (i := (48 * l_ + mm) - 1) (v := ((clsS X Y n k).2.1 ((mm) - 1))) hx hb hK hP 1 rfl (by decide) (by omega) ((congrArg gx (show (48 * l_ + mm) - 1 = 48 * l_ + ((mm) - 1) by omega)).trans (a1.1 ((mm) - 1) (by omega))) dX9_space_48 ?_
        refine lv_isub hx hb dX9_space_49 ?_
        refine g_SI (wr := [gO mo 9 [.int th, .ref zt, .int (nI tn), .int (nI sz), .ref zx, .ref zy, .ref zm, .ref zb, .int rt, .int w0, .int w1, .int w2, .int lg, .int nr, .int (nI yr), .ref va, .ref vb, .ref vc, .ref vd, .ref qa, .ref qb, .ref qc, .int (nI ln), .ref sa, .ref sb, .ref sc, .ref sd, .ref se, .int (nI pn), .ref ma, .ref mb, .ref mc, .ref rv, .int (nI mn), .int tol, .int (nI rn)], gI g zx 144 gx, gI g zy 144 gy, gI g zm 3 fm, gI g vc 48 e3, gI g vd 48 e4]) (As := [.int ((X k) - ((clsS X Y n k).2.1 ((mm) - 1)))]) (rest := []) (n := 1) F (c_X9_size l g ((X k) - ((clsS X Y n k).2.1 ((mm) - 1)))) gX9_space_X9_size rfl (by decide) ⟨by decide, by decide⟩ rfl hl.1 rfl (Nat.le_of_ble_eq_true rfl) dX9_space_50 ⟨Nat.le_of_ble_eq_true rfl, Nat.le_of_ble_eq_true rfl⟩ hK hP hD hS hA [] [0, 1, 2, 3, 4, 5] (by decide) rfl rfl (by decide) (by decide) (fun r_50 u_50 H locs hw_50 hP hD hS => ?_)
        have hP : gP g [gO mo 9 [.int th, .ref zt, .int (nI tn), .int (nI sz), .ref zx, .ref zy, .ref zm, .ref zb, .int rt, .int w0, .int w1, .int w2, .int lg, .int nr, .int (nI yr), .ref va, .ref vb, .ref vc, .ref vd, .ref qa, .ref qb, .ref qc, .int (nI ln), .ref sa, .ref sb, .ref sc, .ref sd, .ref se, .int (nI pn), .ref ma, .ref mb, .ref mc, .ref rv, .int (nI mn), .int tol, .int (nI rn)], gI g zx 144 gx, gI g zy 144 gy, gI g zm 3 fm, gI g vc 48 e3, gI g vd 48 e4] H := hP
        have hD : va_D A [gO mo 9 [.int th, .ref zt, .int (nI tn), .int (nI sz), .ref zx, .ref zy, .ref zm, .ref zb, .int rt, .int w0, .int w1, .int w2, .int lg, .int nr, .int (nI yr), .ref va, .ref vb, .ref vc, .ref vd, .ref qa, .ref qb, .ref qc, .int (nI ln), .ref sa, .ref sb, .ref sc, .ref sd, .ref se, .int (nI pn), .ref ma, .ref mb, .ref mc, .ref rv, .int (nI mn), .int tol, .int (nI rn)], gI g zx 144 gx, gI g zy 144 gy, gI g zm 3 fm, gI g vc 48 e3, gI g vd 48 e4] := hD
        obtain rfl := hw_50
        refine lv_iconst (v := 4) hx hb dX9_space_53 (by decide) ?_
        refine lv_icmp_ge (tgt := 89) hx hb dX9_space_54 (by decide) (fun c_54 => ?_) (fun c_54 => ?_)
        · refine lv_iconst (v := 0) hx hb dX9_space_89 (by decide) ?_
          refine lv_istore (lv' := [(6, .int 0), (0, .ref mo), (1, .int (nI l_)), (2, .int (nI (48 * l_))), (3, .int (nI t)), (4, .int (nI mm)), (5, .int (nI k))]) hx hb dX9_space_90 hl (by decide) rfl (fun ls hl => ?_)
          refine lv_iload hx hb dX9_space_92 (lv_at hl 6 rfl) ?_
          refine lv_aload_n hx hb dX9_space_94 rfl (lv_at hl 1 rfl) ?_
          refine g_get (C := RX9) (T := TX9) (N := 36) F hK hP i_X9_space_X9 0 rfl rfl 6 (by decide) k_X9_space_f34 (v := .ref zm) rfl dX9_space_95 ?_
          refine lv_iload_n hx hb dX9_space_98 rfl (lv_at hl 2 rfl) ?_
          refine g_iald (i := l_) (v := (nI n)) hx hb hK hP 3 rfl (by decide) (by omega) (hm) dX9_space_99 ?_
          refine lv_iconst (v := 1) hx hb dX9_space_100 (by decide) ?_
          refine n_isub (a := n) (b := 1) (d := n - 1) hx hb dX9_space_101 (by omega) (by omega) ?_
          refine n_icmp_ge (a := k) (b := n - 1) (tgt := 121) hx hb dX9_space_102 (by decide) (by omega) (by omega) (fun c_102 => ?_) (fun c_102 => ?_)
          · refine lv_aload_n hx hb dX9_space_121 rfl (lv_at hl 1 rfl) ?_
            refine g_get (C := RX9) (T := TX9) (N := 36) F hK hP i_X9_space_X9 0 rfl rfl 4 (by decide) k_X9_space_f27 (v := .ref zx) rfl dX9_space_122 ?_
            refine lv_iload_n hx hb dX9_space_125 rfl (lv_at hl 3 rfl) ?_
            refine lv_iload hx hb dX9_space_126 (lv_at hl 5 rfl) ?_
            refine n_iadd (a := 48 * l_) (b := mm) (d := 48 * l_ + mm) hx hb dX9_space_128 (by omega) ?_
            refine lv_aload_n hx hb dX9_space_129 rfl (lv_at hl 1 rfl) ?_
            refine g_get (C := RX9) (T := TX9) (N := 36) F hK hP i_X9_space_X9 0 rfl rfl 4 (by decide) k_X9_space_f27 (v := .ref zx) rfl dX9_space_130 ?_
            refine lv_iload_n hx hb dX9_space_133 rfl (lv_at hl 3 rfl) ?_
            refine lv_iload hx hb dX9_space_134 (lv_at hl 6 rfl) ?_
            refine n_iadd (a := 48 * l_) (b := k) (d := 48 * l_ + k) hx hb dX9_space_136 (by omega) ?_
            refine g_iald (i := 48 * l_ + k) (v := (X k)) hx hb hK hP 1 rfl (by decide) (by omega) (a1.2.1 k (Nat.le_refl _) (by omega)) dX9_space_137 ?_
            refine g_iast (i := 48 * l_ + mm) (ws2 := [gO mo 9 [.int th, .ref zt, .int (nI tn), .int (nI sz), .ref zx, .ref zy, .ref zm, .ref zb, .int rt, .int w0, .int w1, .int w2, .int lg, .int nr, .int (nI yr), .ref va, .ref vb, .ref vc, .ref vd, .ref qa, .ref qb, .ref qc, .int (nI ln), .ref sa, .ref sb, .ref sc, .ref sd, .ref se, .int (nI pn), .ref ma, .ref mb, .ref mc, .ref rv, .int (nI mn), .int tol, .int (nI rn)], gI g zx 144 (upd gx (48 * l_ + mm) (X k)), gI g zy 144 gy, gI g zm 3 fm, gI g vc 48 e3, gI g vd 48 e4]) hx hb hK hP hD hS 1 rfl (by decide) (by omega) rfl dX9_space_138 (fun H locs hP hD hS => ?_)
            refine lv_aload_n hx hb dX9_space_139 rfl (lv_at hl 1 rfl) ?_
            refine g_get (C := RX9) (T := TX9) (N := 36) F hK hP i_X9_space_X9 0 rfl rfl 5 (by decide) k_X9_space_f31 (v := .ref zy) rfl dX9_space_140 ?_
            refine lv_iload_n hx hb dX9_space_143 rfl (lv_at hl 3 rfl) ?_
            refine lv_iload hx hb dX9_space_144 (lv_at hl 5 rfl) ?_
            refine n_iadd (a := 48 * l_) (b := mm) (d := 48 * l_ + mm) hx hb dX9_space_146 (by omega) ?_
            refine lv_aload_n hx hb dX9_space_147 rfl (lv_at hl 1 rfl) ?_
            refine g_get (C := RX9) (T := TX9) (N := 36) F hK hP i_X9_space_X9 0 rfl rfl 5 (by decide) k_X9_space_f31 (v := .ref zy) rfl dX9_space_148 ?_
            refine lv_iload_n hx hb dX9_space_151 rfl (lv_at hl 3 rfl) ?_
            refine lv_iload hx hb dX9_space_152 (lv_at hl 6 rfl) ?_
            refine n_iadd (a := 48 * l_) (b := k) (d := 48 * l_ + k) hx hb dX9_space_154 (by omega) ?_
            refine g_iald (i := 48 * l_ + k) (v := (Y k)) hx hb hK hP 2 rfl (by decide) (by omega) (a2.2.1 k (Nat.le_refl _) (by omega)) dX9_space_155 ?_
            refine g_iast (i := 48 * l_ + mm) (ws2 := [gO mo 9 [.int th, .ref zt, .int (nI tn), .int (nI sz), .ref zx, .ref zy, .ref zm, .ref zb, .int rt, .int w0, .int w1, .int w2, .int lg, .int nr, .int (nI yr), .ref va, .ref vb, .ref vc, .ref vd, .ref qa, .ref qb, .ref qc, .int (nI ln), .ref sa, .ref sb, .ref sc, .ref sd, .ref se, .int (nI pn), .ref ma, .ref mb, .ref mc, .ref rv, .int (nI mn), .int tol, .int (nI rn)], gI g zx 144 (upd gx (48 * l_ + mm) (X k)), gI g zy 144 (upd gy (48 * l_ + mm) (Y k)), gI g zm 3 fm, gI g vc 48 e3, gI g vd 48 e4]) hx hb hK hP hD hS 2 rfl (by decide) (by omega) rfl dX9_space_156 (fun H locs hP hD hS => ?_)
            refine lv_iinc (v := (nI (mm + 1))) (lv' := [(4, .int (nI (mm + 1))), (6, .int 0), (0, .ref mo), (1, .int (nI l_)), (2, .int (nI (48 * l_))), (3, .int (nI t)), (5, .int (nI k))]) hx hb dX9_space_157 hl (k := 5) rfl (g_inc mm 1 (by decide)) (by decide) rfl (fun ls hl => ?_)
            refine lv_iinc (v := (nI (k + 1))) (lv' := [(5, .int (nI (k + 1))), (4, .int (nI (mm + 1))), (6, .int 0), (0, .ref mo), (1, .int (nI l_)), (2, .int (nI (48 * l_))), (3, .int (nI t))]) hx hb dX9_space_160 hl (k := 6) rfl (g_inc k 1 (by decide)) (by decide) rfl (fun ls hl => ?_)
            refine lv_goto (tgt := 18) hx hb dX9_space_163 (by decide) ?_
            have he := cls_in (X := X) (Y := Y) (n := n) (i := k) (fun hz => by have h := (near3 hs1 hs2 hp1 hp2 hg1 hg2).mp hz.2.2; exact h.1 c_54)
            exact ih_18 t (mm + 1) (k + 1) (upd gx (48 * l_ + mm) (X k)) (upd gy (48 * l_ + mm) (Y k)) ls _ _ (by omega) (by omega) (by omega) (by rw [he, hm_]) (by rw [he]; exact ht) (by rw [he]; subst hm_; exact inW_in a1 (by omega) (by omega) rfl) (by rw [he]; subst hm_; exact inW_in a2 (by omega) (by omega) rfl) (lv_sub hl [3, 4, 5, 6, 1, 0] rfl) hP hD hS
          · refine lv_iload hx hb dX9_space_105 (lv_at hl 0 rfl) ?_
            refine lv_if_eq (tgt := 121) hx hb dX9_space_107 (by decide) (fun _ => ?_) (fun h => absurd (by decide) h)
            refine lv_aload_n hx hb dX9_space_121 rfl (lv_at hl 1 rfl) ?_
            refine g_get (C := RX9) (T := TX9) (N := 36) F hK hP i_X9_space_X9 0 rfl rfl 4 (by decide) k_X9_space_f27 (v := .ref zx) rfl dX9_space_122 ?_
            refine lv_iload_n hx hb dX9_space_125 rfl (lv_at hl 3 rfl) ?_
            refine lv_iload hx hb dX9_space_126 (lv_at hl 5 rfl) ?_
            refine n_iadd (a := 48 * l_) (b := mm) (d := 48 * l_ + mm) hx hb dX9_space_128 (by omega) ?_
            refine lv_aload_n hx hb dX9_space_129 rfl (lv_at hl 1 rfl) ?_
            refine g_get (C := RX9) (T := TX9) (N := 36) F hK hP i_X9_space_X9 0 rfl rfl 4 (by decide) k_X9_space_f27 (v := .ref zx) rfl dX9_space_130 ?_
            refine lv_iload_n hx hb dX9_space_133 rfl (lv_at hl 3 rfl) ?_
            refine lv_iload hx hb dX9_space_134 (lv_at hl 6 rfl) ?_
            refine n_iadd (a := 48 * l_) (b := k) (d := 48 * l_ + k) hx hb dX9_space_136 (by omega) ?_
            refine g_iald (i := 48 * l_ + k) (v := (X k)) hx hb hK hP 1 rfl (by decide) (by omega) (a1.2.1 k (Nat.le_refl _) (by omega)) dX9_space_137 ?_
            refine g_iast (i := 48 * l_ + mm) (ws2 := [gO mo 9 [.int th, .ref zt, .int (nI tn), .int (nI sz), .ref zx, .ref zy, .ref zm, .ref zb, .int rt, .int w0, .int w1, .int w2, .int lg, .int nr, .int (nI yr), .ref va, .ref vb, .ref vc, .ref vd, .ref qa, .ref qb, .ref qc, .int (nI ln), .ref sa, .ref sb, .ref sc, .ref sd, .ref se, .int (nI pn), .ref ma, .ref mb, .ref mc, .ref rv, .int (nI mn), .int tol, .int (nI rn)], gI g zx 144 (upd gx (48 * l_ + mm) (X k)), gI g zy 144 gy, gI g zm 3 fm, gI g vc 48 e3, gI g vd 48 e4]) hx hb hK hP hD hS 1 rfl (by decide) (by omega) rfl dX9_space_138 (fun H locs hP hD hS => ?_)
            refine lv_aload_n hx hb dX9_space_139 rfl (lv_at hl 1 rfl) ?_
            refine g_get (C := RX9) (T := TX9) (N := 36) F hK hP i_X9_space_X9 0 rfl rfl 5 (by decide) k_X9_space_f31 (v := .ref zy) rfl dX9_space_140 ?_
            refine lv_iload_n hx hb dX9_space_143 rfl (lv_at hl 3 rfl) ?_
            refine lv_iload hx hb dX9_space_144 (lv_at hl 5 rfl) ?_
            refine n_iadd (a := 48 * l_) (b := mm) (d := 48 * l_ + mm) hx hb dX9_space_146 (by omega) ?_
            refine lv_aload_n hx hb dX9_space_147 rfl (lv_at hl 1 rfl) ?_
            refine g_get (C := RX9) (T := TX9) (N := 36) F hK hP i_X9_space_X9 0 rfl rfl 5 (by decide) k_X9_space_f31 (v := .ref zy) rfl dX9_space_148 ?_
            refine lv_iload_n hx hb dX9_space_151 rfl (lv_at hl 3 rfl) ?_
            refine lv_iload hx hb dX9_space_152 (lv_at hl 6 rfl) ?_
            refine n_iadd (a := 48 * l_) (b := k) (d := 48 * l_ + k) hx hb dX9_space_154 (by omega) ?_
            refine g_iald (i := 48 * l_ + k) (v := (Y k)) hx hb hK hP 2 rfl (by decide) (by omega) (a2.2.1 k (Nat.le_refl _) (by omega)) dX9_space_155 ?_
            refine g_iast (i := 48 * l_ + mm) (ws2 := [gO mo 9 [.int th, .ref zt, .int (nI tn), .int (nI sz), .ref zx, .ref zy, .ref zm, .ref zb, .int rt, .int w0, .int w1, .int w2, .int lg, .int nr, .int (nI yr), .ref va, .ref vb, .ref vc, .ref vd, .ref qa, .ref qb, .ref qc, .int (nI ln), .ref sa, .ref sb, .ref sc, .ref sd, .ref se, .int (nI pn), .ref ma, .ref mb, .ref mc, .ref rv, .int (nI mn), .int tol, .int (nI rn)], gI g zx 144 (upd gx (48 * l_ + mm) (X k)), gI g zy 144 (upd gy (48 * l_ + mm) (Y k)), gI g zm 3 fm, gI g vc 48 e3, gI g vd 48 e4]) hx hb hK hP hD hS 2 rfl (by decide) (by omega) rfl dX9_space_156 (fun H locs hP hD hS => ?_)
            refine lv_iinc (v := (nI (mm + 1))) (lv' := [(4, .int (nI (mm + 1))), (6, .int 0), (0, .ref mo), (1, .int (nI l_)), (2, .int (nI (48 * l_))), (3, .int (nI t)), (5, .int (nI k))]) hx hb dX9_space_157 hl (k := 5) rfl (g_inc mm 1 (by decide)) (by decide) rfl (fun ls hl => ?_)
            refine lv_iinc (v := (nI (k + 1))) (lv' := [(5, .int (nI (k + 1))), (4, .int (nI (mm + 1))), (6, .int 0), (0, .ref mo), (1, .int (nI l_)), (2, .int (nI (48 * l_))), (3, .int (nI t))]) hx hb dX9_space_160 hl (k := 6) rfl (g_inc k 1 (by decide)) (by decide) rfl (fun ls hl => ?_)
            refine lv_goto (tgt := 18) hx hb dX9_space_163 (by decide) ?_
            have he := cls_in (X := X) (Y := Y) (n := n) (i := k) (fun hz => by have h := (near3 hs1 hs2 hp1 hp2 hg1 hg2).mp hz.2.2; exact h.1 c_54)
            exact ih_18 t (mm + 1) (k + 1) (upd gx (48 * l_ + mm) (X k)) (upd gy (48 * l_ + mm) (Y k)) ls _ _ (by omega) (by omega) (by omega) (by rw [he, hm_]) (by rw [he]; exact ht) (by rw [he]; subst hm_; exact inW_in a1 (by omega) (by omega) rfl) (by rw [he]; subst hm_; exact inW_in a2 (by omega) (by omega) rfl) (lv_sub hl [3, 4, 5, 6, 1, 0] rfl) hP hD hS
        · refine lv_aload_n hx hb dX9_space_57 rfl (lv_at hl 0 rfl) ?_
          refine g_get (C := RX9) (T := TX9) (N := 36) F hK hP i_X9_space_X9 0 rfl rfl 5 (by decide) k_X9_space_f31 (v := .ref zy) rfl dX9_space_58 ?_
          refine lv_iload_n hx hb dX9_space_61 rfl (lv_at hl 2 rfl) ?_
          refine lv_iload hx hb dX9_space_62 (lv_at hl 5 rfl) ?_
          refine n_iadd (a := 48 * l_) (b := k) (d := 48 * l_ + k) hx hb dX9_space_64 (by omega) ?_
          refine g_iald (i := 48 * l_ + k) (v := (Y k)) hx hb hK hP 2 rfl (by decide) (by omega) (a2.2.1 k (Nat.le_refl _) (by omega)) dX9_space_65 ?_
          refine lv_aload_n hx hb dX9_space_66 rfl (lv_at hl 0 rfl) ?_
          refine g_get (C := RX9) (T := TX9) (N := 36) F hK hP i_X9_space_X9 0 rfl rfl 5 (by decide) k_X9_space_f31 (v := .ref zy) rfl dX9_space_67 ?_
          refine lv_iload_n hx hb dX9_space_70 rfl (lv_at hl 2 rfl) ?_
          refine lv_iload hx hb dX9_space_71 (lv_at hl 4 rfl) ?_
          refine n_iadd (a := 48 * l_) (b := mm) (d := 48 * l_ + mm) hx hb dX9_space_73 (by omega) ?_
          refine lv_iconst (v := 1) hx hb dX9_space_74 (by decide) ?_
          refine n_isub (a := 48 * l_ + mm) (b := 1) (d := (48 * l_ + mm) - 1) hx hb dX9_space_75 (by omega) (by omega) ?_
          refine g_iald (i := (48 * l_ + mm) - 1) (v := ((clsS X Y n k).2.2.1 ((mm) - 1))) hx hb hK hP 2 rfl (by decide) (by omega) ((congrArg gy (show (48 * l_ + mm) - 1 = 48 * l_ + ((mm) - 1) by omega)).trans (a2.1 ((mm) - 1) (by omega))) dX9_space_76 ?_
          refine lv_isub hx hb dX9_space_77 ?_
          refine g_SI (wr := [gO mo 9 [.int th, .ref zt, .int (nI tn), .int (nI sz), .ref zx, .ref zy, .ref zm, .ref zb, .int rt, .int w0, .int w1, .int w2, .int lg, .int nr, .int (nI yr), .ref va, .ref vb, .ref vc, .ref vd, .ref qa, .ref qb, .ref qc, .int (nI ln), .ref sa, .ref sb, .ref sc, .ref sd, .ref se, .int (nI pn), .ref ma, .ref mb, .ref mc, .ref rv, .int (nI mn), .int tol, .int (nI rn)], gI g zx 144 gx, gI g zy 144 gy, gI g zm 3 fm, gI g vc 48 e3, gI g vd 48 e4]) (As := [.int ((Y k) - ((clsS X Y n k).2.2.1 ((mm) - 1)))]) (rest := []) (n := 1) F (c_X9_size l g ((Y k) - ((clsS X Y n k).2.2.1 ((mm) - 1)))) gX9_space_X9_size rfl (by decide) ⟨by decide, by decide⟩ rfl hl.1 rfl (Nat.le_of_ble_eq_true rfl) dX9_space_78 ⟨Nat.le_of_ble_eq_true rfl, Nat.le_of_ble_eq_true rfl⟩ hK hP hD hS hA [] [0, 1, 2, 3, 4, 5] (by decide) rfl rfl (by decide) (by decide) (fun r_78 u_78 H locs hw_78 hP hD hS => ?_)
          have hP : gP g [gO mo 9 [.int th, .ref zt, .int (nI tn), .int (nI sz), .ref zx, .ref zy, .ref zm, .ref zb, .int rt, .int w0, .int w1, .int w2, .int lg, .int nr, .int (nI yr), .ref va, .ref vb, .ref vc, .ref vd, .ref qa, .ref qb, .ref qc, .int (nI ln), .ref sa, .ref sb, .ref sc, .ref sd, .ref se, .int (nI pn), .ref ma, .ref mb, .ref mc, .ref rv, .int (nI mn), .int tol, .int (nI rn)], gI g zx 144 gx, gI g zy 144 gy, gI g zm 3 fm, gI g vc 48 e3, gI g vd 48 e4] H := hP
          have hD : va_D A [gO mo 9 [.int th, .ref zt, .int (nI tn), .int (nI sz), .ref zx, .ref zy, .ref zm, .ref zb, .int rt, .int w0, .int w1, .int w2, .int lg, .int nr, .int (nI yr), .ref va, .ref vb, .ref vc, .ref vd, .ref qa, .ref qb, .ref qc, .int (nI ln), .ref sa, .ref sb, .ref sc, .ref sd, .ref se, .int (nI pn), .ref ma, .ref mb, .ref mc, .ref rv, .int (nI mn), .int tol, .int (nI rn)], gI g zx 144 gx, gI g zy 144 gy, gI g zm 3 fm, gI g vc 48 e3, gI g vd 48 e4] := hD
          obtain rfl := hw_78
          refine lv_iconst (v := 4) hx hb dX9_space_81 (by decide) ?_
          refine lv_icmp_ge (tgt := 89) hx hb dX9_space_82 (by decide) (fun c_82 => ?_) (fun c_82 => ?_)
          · refine lv_iconst (v := 0) hx hb dX9_space_89 (by decide) ?_
            refine lv_istore (lv' := [(6, .int 0), (0, .ref mo), (1, .int (nI l_)), (2, .int (nI (48 * l_))), (3, .int (nI t)), (4, .int (nI mm)), (5, .int (nI k))]) hx hb dX9_space_90 hl (by decide) rfl (fun ls hl => ?_)
            refine lv_iload hx hb dX9_space_92 (lv_at hl 6 rfl) ?_
            refine lv_aload_n hx hb dX9_space_94 rfl (lv_at hl 1 rfl) ?_
            refine g_get (C := RX9) (T := TX9) (N := 36) F hK hP i_X9_space_X9 0 rfl rfl 6 (by decide) k_X9_space_f34 (v := .ref zm) rfl dX9_space_95 ?_
            refine lv_iload_n hx hb dX9_space_98 rfl (lv_at hl 2 rfl) ?_
            refine g_iald (i := l_) (v := (nI n)) hx hb hK hP 3 rfl (by decide) (by omega) (hm) dX9_space_99 ?_
            refine lv_iconst (v := 1) hx hb dX9_space_100 (by decide) ?_
            refine n_isub (a := n) (b := 1) (d := n - 1) hx hb dX9_space_101 (by omega) (by omega) ?_
            refine n_icmp_ge (a := k) (b := n - 1) (tgt := 121) hx hb dX9_space_102 (by decide) (by omega) (by omega) (fun c_102 => ?_) (fun c_102 => ?_)
            · refine lv_aload_n hx hb dX9_space_121 rfl (lv_at hl 1 rfl) ?_
              refine g_get (C := RX9) (T := TX9) (N := 36) F hK hP i_X9_space_X9 0 rfl rfl 4 (by decide) k_X9_space_f27 (v := .ref zx) rfl dX9_space_122 ?_
              refine lv_iload_n hx hb dX9_space_125 rfl (lv_at hl 3 rfl) ?_
              refine lv_iload hx hb dX9_space_126 (lv_at hl 5 rfl) ?_
              refine n_iadd (a := 48 * l_) (b := mm) (d := 48 * l_ + mm) hx hb dX9_space_128 (by omega) ?_
              refine lv_aload_n hx hb dX9_space_129 rfl (lv_at hl 1 rfl) ?_
              refine g_get (C := RX9) (T := TX9) (N := 36) F hK hP i_X9_space_X9 0 rfl rfl 4 (by decide) k_X9_space_f27 (v := .ref zx) rfl dX9_space_130 ?_
              refine lv_iload_n hx hb dX9_space_133 rfl (lv_at hl 3 rfl) ?_
              refine lv_iload hx hb dX9_space_134 (lv_at hl 6 rfl) ?_
              refine n_iadd (a := 48 * l_) (b := k) (d := 48 * l_ + k) hx hb dX9_space_136 (by omega) ?_
              refine g_iald (i := 48 * l_ + k) (v := (X k)) hx hb hK hP 1 rfl (by decide) (by omega) (a1.2.1 k (Nat.le_refl _) (by omega)) dX9_space_137 ?_
              refine g_iast (i := 48 * l_ + mm) (ws2 := [gO mo 9 [.int th, .ref zt, .int (nI tn), .int (nI sz), .ref zx, .ref zy, .ref zm, .ref zb, .int rt, .int w0, .int w1, .int w2, .int lg, .int nr, .int (nI yr), .ref va, .ref vb, .ref vc, .ref vd, .ref qa, .ref qb, .ref qc, .int (nI ln), .ref sa, .ref sb, .ref sc, .ref sd, .ref se, .int (nI pn), .ref ma, .ref mb, .ref mc, .ref rv, .int (nI mn), .int tol, .int (nI rn)], gI g zx 144 (upd gx (48 * l_ + mm) (X k)), gI g zy 144 gy, gI g zm 3 fm, gI g vc 48 e3, gI g vd 48 e4]) hx hb hK hP hD hS 1 rfl (by decide) (by omega) rfl dX9_space_138 (fun H locs hP hD hS => ?_)
              refine lv_aload_n hx hb dX9_space_139 rfl (lv_at hl 1 rfl) ?_
              refine g_get (C := RX9) (T := TX9) (N := 36) F hK hP i_X9_space_X9 0 rfl rfl 5 (by decide) k_X9_space_f31 (v := .ref zy) rfl dX9_space_140 ?_
              refine lv_iload_n hx hb dX9_space_143 rfl (lv_at hl 3 rfl) ?_
              refine lv_iload hx hb dX9_space_144 (lv_at hl 5 rfl) ?_
              refine n_iadd (a := 48 * l_) (b := mm) (d := 48 * l_ + mm) hx hb dX9_space_146 (by omega) ?_
              refine lv_aload_n hx hb dX9_space_147 rfl (lv_at hl 1 rfl) ?_
              refine g_get (C := RX9) (T := TX9) (N := 36) F hK hP i_X9_space_X9 0 rfl rfl 5 (by decide) k_X9_space_f31 (v := .ref zy) rfl dX9_space_148 ?_
              refine lv_iload_n hx hb dX9_space_151 rfl (lv_at hl 3 rfl) ?_
              refine lv_iload hx hb dX9_space_152 (lv_at hl 6 rfl) ?_
              refine n_iadd (a := 48 * l_) (b := k) (d := 48 * l_ + k) hx hb dX9_space_154 (by omega) ?_
              refine g_iald (i := 48 * l_ + k) (v := (Y k)) hx hb hK hP 2 rfl (by decide) (by omega) (a2.2.1 k (Nat.le_refl _) (by omega)) dX9_space_155 ?_
              refine g_iast (i := 48 * l_ + mm) (ws2 := [gO mo 9 [.int th, .ref zt, .int (nI tn), .int (nI sz), .ref zx, .ref zy, .ref zm, .ref zb, .int rt, .int w0, .int w1, .int w2, .int lg, .int nr, .int (nI yr), .ref va, .ref vb, .ref vc, .ref vd, .ref qa, .ref qb, .ref qc, .int (nI ln), .ref sa, .ref sb, .ref sc, .ref sd, .ref se, .int (nI pn), .ref ma, .ref mb, .ref mc, .ref rv, .int (nI mn), .int tol, .int (nI rn)], gI g zx 144 (upd gx (48 * l_ + mm) (X k)), gI g zy 144 (upd gy (48 * l_ + mm) (Y k)), gI g zm 3 fm, gI g vc 48 e3, gI g vd 48 e4]) hx hb hK hP hD hS 2 rfl (by decide) (by omega) rfl dX9_space_156 (fun H locs hP hD hS => ?_)
              refine lv_iinc (v := (nI (mm + 1))) (lv' := [(4, .int (nI (mm + 1))), (6, .int 0), (0, .ref mo), (1, .int (nI l_)), (2, .int (nI (48 * l_))), (3, .int (nI t)), (5, .int (nI k))]) hx hb dX9_space_157 hl (k := 5) rfl (g_inc mm 1 (by decide)) (by decide) rfl (fun ls hl => ?_)
              refine lv_iinc (v := (nI (k + 1))) (lv' := [(5, .int (nI (k + 1))), (4, .int (nI (mm + 1))), (6, .int 0), (0, .ref mo), (1, .int (nI l_)), (2, .int (nI (48 * l_))), (3, .int (nI t))]) hx hb dX9_space_160 hl (k := 6) rfl (g_inc k 1 (by decide)) (by decide) rfl (fun ls hl => ?_)
              refine lv_goto (tgt := 18) hx hb dX9_space_163 (by decide) ?_
              have he := cls_in (X := X) (Y := Y) (n := n) (i := k) (fun hz => by have h := (near3 hs1 hs2 hp1 hp2 hg1 hg2).mp hz.2.2; exact h.2 c_82)
              exact ih_18 t (mm + 1) (k + 1) (upd gx (48 * l_ + mm) (X k)) (upd gy (48 * l_ + mm) (Y k)) ls _ _ (by omega) (by omega) (by omega) (by rw [he, hm_]) (by rw [he]; exact ht) (by rw [he]; subst hm_; exact inW_in a1 (by omega) (by omega) rfl) (by rw [he]; subst hm_; exact inW_in a2 (by omega) (by omega) rfl) (lv_sub hl [3, 4, 5, 6, 1, 0] rfl) hP hD hS
            · refine lv_iload hx hb dX9_space_105 (lv_at hl 0 rfl) ?_
              refine lv_if_eq (tgt := 121) hx hb dX9_space_107 (by decide) (fun _ => ?_) (fun h => absurd (by decide) h)
              refine lv_aload_n hx hb dX9_space_121 rfl (lv_at hl 1 rfl) ?_
              refine g_get (C := RX9) (T := TX9) (N := 36) F hK hP i_X9_space_X9 0 rfl rfl 4 (by decide) k_X9_space_f27 (v := .ref zx) rfl dX9_space_122 ?_
              refine lv_iload_n hx hb dX9_space_125 rfl (lv_at hl 3 rfl) ?_
              refine lv_iload hx hb dX9_space_126 (lv_at hl 5 rfl) ?_
              refine n_iadd (a := 48 * l_) (b := mm) (d := 48 * l_ + mm) hx hb dX9_space_128 (by omega) ?_
              refine lv_aload_n hx hb dX9_space_129 rfl (lv_at hl 1 rfl) ?_
              refine g_get (C := RX9) (T := TX9) (N := 36) F hK hP i_X9_space_X9 0 rfl rfl 4 (by decide) k_X9_space_f27 (v := .ref zx) rfl dX9_space_130 ?_
              refine lv_iload_n hx hb dX9_space_133 rfl (lv_at hl 3 rfl) ?_
              refine lv_iload hx hb dX9_space_134 (lv_at hl 6 rfl) ?_
              refine n_iadd (a := 48 * l_) (b := k) (d := 48 * l_ + k) hx hb dX9_space_136 (by omega) ?_
              refine g_iald (i := 48 * l_ + k) (v := (X k)) hx hb hK hP 1 rfl (by decide) (by omega) (a1.2.1 k (Nat.le_refl _) (by omega)) dX9_space_137 ?_
              refine g_iast (i := 48 * l_ + mm) (ws2 := [gO mo 9 [.int th, .ref zt, .int (nI tn), .int (nI sz), .ref zx, .ref zy, .ref zm, .ref zb, .int rt, .int w0, .int w1, .int w2, .int lg, .int nr, .int (nI yr), .ref va, .ref vb, .ref vc, .ref vd, .ref qa, .ref qb, .ref qc, .int (nI ln), .ref sa, .ref sb, .ref sc, .ref sd, .ref se, .int (nI pn), .ref ma, .ref mb, .ref mc, .ref rv, .int (nI mn), .int tol, .int (nI rn)], gI g zx 144 (upd gx (48 * l_ + mm) (X k)), gI g zy 144 gy, gI g zm 3 fm, gI g vc 48 e3, gI g vd 48 e4]) hx hb hK hP hD hS 1 rfl (by decide) (by omega) rfl dX9_space_138 (fun H locs hP hD hS => ?_)
              refine lv_aload_n hx hb dX9_space_139 rfl (lv_at hl 1 rfl) ?_
              refine g_get (C := RX9) (T := TX9) (N := 36) F hK hP i_X9_space_X9 0 rfl rfl 5 (by decide) k_X9_space_f31 (v := .ref zy) rfl dX9_space_140 ?_
              refine lv_iload_n hx hb dX9_space_143 rfl (lv_at hl 3 rfl) ?_
              refine lv_iload hx hb dX9_space_144 (lv_at hl 5 rfl) ?_
              refine n_iadd (a := 48 * l_) (b := mm) (d := 48 * l_ + mm) hx hb dX9_space_146 (by omega) ?_
              refine lv_aload_n hx hb dX9_space_147 rfl (lv_at hl 1 rfl) ?_
              refine g_get (C := RX9) (T := TX9) (N := 36) F hK hP i_X9_space_X9 0 rfl rfl 5 (by decide) k_X9_space_f31 (v := .ref zy) rfl dX9_space_148 ?_
              refine lv_iload_n hx hb dX9_space_151 rfl (lv_at hl 3 rfl) ?_
              refine lv_iload hx hb dX9_space_152 (lv_at hl 6 rfl) ?_
              refine n_iadd (a := 48 * l_) (b := k) (d := 48 * l_ + k) hx hb dX9_space_154 (by omega) ?_
              refine g_iald (i := 48 * l_ + k) (v := (Y k)) hx hb hK hP 2 rfl (by decide) (by omega) (a2.2.1 k (Nat.le_refl _) (by omega)) dX9_space_155 ?_
              refine g_iast (i := 48 * l_ + mm) (ws2 := [gO mo 9 [.int th, .ref zt, .int (nI tn), .int (nI sz), .ref zx, .ref zy, .ref zm, .ref zb, .int rt, .int w0, .int w1, .int w2, .int lg, .int nr, .int (nI yr), .ref va, .ref vb, .ref vc, .ref vd, .ref qa, .ref qb, .ref qc, .int (nI ln), .ref sa, .ref sb, .ref sc, .ref sd, .ref se, .int (nI pn), .ref ma, .ref mb, .ref mc, .ref rv, .int (nI mn), .int tol, .int (nI rn)], gI g zx 144 (upd gx (48 * l_ + mm) (X k)), gI g zy 144 (upd gy (48 * l_ + mm) (Y k)), gI g zm 3 fm, gI g vc 48 e3, gI g vd 48 e4]) hx hb hK hP hD hS 2 rfl (by decide) (by omega) rfl dX9_space_156 (fun H locs hP hD hS => ?_)
              refine lv_iinc (v := (nI (mm + 1))) (lv' := [(4, .int (nI (mm + 1))), (6, .int 0), (0, .ref mo), (1, .int (nI l_)), (2, .int (nI (48 * l_))), (3, .int (nI t)), (5, .int (nI k))]) hx hb dX9_space_157 hl (k := 5) rfl (g_inc mm 1 (by decide)) (by decide) rfl (fun ls hl => ?_)
              refine lv_iinc (v := (nI (k + 1))) (lv' := [(5, .int (nI (k + 1))), (4, .int (nI (mm + 1))), (6, .int 0), (0, .ref mo), (1, .int (nI l_)), (2, .int (nI (48 * l_))), (3, .int (nI t))]) hx hb dX9_space_160 hl (k := 6) rfl (g_inc k 1 (by decide)) (by decide) rfl (fun ls hl => ?_)
              refine lv_goto (tgt := 18) hx hb dX9_space_163 (by decide) ?_
              have he := cls_in (X := X) (Y := Y) (n := n) (i := k) (fun hz => by have h := (near3 hs1 hs2 hp1 hp2 hg1 hg2).mp hz.2.2; exact h.2 c_82)
              exact ih_18 t (mm + 1) (k + 1) (upd gx (48 * l_ + mm) (X k)) (upd gy (48 * l_ + mm) (Y k)) ls _ _ (by omega) (by omega) (by omega) (by rw [he, hm_]) (by rw [he]; exact ht) (by rw [he]; subst hm_; exact inW_in a1 (by omega) (by omega) rfl) (by rw [he]; subst hm_; exact inW_in a2 (by omega) (by omega) rfl) (lv_sub hl [3, 4, 5, 6, 1, 0] rfl) hP hD hS
          · refine lv_iconst (v := 1) hx hb dX9_space_85 (by decide) ?_
            refine lv_goto (tgt := 90) hx hb dX9_space_86 (by decide) ?_
            refine lv_istore (lv' := [(6, .int 1), (0, .ref mo), (1, .int (nI l_)), (2, .int (nI (48 * l_))), (3, .int (nI t)), (4, .int (nI mm)), (5, .int (nI k))]) hx hb dX9_space_90 hl (by decide) rfl (fun ls hl => ?_)
            refine lv_iload hx hb dX9_space_92 (lv_at hl 6 rfl) ?_
            refine lv_aload_n hx hb dX9_space_94 rfl (lv_at hl 1 rfl) ?_
            refine g_get (C := RX9) (T := TX9) (N := 36) F hK hP i_X9_space_X9 0 rfl rfl 6 (by decide) k_X9_space_f34 (v := .ref zm) rfl dX9_space_95 ?_
            refine lv_iload_n hx hb dX9_space_98 rfl (lv_at hl 2 rfl) ?_
            refine g_iald (i := l_) (v := (nI n)) hx hb hK hP 3 rfl (by decide) (by omega) (hm) dX9_space_99 ?_
            refine lv_iconst (v := 1) hx hb dX9_space_100 (by decide) ?_
            refine n_isub (a := n) (b := 1) (d := n - 1) hx hb dX9_space_101 (by omega) (by omega) ?_
            refine n_icmp_ge (a := k) (b := n - 1) (tgt := 121) hx hb dX9_space_102 (by decide) (by omega) (by omega) (fun c_102 => ?_) (fun c_102 => ?_)
            · refine lv_aload_n hx hb dX9_space_121 rfl (lv_at hl 1 rfl) ?_
              refine g_get (C := RX9) (T := TX9) (N := 36) F hK hP i_X9_space_X9 0 rfl rfl 4 (by decide) k_X9_space_f27 (v := .ref zx) rfl dX9_space_122 ?_
              refine lv_iload_n hx hb dX9_space_125 rfl (lv_at hl 3 rfl) ?_
              refine lv_iload hx hb dX9_space_126 (lv_at hl 5 rfl) ?_
              refine n_iadd (a := 48 * l_) (b := mm) (d := 48 * l_ + mm) hx hb dX9_space_128 (by omega) ?_
              refine lv_aload_n hx hb dX9_space_129 rfl (lv_at hl 1 rfl) ?_
              refine g_get (C := RX9) (T := TX9) (N := 36) F hK hP i_X9_space_X9 0 rfl rfl 4 (by decide) k_X9_space_f27 (v := .ref zx) rfl dX9_space_130 ?_
              refine lv_iload_n hx hb dX9_space_133 rfl (lv_at hl 3 rfl) ?_
              refine lv_iload hx hb dX9_space_134 (lv_at hl 6 rfl) ?_
              refine n_iadd (a := 48 * l_) (b := k) (d := 48 * l_ + k) hx hb dX9_space_136 (by omega) ?_
              refine g_iald (i := 48 * l_ + k) (v := (X k)) hx hb hK hP 1 rfl (by decide) (by omega) (a1.2.1 k (Nat.le_refl _) (by omega)) dX9_space_137 ?_
              refine g_iast (i := 48 * l_ + mm) (ws2 := [gO mo 9 [.int th, .ref zt, .int (nI tn), .int (nI sz), .ref zx, .ref zy, .ref zm, .ref zb, .int rt, .int w0, .int w1, .int w2, .int lg, .int nr, .int (nI yr), .ref va, .ref vb, .ref vc, .ref vd, .ref qa, .ref qb, .ref qc, .int (nI ln), .ref sa, .ref sb, .ref sc, .ref sd, .ref se, .int (nI pn), .ref ma, .ref mb, .ref mc, .ref rv, .int (nI mn), .int tol, .int (nI rn)], gI g zx 144 (upd gx (48 * l_ + mm) (X k)), gI g zy 144 gy, gI g zm 3 fm, gI g vc 48 e3, gI g vd 48 e4]) hx hb hK hP hD hS 1 rfl (by decide) (by omega) rfl dX9_space_138 (fun H locs hP hD hS => ?_)
              refine lv_aload_n hx hb dX9_space_139 rfl (lv_at hl 1 rfl) ?_
              refine g_get (C := RX9) (T := TX9) (N := 36) F hK hP i_X9_space_X9 0 rfl rfl 5 (by decide) k_X9_space_f31 (v := .ref zy) rfl dX9_space_140 ?_
              refine lv_iload_n hx hb dX9_space_143 rfl (lv_at hl 3 rfl) ?_
              refine lv_iload hx hb dX9_space_144 (lv_at hl 5 rfl) ?_
              refine n_iadd (a := 48 * l_) (b := mm) (d := 48 * l_ + mm) hx hb dX9_space_146 (by omega) ?_
              refine lv_aload_n hx hb dX9_space_147 rfl (lv_at hl 1 rfl) ?_
              refine g_get (C := RX9) (T := TX9) (N := 36) F hK hP i_X9_space_X9 0 rfl rfl 5 (by decide) k_X9_space_f31 (v := .ref zy) rfl dX9_space_148 ?_
              refine lv_iload_n hx hb dX9_space_151 rfl (lv_at hl 3 rfl) ?_
              refine lv_iload hx hb dX9_space_152 (lv_at hl 6 rfl) ?_
              refine n_iadd (a := 48 * l_) (b := k) (d := 48 * l_ + k) hx hb dX9_space_154 (by omega) ?_
              refine g_iald (i := 48 * l_ + k) (v := (Y k)) hx hb hK hP 2 rfl (by decide) (by omega) (a2.2.1 k (Nat.le_refl _) (by omega)) dX9_space_155 ?_
              refine g_iast (i := 48 * l_ + mm) (ws2 := [gO mo 9 [.int th, .ref zt, .int (nI tn), .int (nI sz), .ref zx, .ref zy, .ref zm, .ref zb, .int rt, .int w0, .int w1, .int w2, .int lg, .int nr, .int (nI yr), .ref va, .ref vb, .ref vc, .ref vd, .ref qa, .ref qb, .ref qc, .int (nI ln), .ref sa, .ref sb, .ref sc, .ref sd, .ref se, .int (nI pn), .ref ma, .ref mb, .ref mc, .ref rv, .int (nI mn), .int tol, .int (nI rn)], gI g zx 144 (upd gx (48 * l_ + mm) (X k)), gI g zy 144 (upd gy (48 * l_ + mm) (Y k)), gI g zm 3 fm, gI g vc 48 e3, gI g vd 48 e4]) hx hb hK hP hD hS 2 rfl (by decide) (by omega) rfl dX9_space_156 (fun H locs hP hD hS => ?_)
              refine lv_iinc (v := (nI (mm + 1))) (lv' := [(4, .int (nI (mm + 1))), (6, .int 1), (0, .ref mo), (1, .int (nI l_)), (2, .int (nI (48 * l_))), (3, .int (nI t)), (5, .int (nI k))]) hx hb dX9_space_157 hl (k := 5) rfl (g_inc mm 1 (by decide)) (by decide) rfl (fun ls hl => ?_)
              refine lv_iinc (v := (nI (k + 1))) (lv' := [(5, .int (nI (k + 1))), (4, .int (nI (mm + 1))), (6, .int 1), (0, .ref mo), (1, .int (nI l_)), (2, .int (nI (48 * l_))), (3, .int (nI t))]) hx hb dX9_space_160 hl (k := 6) rfl (g_inc k 1 (by decide)) (by decide) rfl (fun ls hl => ?_)
              refine lv_goto (tgt := 18) hx hb dX9_space_163 (by decide) ?_
              have he := cls_in (X := X) (Y := Y) (n := n) (i := k) (fun hz => absurd hz.1.2 (by omega))
              exact ih_18 t (mm + 1) (k + 1) (upd gx (48 * l_ + mm) (X k)) (upd gy (48 * l_ + mm) (Y k)) ls _ _ (by omega) (by omega) (by omega) (by rw [he, hm_]) (by rw [he]; exact ht) (by rw [he]; subst hm_; exact inW_in a1 (by omega) (by omega) rfl) (by rw [he]; subst hm_; exact inW_in a2 (by omega) (by omega) rfl) (lv_sub hl [3, 4, 5, 6, 1, 0] rfl) hP hD hS
            · refine lv_iload hx hb dX9_space_105 (lv_at hl 0 rfl) ?_
              refine lv_if_eq (tgt := 121) hx hb dX9_space_107 (by decide) (fun h => absurd h (by decide)) (fun _ => ?_)
              refine lv_iload_n hx hb dX9_space_110 rfl (lv_at hl 4 rfl) ?_
              refine lv_iconst (v := 4) hx hb dX9_space_111 (by decide) ?_
              refine n_icmp_le (a := t) (b := 4) (tgt := 121) hx hb dX9_space_112 (by decide) (by omega) (by omega) (fun c_112 => ?_) (fun c_112 => ?_)
              · refine lv_aload_n hx hb dX9_space_121 rfl (lv_at hl 1 rfl) ?_
                refine g_get (C := RX9) (T := TX9) (N := 36) F hK hP i_X9_space_X9 0 rfl rfl 4 (by decide) k_X9_space_f27 (v := .ref zx) rfl dX9_space_122 ?_
                refine lv_iload_n hx hb dX9_space_125 rfl (lv_at hl 3 rfl) ?_
                refine lv_iload hx hb dX9_space_126 (lv_at hl 5 rfl) ?_
                refine n_iadd (a := 48 * l_) (b := mm) (d := 48 * l_ + mm) hx hb dX9_space_128 (by omega) ?_
                refine lv_aload_n hx hb dX9_space_129 rfl (lv_at hl 1 rfl) ?_
                refine g_get (C := RX9) (T := TX9) (N := 36) F hK hP i_X9_space_X9 0 rfl rfl 4 (by decide) k_X9_space_f27 (v := .ref zx) rfl dX9_space_130 ?_
                refine lv_iload_n hx hb dX9_space_133 rfl (lv_at hl 3 rfl) ?_
                refine lv_iload hx hb dX9_space_134 (lv_at hl 6 rfl) ?_
                refine n_iadd (a := 48 * l_) (b := k) (d := 48 * l_ + k) hx hb dX9_space_136 (by omega) ?_
                refine g_iald (i := 48 * l_ + k) (v := (X k)) hx hb hK hP 1 rfl (by decide) (by omega) (a1.2.1 k (Nat.le_refl _) (by omega)) dX9_space_137 ?_
                refine g_iast (i := 48 * l_ + mm) (ws2 := [gO mo 9 [.int th, .ref zt, .int (nI tn), .int (nI sz), .ref zx, .ref zy, .ref zm, .ref zb, .int rt, .int w0, .int w1, .int w2, .int lg, .int nr, .int (nI yr), .ref va, .ref vb, .ref vc, .ref vd, .ref qa, .ref qb, .ref qc, .int (nI ln), .ref sa, .ref sb, .ref sc, .ref sd, .ref se, .int (nI pn), .ref ma, .ref mb, .ref mc, .ref rv, .int (nI mn), .int tol, .int (nI rn)], gI g zx 144 (upd gx (48 * l_ + mm) (X k)), gI g zy 144 gy, gI g zm 3 fm, gI g vc 48 e3, gI g vd 48 e4]) hx hb hK hP hD hS 1 rfl (by decide) (by omega) rfl dX9_space_138 (fun H locs hP hD hS => ?_)
                refine lv_aload_n hx hb dX9_space_139 rfl (lv_at hl 1 rfl) ?_
                refine g_get (C := RX9) (T := TX9) (N := 36) F hK hP i_X9_space_X9 0 rfl rfl 5 (by decide) k_X9_space_f31 (v := .ref zy) rfl dX9_space_140 ?_
                refine lv_iload_n hx hb dX9_space_143 rfl (lv_at hl 3 rfl) ?_
                refine lv_iload hx hb dX9_space_144 (lv_at hl 5 rfl) ?_
                refine n_iadd (a := 48 * l_) (b := mm) (d := 48 * l_ + mm) hx hb dX9_space_146 (by omega) ?_
                refine lv_aload_n hx hb dX9_space_147 rfl (lv_at hl 1 rfl) ?_
                refine g_get (C := RX9) (T := TX9) (N := 36) F hK hP i_X9_space_X9 0 rfl rfl 5 (by decide) k_X9_space_f31 (v := .ref zy) rfl dX9_space_148 ?_
                refine lv_iload_n hx hb dX9_space_151 rfl (lv_at hl 3 rfl) ?_
                refine lv_iload hx hb dX9_space_152 (lv_at hl 6 rfl) ?_
                refine n_iadd (a := 48 * l_) (b := k) (d := 48 * l_ + k) hx hb dX9_space_154 (by omega) ?_
                refine g_iald (i := 48 * l_ + k) (v := (Y k)) hx hb hK hP 2 rfl (by decide) (by omega) (a2.2.1 k (Nat.le_refl _) (by omega)) dX9_space_155 ?_
                refine g_iast (i := 48 * l_ + mm) (ws2 := [gO mo 9 [.int th, .ref zt, .int (nI tn), .int (nI sz), .ref zx, .ref zy, .ref zm, .ref zb, .int rt, .int w0, .int w1, .int w2, .int lg, .int nr, .int (nI yr), .ref va, .ref vb, .ref vc, .ref vd, .ref qa, .ref qb, .ref qc, .int (nI ln), .ref sa, .ref sb, .ref sc, .ref sd, .ref se, .int (nI pn), .ref ma, .ref mb, .ref mc, .ref rv, .int (nI mn), .int tol, .int (nI rn)], gI g zx 144 (upd gx (48 * l_ + mm) (X k)), gI g zy 144 (upd gy (48 * l_ + mm) (Y k)), gI g zm 3 fm, gI g vc 48 e3, gI g vd 48 e4]) hx hb hK hP hD hS 2 rfl (by decide) (by omega) rfl dX9_space_156 (fun H locs hP hD hS => ?_)
                refine lv_iinc (v := (nI (mm + 1))) (lv' := [(4, .int (nI (mm + 1))), (6, .int 1), (0, .ref mo), (1, .int (nI l_)), (2, .int (nI (48 * l_))), (3, .int (nI t)), (5, .int (nI k))]) hx hb dX9_space_157 hl (k := 5) rfl (g_inc mm 1 (by decide)) (by decide) rfl (fun ls hl => ?_)
                refine lv_iinc (v := (nI (k + 1))) (lv' := [(5, .int (nI (k + 1))), (4, .int (nI (mm + 1))), (6, .int 1), (0, .ref mo), (1, .int (nI l_)), (2, .int (nI (48 * l_))), (3, .int (nI t))]) hx hb dX9_space_160 hl (k := 6) rfl (g_inc k 1 (by decide)) (by decide) rfl (fun ls hl => ?_)
                refine lv_goto (tgt := 18) hx hb dX9_space_163 (by decide) ?_
                have he := cls_in (X := X) (Y := Y) (n := n) (i := k) (fun hz => absurd hz.2.1 (by omega))
                exact ih_18 t (mm + 1) (k + 1) (upd gx (48 * l_ + mm) (X k)) (upd gy (48 * l_ + mm) (Y k)) ls _ _ (by omega) (by omega) (by omega) (by rw [he, hm_]) (by rw [he]; exact ht) (by rw [he]; subst hm_; exact inW_in a1 (by omega) (by omega) rfl) (by rw [he]; subst hm_; exact inW_in a2 (by omega) (by omega) rfl) (lv_sub hl [3, 4, 5, 6, 1, 0] rfl) hP hD hS
              · refine lv_iinc (v := (nI (t - 1))) (lv' := [(3, .int (nI (t - 1))), (6, .int 1), (0, .ref mo), (1, .int (nI l_)), (2, .int (nI (48 * l_))), (4, .int (nI mm)), (5, .int (nI k))]) hx hb dX9_space_115 hl (k := 4) rfl (g_dec (show 1 ≤ t by omega)) (by decide) rfl (fun ls hl => ?_)
                refine lv_goto (tgt := 160) hx hb dX9_space_118 (by decide) ?_
                refine lv_iinc (v := (nI (k + 1))) (lv' := [(5, .int (nI (k + 1))), (3, .int (nI (t - 1))), (6, .int 1), (0, .ref mo), (1, .int (nI l_)), (2, .int (nI (48 * l_))), (4, .int (nI mm))]) hx hb dX9_space_160 hl (k := 6) rfl (g_inc k 1 (by decide)) (by decide) rfl (fun ls hl => ?_)
                refine lv_goto (tgt := 18) hx hb dX9_space_163 (by decide) ?_
                have he := cls_out (X := X) (Y := Y) (n := n) (i := k) ⟨⟨by omega, by omega⟩, by omega, (near3 hs1 hs2 hp1 hp2 hg1 hg2).mpr ⟨c_54, c_82⟩⟩
                exact ih_18 (t - 1) mm (k + 1) gx gy ls _ _ (by omega) (by omega) (by omega) (by rw [he]; exact hm_) (by rw [he, ht]) (by rw [he]; exact inW_out a1) (by rw [he]; exact inW_out a2) (lv_sub hl [3, 4, 5, 1, 6, 0] rfl) hP hD hS
  exact L18 ((n - 1) + 1) n 1 1 fx fy ls _ _ (Nat.lt_succ_self _) (by omega) (by omega) (by rw [cls_1]) (by rw [cls_1]) (⟨fun j hj => by rw [cls_1]; dsimp only; rw [show j = 0 by omega, pk_us]; exact hX 0 (by omega), fun j _ hj => hX j hj, fun _ _ => rfl⟩) (⟨fun j hj => by rw [cls_1]; dsimp only; rw [show j = 0 by omega, pk_us]; exact hY 0 (by omega), fun j _ hj => hY j hj, fun _ _ => rfl⟩) (lv_sub hl [4, 5, 3, 2, 1, 0] rfl) hP hD hS

