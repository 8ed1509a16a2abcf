abbrev rm_X9_thrown : Room := { frames := 0, cells := 0, slots := 0, locals := 0 }
theorem i_X9_thrown_X9 : ∀ w ∈ wsX90, w ∈ wsX9_thrown := by decide +kernel
theorem k_X9_thrown_f1 : Cond.fieldLink RX9 1 (TX9 0).1 (TX9 0).2.1 (TX9 0).2.2.1 ∈ wsX9_thrown := by decide +kernel
set_option maxHeartbeats 4000000 in
set_option maxRecDepth 100000 in
theorem c_X9_thrown (l : Launch) (g : gT) (mo : Nat) (th : Int32) (zt : Nat) (tn : Nat) (sz : Nat) (zx : Nat) (zy : Nat) (zm : Nat) (zb : Nat) (rt : Int32) (w0 : Int32) (w1 : Int32) (w2 : Int32) (lg : Int32) (nr : Int32) (yr : Nat) (va : Nat) (vb : Nat) (vc : Nat) (vd : Nat) (qa : Nat) (qb : Nat) (qc : Nat) (ln : Nat) (sa : Nat) (sb : Nat) (sc : Nat) (sd : Nat) (se : Nat) (pn : Nat) (ma : Nat) (mb : Nat) (mc : Nat) (rv : Nat) (mn : Nat) (tol : Int32) (rn : Nat)  : CtI l g yX9_thrown wsX9_thrown rm_X9_thrown [.ref mo] [gO mo 9 [.int th, .ref zt, .int (nI tn), .int (nI sz), .ref zx, .ref zy, .ref zm, .ref zb, .int rt, .int w0, .int w1, .int w2, .int lg, .int nr, .int (nI yr), .ref va, .ref vb, .ref vc, .ref vd, .ref qa, .ref qb, .ref qc, .int (nI ln), .ref sa, .ref sb, .ref sc, .ref sd, .ref se, .int (nI pn), .ref ma, .ref mb, .ref mc, .ref rv, .int (nI mn), .int tol, .int (nI rn)]] (fun (r : Int32) (_ : Unit) => r = th) (fun (_ : Unit) => [gO mo 9 [.int th, .ref zt, .int (nI tn), .int (nI sz), .ref zx, .ref zy, .ref zm, .ref zb, .int rt, .int w0, .int w1, .int w2, .int lg, .int nr, .int (nI yr), .ref va, .ref vb, .ref vc, .ref vd, .ref qa, .ref qb, .ref qc, .int (nI ln), .ref sa, .ref sb, .ref sc, .ref sd, .ref se, .int (nI pn), .ref ma, .ref mb, .ref mc, .ref rv, .int (nI mn), .int tol, .int (nI rn)]]) := by
  refine CtI.of (cc := cX9_thrown) (maxL := 1) (ret := .int) (by decide) rfl (Nat.le_of_ble_eq_true rfl) ?_
  intro p e s m args below meth c A Q hnm F hK hA hP hD hS hret ls hl
  have hx := F.1
  have hb := F.2.1
  have hl : lv_has ls 1 [(0, .ref mo)] := hl
  refine lv_aload_n hx hb dX9_thrown_0 rfl (lv_at hl 0 rfl) ?_
  refine g_get (C := RX9) (T := TX9) (N := 36) F hK hP i_X9_thrown_X9 0 rfl rfl 0 (by decide) k_X9_thrown_f1 (v := .int th) rfl dX9_thrown_1 ?_
  exact hret _ _ _ _ th () dX9_thrown_4 rfl (rfl) hP hD hS

abbrev rm_X9_throwsIf : Room := { frames := 0, cells := 0, slots := 0, locals := 0 }
theorem i_X9_throwsIf_X9 : ∀ w ∈ wsX90, w ∈ wsX9_throwsIf := by decide +kernel
theorem k_X9_throwsIf_f1 : Cond.fieldLink RX9 1 (TX9 0).1 (TX9 0).2.1 (TX9 0).2.2.1 ∈ wsX9_throwsIf := by decide +kernel
set_option maxHeartbeats 4000000 in
set_option maxRecDepth 100000 in
theorem c_X9_throwsIf_0 (l : Launch) (g : gT) (mo : Nat) (th : Int32) (zt : Nat) (tn : Nat) (sz : Nat) (zx : Nat) (zy : Nat) (zm : Nat) (zb : Nat) (rt : Int32) (w0 : Int32) (w1 : Int32) (w2 : Int32) (lg : Int32) (nr : Int32) (yr : Nat) (va : Nat) (vb : Nat) (vc : Nat) (vd : Nat) (qa : Nat) (qb : Nat) (qc : Nat) (ln : Nat) (sa : Nat) (sb : Nat) (sc : Nat) (sd : Nat) (se : Nat) (pn : Nat) (ma : Nat) (mb : Nat) (mc : Nat) (rv : Nat) (mn : Nat) (tol : Int32) (rn : Nat)  : CtI l g yX9_throwsIf wsX9_throwsIf rm_X9_throwsIf [.ref mo, .int 0] [gO mo 9 [.int th, .ref zt, .int (nI tn), .int (nI sz), .ref zx, .ref zy, .ref zm, .ref zb, .int rt, .int w0, .int w1, .int w2, .int lg, .int nr, .int (nI yr), .ref va, .ref vb, .ref vc, .ref vd, .ref qa, .ref qb, .ref qc, .int (nI ln), .ref sa, .ref sb, .ref sc, .ref sd, .ref se, .int (nI pn), .ref ma, .ref mb, .ref mc, .ref rv, .int (nI mn), .int tol, .int (nI rn)]] (fun (r : Int32) (_ : Unit) => r = 0) (fun (_ : Unit) => [gO mo 9 [.int 0, .ref zt, .int (nI tn), .int (nI sz), .ref zx, .ref zy, .ref zm, .ref zb, .int rt, .int w0, .int w1, .int w2, .int lg, .int nr, .int (nI yr), .ref va, .ref vb, .ref vc, .ref vd, .ref qa, .ref qb, .ref qc, .int (nI ln), .ref sa, .ref sb, .ref sc, .ref sd, .ref se, .int (nI pn), .ref ma, .ref mb, .ref mc, .ref rv, .int (nI mn), .int tol, .int (nI rn)]]) := by
  refine CtI.of (cc := cX9_throwsIf) (maxL := 2) (ret := .boolean) (by decide) rfl (Nat.le_of_ble_eq_true rfl) ?_
  intro p e s m args below meth c A Q hnm F hK hA hP hD hS hret ls hl
  have hx := F.1
  have hb := F.2.1
  have hl : lv_has ls 2 [(0, .ref mo), (1, .int 0)] := hl
  refine lv_aload_n hx hb dX9_throwsIf_0 rfl (lv_at hl 0 rfl) ?_
  refine lv_iload_n hx hb dX9_throwsIf_1 rfl (lv_at hl 1 rfl) ?_
  refine lv_if_eq (tgt := 9) hx hb dX9_throwsIf_2 (by decide) (fun _ => ?_) (fun h => absurd (by decide) h)
  refine lv_iconst (v := 0) hx hb dX9_throwsIf_9 (by decide) ?_
  refine g_put (C := RX9) (T := TX9) (N := 36) (ws2 := [gO mo 9 [.int 0, .ref zt, .int (nI tn), .int (nI sz), .ref zx, .ref zy, .ref zm, .ref zb, .int rt, .int w0, .int w1, .int w2, .int lg, .int nr, .int (nI yr), .ref va, .ref vb, .ref vc, .ref vd, .ref qa, .ref qb, .ref qc, .int (nI ln), .ref sa, .ref sb, .ref sc, .ref sd, .ref se, .int (nI pn), .ref ma, .ref mb, .ref mc, .ref rv, .int (nI mn), .int tol, .int (nI rn)]]) F hK hP hD hS i_X9_throwsIf_X9 tyX9 tyX9_ok nmX9 0 rfl rfl 0 (by decide) k_X9_throwsIf_f1 rfl (v := .int 0) rfl rfl (Nat.le_of_ble_eq_true rfl) rfl dX9_throwsIf_10 (fun H locs hP hD hS => ?_)
  refine lv_iload_n hx hb dX9_throwsIf_13 rfl (lv_at hl 1 rfl) ?_
  exact hret _ _ _ _ 0 () dX9_throwsIf_14 rfl (rfl) hP hD hS

set_option maxHeartbeats 4000000 in
set_option maxRecDepth 100000 in
theorem c_X9_throwsIf_1 (l : Launch) (g : gT) (mo : Nat) (th : Int32) (zt : Nat) (tn : Nat) (sz : Nat) (zx : Nat) (zy : Nat) (zm : Nat) (zb : Nat) (rt : Int32) (w0 : Int32) (w1 : Int32) (w2 : Int32) (lg : Int32) (nr : Int32) (yr : Nat) (va : Nat) (vb : Nat) (vc : Nat) (vd : Nat) (qa : Nat) (qb : Nat) (qc : Nat) (ln : Nat) (sa : Nat) (sb : Nat) (sc : Nat) (sd : Nat) (se : Nat) (pn : Nat) (ma : Nat) (mb : Nat) (mc : Nat) (rv : Nat) (mn : Nat) (tol : Int32) (rn : Nat)  : CtI l g yX9_throwsIf wsX9_throwsIf rm_X9_throwsIf [.ref mo, .int 1] [gO mo 9 [.int th, .ref zt, .int (nI tn), .int (nI sz), .ref zx, .ref zy, .ref zm, .ref zb, .int rt, .int w0, .int w1, .int w2, .int lg, .int nr, .int (nI yr), .ref va, .ref vb, .ref vc, .ref vd, .ref qa, .ref qb, .ref qc, .int (nI ln), .ref sa, .ref sb, .ref sc, .ref sd, .ref se, .int (nI pn), .ref ma, .ref mb, .ref mc, .ref rv, .int (nI mn), .int tol, .int (nI rn)]] (fun (r : Int32) (_ : Unit) => r = 1) (fun (_ : Unit) => [gO mo 9 [.int 1, .ref zt, .int (nI tn), .int (nI sz), .ref zx, .ref zy, .ref zm, .ref zb, .int rt, .int w0, .int w1, .int w2, .int lg, .int nr, .int (nI yr), .ref va, .ref vb, .ref vc, .ref vd, .ref qa, .ref qb, .ref qc, .int (nI ln), .ref sa, .ref sb, .ref sc, .ref sd, .ref se, .int (nI pn), .ref ma, .ref mb, .ref mc, .ref rv, .int (nI mn), .int tol, .int (nI rn)]]) := by
  refine CtI.of (cc := cX9_throwsIf) (maxL := 2) (ret := .boolean) (by decide) rfl (Nat.le_of_ble_eq_true rfl) ?_
  intro p e s m args below meth c A Q hnm F hK hA hP hD hS hret ls hl
  have hx := F.1
  have hb := F.2.1
  have hl : lv_has ls 2 [(0, .ref mo), (1, .int 1)] := hl
  refine lv_aload_n hx hb dX9_throwsIf_0 rfl (lv_at hl 0 rfl) ?_
  refine lv_iload_n hx hb dX9_throwsIf_1 rfl (lv_at hl 1 rfl) ?_
  refine lv_if_eq (tgt := 9) hx hb dX9_throwsIf_2 (by decide) (fun h => absurd h (by decide)) (fun _ => ?_)
  refine lv_iconst (v := 1) hx hb dX9_throwsIf_5 (by decide) ?_
  refine lv_goto (tgt := 10) hx hb dX9_throwsIf_6 (by decide) ?_
  refine g_put (C := RX9) (T := TX9) (N := 36) (ws2 := [gO mo 9 [.int 1, .ref zt, .int (nI tn), .int (nI sz), .ref zx, .ref zy, .ref zm, .ref zb, .int rt, .int w0, .int w1, .int w2, .int lg, .int nr, .int (nI yr), .ref va, .ref vb, .ref vc, .ref vd, .ref qa, .ref qb, .ref qc, .int (nI ln), .ref sa, .ref sb, .ref sc, .ref sd, .ref se, .int (nI pn), .ref ma, .ref mb, .ref mc, .ref rv, .int (nI mn), .int tol, .int (nI rn)]]) F hK hP hD hS i_X9_throwsIf_X9 tyX9 tyX9_ok nmX9 0 rfl rfl 0 (by decide) k_X9_throwsIf_f1 rfl (v := .int 1) rfl rfl (Nat.le_of_ble_eq_true rfl) rfl dX9_throwsIf_10 (fun H locs hP hD hS => ?_)
  refine lv_iload_n hx hb dX9_throwsIf_13 rfl (lv_at hl 1 rfl) ?_
  exact hret _ _ _ _ 1 () dX9_throwsIf_14 rfl (rfl) hP hD hS

theorem fa_or (a b : Nat) : nI a ||| nI b = nI (a ||| b) := by
  apply Int32.toBitVec_inj.1
  show BitVec.ofNat 32 a ||| BitVec.ofNat 32 b = BitVec.ofNat 32 (a ||| b)
  apply BitVec.eq_of_getLsbD_eq
  intro i hi
  simp [hi]
theorem fa_or_sum {a k : Nat} (b : Nat) (h : a < 2 ^ k) : nI (2 ^ k * b) ||| nI a = nI (2 ^ k * b + a) := by rw [fa_or, Nat.two_pow_add_eq_or_of_lt h]
theorem fa_byte_low (x : Int32) : (x &&& 255).toInt8 = x.toInt8 := by
  apply Int8.toBitVec_inj.1
  apply BitVec.eq_of_getLsbD_eq
  intro i hi
  have h2 : (255 : Int32).toBitVec.getLsbD i = true := by
    have : ∀ j : Fin 8, (255 : Int32).toBitVec.getLsbD j.val = true := by decide +kernel
    exact this ⟨i, hi⟩
  have h4 : (x &&& 255).toBitVec.getLsbD i = x.toBitVec.getLsbD i := by
    show (x.toBitVec &&& (255 : Int32).toBitVec).getLsbD i = _
    rw [BitVec.getLsbD_and, h2, Bool.and_true]
  have h3 : i < 32 := by omega
  first
    | (show (((x &&& 255).toBitVec).signExtend 8).getLsbD i = (x.toBitVec.signExtend 8).getLsbD i; rw [BitVec.getLsbD_signExtend, BitVec.getLsbD_signExtend, if_pos h3, if_pos h3, h4])
    | (show (((x &&& 255).toBitVec).setWidth 8).getLsbD i = (x.toBitVec.setWidth 8).getLsbD i; rw [BitVec.getLsbD_setWidth, BitVec.getLsbD_setWidth, h4])
    | (simp [hi, h3, h4]; done)
theorem sb_toNat (x : Int32) : (x.toBitVec.toNat : Int) = x.toInt % 4294967296 := by
  have h : x.toInt = if 2 * x.toBitVec.toNat < 2 ^ 32 then (x.toBitVec.toNat : Int) else (x.toBitVec.toNat : Int) - (2 ^ 32 : Nat) := BitVec.toInt_eq_toNat_cond x.toBitVec
  have hl := x.toBitVec.isLt
  split at h <;> omega
theorem sb_shr (v d : Int32) (s : Nat) (hd : (d.toBitVec.smod 32).toNat = s) (hs : s = 0 ∨ s = 8 ∨ s = 16 ∨ s = 24) : (v >>> d).toInt8.toInt32 = (nI (byt v s)).toInt8.toInt32 := by
  have h1 : (v >>> d) &&& 255 = nI (byt v s) := by
    rw [pk_and _ (m := 255) 8 (by decide), byt]
    congr 1
    have a := sb_toNat (v >>> d)
    rw [pk_shr v d s hd, Int.shiftRight_eq_div_pow] at a
    have hl := v.toBitVec.isLt
    have hz : v.toInt = (v.toBitVec.toNat : Int) ∨ v.toInt = (v.toBitVec.toNat : Int) - 4294967296 := by
      have h : v.toInt = if 2 * v.toBitVec.toNat < 2 ^ 32 then (v.toBitVec.toNat : Int) else (v.toBitVec.toNat : Int) - (2 ^ 32 : Nat) := BitVec.toInt_eq_toNat_cond v.toBitVec
      split at h
      · exact Or.inl h
      · right; omega
    generalize (v >>> d).toBitVec.toNat = M at a ⊢
    generalize v.toInt = z at a hz
    generalize v.toBitVec.toNat = N at hz hl ⊢
    rcases hs with rfl | rfl | rfl | rfl
    · rw [show ((2 ^ 0 : Nat) : Int) = 1 from rfl] at a
      rw [show 2 ^ 8 = 256 from rfl, show 2 ^ 0 = 1 from rfl, Nat.div_one]
      rw [Int.ediv_one] at a
      rcases hz with hz | hz <;> omega
    · rw [show ((2 ^ 8 : Nat) : Int) = 256 from rfl] at a
      rw [show 2 ^ 8 = 256 from rfl]
      rcases hz with hz | hz <;> omega
    · rw [show ((2 ^ 16 : Nat) : Int) = 65536 from rfl] at a
      rw [show 2 ^ 8 = 256 from rfl, show 2 ^ 16 = 65536 from rfl]
      rcases hz with hz | hz <;> omega
    · rw [show ((2 ^ 24 : Nat) : Int) = 16777216 from rfl] at a
      rw [show 2 ^ 8 = 256 from rfl, show 2 ^ 24 = 16777216 from rfl]
      rcases hz with hz | hz <;> omega
  rw [← fa_byte_low, h1]
theorem sb_nar (x : Int32) : vp_nar .byte (x.toInt8.toInt32) = x.toInt8.toInt32 := pk_vb x
def sbN (n : Nat) : Int32 := (nI n).toInt8.toInt32
theorem app4_s {T : Nat → Nat} {n : Nat} {v : Int32} {f : Nat → Int32} (h : ∀ k, k < n → f k = (nI (T k)).toInt8.toInt32) : ∀ k, k < n + 4 → upd (upd (upd (upd f n (vp_nar .byte (nI (byt v 24)).toInt8.toInt32)) (n + 1) (vp_nar .byte (nI (byt v 16)).toInt8.toInt32)) (n + 2) (vp_nar .byte (nI (byt v 8)).toInt8.toInt32)) (n + 3) (vp_nar .byte (nI (byt v 0)).toInt8.toInt32) k = (nI (app4 T n v k)).toInt8.toInt32 := by
  intro k hk
  rw [sb_nar, sb_nar, sb_nar, sb_nar, app4]
  by_cases h0 : k < n
  · rw [if_pos h0, pk_un (by omega), pk_un (by omega), pk_un (by omega), pk_un (by omega)]; exact h k h0
  · rw [if_neg h0]
    rcases (show k = n ∨ k = n + 1 ∨ k = n + 2 ∨ k = n + 3 by omega) with rfl | rfl | rfl | rfl
    · rw [pk_un (by omega), pk_un (by omega), pk_un (by omega), pk_us, show 24 - 8 * (k - k) = 24 by omega]
    · rw [pk_un (by omega), pk_un (by omega), pk_us, show 24 - 8 * (n + 1 - n) = 16 by omega]
    · rw [pk_un (by omega), pk_us, show 24 - 8 * (n + 2 - n) = 8 by omega]
    · rw [pk_us, show 24 - 8 * (n + 3 - n) = 0 by omega]
abbrev rm_X9_four : Room := { frames := 0, cells := 0, slots := 0, locals := 0 }
theorem i_X9_four_X9 : ∀ w ∈ wsX90, w ∈ wsX9_four := by decide +kernel
theorem k_X9_four_f14 : Cond.fieldLink RX9 14 (TX9 1).1 (TX9 1).2.1 (TX9 1).2.2.1 ∈ wsX9_four := by decide +kernel
theorem k_X9_four_f7 : Cond.fieldLink RX9 7 (TX9 2).1 (TX9 2).2.1 (TX9 2).2.2.1 ∈ wsX9_four := by decide +kernel
set_option maxHeartbeats 4000000 in
set_option maxRecDepth 100000 in
theorem c_X9_four (l : Launch) (g : gT) (mo : Nat) (th : Int32) (zt : Nat) (tn : Nat) (sz : Nat) (zx : Nat) (zy : Nat) (zm : Nat) (zb : Nat) (rt : Int32) (w0 : Int32) (w1 : Int32) (w2 : Int32) (lg : Int32) (nr : Int32) (yr : Nat) (va : Nat) (vb : Nat) (vc : Nat) (vd : Nat) (qa : Nat) (qb : Nat) (qc : Nat) (ln : Nat) (sa : Nat) (sb : Nat) (sc : Nat) (sd : Nat) (se : Nat) (pn : Nat) (ma : Nat) (mb : Nat) (mc : Nat) (rv : Nat) (mn : Nat) (tol : Int32) (rn : Nat) (ft : Nat → Int32) (T : Nat → Nat) (v : Int32) (htn : tn + 4 ≤ 200) (hT : ∀ k, k < tn → ft k = (nI (T k)).toInt8.toInt32) : CtV l g yX9_four wsX9_four rm_X9_four [.ref mo, .int v] [gO mo 9 [.int th, .ref zt, .int (nI tn), .int (nI sz), .ref zx, .ref zy, .ref zm, .ref zb, .int rt, .int w0, .int w1, .int w2, .int lg, .int nr, .int (nI yr), .ref va, .ref vb, .ref vc, .ref vd, .ref qa, .ref qb, .ref qc, .int (nI ln), .ref sa, .ref sb, .ref sc, .ref sd, .ref se, .int (nI pn), .ref ma, .ref mb, .ref mc, .ref rv, .int (nI mn), .int tol, .int (nI rn)], gB g zt 200 ft] (fun (ft2 : (Nat → Int32)) => ∀ k, k < tn + 4 → ft2 k = (nI (app4 T tn v k)).toInt8.toInt32) (fun (ft2 : (Nat → Int32)) => [gO mo 9 [.int th, .ref zt, .int (nI (tn + 4)), .int (nI sz), .ref zx, .ref zy, .ref zm, .ref zb, .int rt, .int w0, .int w1, .int w2, .int lg, .int nr, .int (nI yr), .ref va, .ref vb, .ref vc, .ref vd, .ref qa, .ref qb, .ref qc, .int (nI ln), .ref sa, .ref sb, .ref sc, .ref sd, .ref se, .int (nI pn), .ref ma, .ref mb, .ref mc, .ref rv, .int (nI mn), .int tol, .int (nI rn)], gB g zt 200 ft2]) := by
  refine CtV.of (cc := cX9_four) (maxL := 3) (by decide) rfl (Nat.le_of_ble_eq_true rfl) ?_
  intro p e s m args below meth c A Q hnm F hK hA hP hD hS hret ls hl
  have hx := F.1
  have hb := F.2.1
  have hl : lv_has ls 3 [(0, .ref mo), (1, .int v)] := hl
  refine lv_bipush (v := 24) hx hb dX9_four_0 (by decide) ?_
  refine lv_istore_n (lv' := [(2, .int 24), (0, .ref mo), (1, .int v)]) hx hb dX9_four_2 rfl hl (by decide) rfl (fun ls hl => ?_)
  refine lv_iload_n hx hb dX9_four_3 rfl (lv_at hl 0 rfl) ?_
  refine lv_if_lt (tgt := 36) hx hb dX9_four_4 (by decide) (fun h => absurd h (by decide)) (fun _ => ?_)
  refine lv_aload_n hx hb dX9_four_7 rfl (lv_at hl 1 rfl) ?_
  refine g_get (C := RX9) (T := TX9) (N := 36) F hK hP i_X9_four_X9 0 rfl rfl 1 (by decide) k_X9_four_f14 (v := .ref zt) rfl dX9_four_8 ?_
  refine lv_aload_n hx hb dX9_four_11 rfl (lv_at hl 1 rfl) ?_
  refine g_get (C := RX9) (T := TX9) (N := 36) F hK hP i_X9_four_X9 0 rfl rfl 2 (by decide) k_X9_four_f7 (v := .int (nI tn)) rfl dX9_four_12 ?_
  refine lv_iload_n hx hb dX9_four_15 rfl (lv_at hl 2 rfl) ?_
  refine lv_iload_n hx hb dX9_four_16 rfl (lv_at hl 0 rfl) ?_
  refine lv_ishr hx hb dX9_four_17 ?_
  refine lv_i2b (v := (v >>> (24 &&& 31)).toInt8.toInt32) hx hb dX9_four_18 rfl ?_
  refine g_eqi (y := ((nI (byt v 24)).toInt8.toInt32)) (sb_shr v (24 &&& 31) 24 (by decide) (by decide)) ?_
  refine g_bast (i := tn) (ws2 := [gO mo 9 [.int th, .ref zt, .int (nI tn), .int (nI sz), .ref zx, .ref zy, .ref zm, .ref zb, .int rt, .int w0, .int w1, .int w2, .int lg, .int nr, .int (nI yr), .ref va, .ref vb, .ref vc, .ref vd, .ref qa, .ref qb, .ref qc, .int (nI ln), .ref sa, .ref sb, .ref sc, .ref sd, .ref se, .int (nI pn), .ref ma, .ref mb, .ref mc, .ref rv, .int (nI mn), .int tol, .int (nI rn)], gB g zt 200 (upd ft tn (vp_nar .byte ((nI (byt v 24)).toInt8.toInt32)))]) hx hb hK hP hD hS 1 rfl (by decide) (by omega) rfl dX9_four_19 (fun H locs hP hD hS => ?_)
  refine lv_aload_n hx hb dX9_four_20 rfl (lv_at hl 1 rfl) ?_
  refine lv_dup hx hb dX9_four_21 rfl ?_
  refine g_get (C := RX9) (T := TX9) (N := 36) F hK hP i_X9_four_X9 0 rfl rfl 2 (by decide) k_X9_four_f7 (v := .int (nI tn)) rfl dX9_four_22 ?_
  refine lv_iconst (v := 1) hx hb dX9_four_25 (by decide) ?_
  refine n_iadd (a := tn) (b := 1) (d := tn + 1) hx hb dX9_four_26 (by omega) ?_
  refine g_put (C := RX9) (T := TX9) (N := 36) (ws2 := [gO mo 9 [.int th, .ref zt, .int (nI (tn + 1)), .int (nI sz), .ref zx, .ref zy, .ref zm, .ref zb, .int rt, .int w0, .int w1, .int w2, .int lg, .int nr, .int (nI yr), .ref va, .ref vb, .ref vc, .ref vd, .ref qa, .ref qb, .ref qc, .int (nI ln), .ref sa, .ref sb, .ref sc, .ref sd, .ref se, .int (nI pn), .ref ma, .ref mb, .ref mc, .ref rv, .int (nI mn), .int tol, .int (nI rn)], gB g zt 200 (upd ft tn (vp_nar .byte ((nI (byt v 24)).toInt8.toInt32)))]) F hK hP hD hS i_X9_four_X9 tyX9 tyX9_ok nmX9 0 rfl rfl 2 (by decide) k_X9_four_f7 rfl (v := .int (nI (tn + 1))) rfl rfl (Nat.le_of_ble_eq_true rfl) rfl dX9_four_27 (fun H locs hP hD hS => ?_)
  refine lv_iinc (v := 16) (lv' := [(2, .int 16), (0, .ref mo), (1, .int v)]) hx hb dX9_four_30 hl (k := 0) rfl (by decide) (by decide) rfl (fun ls hl => ?_)
  refine lv_goto (tgt := 3) hx hb dX9_four_33 (by decide) ?_
  refine lv_iload_n hx hb dX9_four_3 rfl (lv_at hl 0 rfl) ?_
  refine lv_if_lt (tgt := 36) hx hb dX9_four_4 (by decide) (fun h => absurd h (by decide)) (fun _ => ?_)
  refine lv_aload_n hx hb dX9_four_7 rfl (lv_at hl 1 rfl) ?_
  refine g_get (C := RX9) (T := TX9) (N := 36) F hK hP i_X9_four_X9 0 rfl rfl 1 (by decide) k_X9_four_f14 (v := .ref zt) rfl dX9_four_8 ?_
  refine lv_aload_n hx hb dX9_four_11 rfl (lv_at hl 1 rfl) ?_
  refine g_get (C := RX9) (T := TX9) (N := 36) F hK hP i_X9_four_X9 0 rfl rfl 2 (by decide) k_X9_four_f7 (v := .int (nI (tn + 1))) rfl dX9_four_12 ?_
  refine lv_iload_n hx hb dX9_four_15 rfl (lv_at hl 2 rfl) ?_
  refine lv_iload_n hx hb dX9_four_16 rfl (lv_at hl 0 rfl) ?_
  refine lv_ishr hx hb dX9_four_17 ?_
  refine lv_i2b (v := (v >>> (16 &&& 31)).toInt8.toInt32) hx hb dX9_four_18 rfl ?_
  refine g_eqi (y := ((nI (byt v 16)).toInt8.toInt32)) (sb_shr v (16 &&& 31) 16 (by decide) (by decide)) ?_
  refine g_bast (i := tn + 1) (ws2 := [gO mo 9 [.int th, .ref zt, .int (nI (tn + 1)), .int (nI sz), .ref zx, .ref zy, .ref zm, .ref zb, .int rt, .int w0, .int w1, .int w2, .int lg, .int nr, .int (nI yr), .ref va, .ref vb, .ref vc, .ref vd, .ref qa, .ref qb, .ref qc, .int (nI ln), .ref sa, .ref sb, .ref sc, .ref sd, .ref se, .int (nI pn), .ref ma, .ref mb, .ref mc, .ref rv, .int (nI mn), .int tol, .int (nI rn)], gB g zt 200 (upd (upd ft tn (vp_nar .byte ((nI (byt v 24)).toInt8.toInt32))) (tn + 1) (vp_nar .byte ((nI (byt v 16)).toInt8.toInt32)))]) hx hb hK hP hD hS 1 rfl (by decide) (by omega) rfl dX9_four_19 (fun H locs hP hD hS => ?_)
  refine lv_aload_n hx hb dX9_four_20 rfl (lv_at hl 1 rfl) ?_
  refine lv_dup hx hb dX9_four_21 rfl ?_
  refine g_get (C := RX9) (T := TX9) (N := 36) F hK hP i_X9_four_X9 0 rfl rfl 2 (by decide) k_X9_four_f7 (v := .int (nI (tn + 1))) rfl dX9_four_22 ?_
  refine lv_iconst (v := 1) hx hb dX9_four_25 (by decide) ?_
  refine n_iadd (a := tn + 1) (b := 1) (d := tn + 2) hx hb dX9_four_26 (by omega) ?_
  refine g_put (C := RX9) (T := TX9) (N := 36) (ws2 := [gO mo 9 [.int th, .ref zt, .int (nI (tn + 2)), .int (nI sz), .ref zx, .ref zy, .ref zm, .ref zb, .int rt, .int w0, .int w1, .int w2, .int lg, .int nr, .int (nI yr), .ref va, .ref vb, .ref vc, .ref vd, .ref qa, .ref qb, .ref qc, .int (nI ln), .ref sa, .ref sb, .ref sc, .ref sd, .ref se, .int (nI pn), .ref ma, .ref mb, .ref mc, .ref rv, .int (nI mn), .int tol, .int (nI rn)], gB g zt 200 (upd (upd ft tn (vp_nar .byte ((nI (byt v 24)).toInt8.toInt32))) (tn + 1) (vp_nar .byte ((nI (byt v 16)).toInt8.toInt32)))]) F hK hP hD hS i_X9_four_X9 tyX9 tyX9_ok nmX9 0 rfl rfl 2 (by decide) k_X9_four_f7 rfl (v := .int (nI (tn + 2))) rfl rfl (Nat.le_of_ble_eq_true rfl) rfl dX9_four_27 (fun H locs hP hD hS => ?_)
  refine lv_iinc (v := 8) (lv' := [(2, .int 8), (0, .ref mo), (1, .int v)]) hx hb dX9_four_30 hl (k := 0) rfl (by decide) (by decide) rfl (fun ls hl => ?_)
  refine lv_goto (tgt := 3) hx hb dX9_four_33 (by decide) ?_
  refine lv_iload_n hx hb dX9_four_3 rfl (lv_at hl 0 rfl) ?_
  refine lv_if_lt (tgt := 36) hx hb dX9_four_4 (by decide) (fun h => absurd h (by decide)) (fun _ => ?_)
  refine lv_aload_n hx hb dX9_four_7 rfl (lv_at hl 1 rfl) ?_
  refine g_get (C := RX9) (T := TX9) (N := 36) F hK hP i_X9_four_X9 0 rfl rfl 1 (by decide) k_X9_four_f14 (v := .ref zt) rfl dX9_four_8 ?_
  refine lv_aload_n hx hb dX9_four_11 rfl (lv_at hl 1 rfl) ?_
  refine g_get (C := RX9) (T := TX9) (N := 36) F hK hP i_X9_four_X9 0 rfl rfl 2 (by decide) k_X9_four_f7 (v := .int (nI (tn + 2))) rfl dX9_four_12 ?_
  refine lv_iload_n hx hb dX9_four_15 rfl (lv_at hl 2 rfl) ?_
  refine lv_iload_n hx hb dX9_four_16 rfl (lv_at hl 0 rfl) ?_
  refine lv_ishr hx hb dX9_four_17 ?_
  refine lv_i2b (v := (v >>> (8 &&& 31)).toInt8.toInt32) hx hb dX9_four_18 rfl ?_
  refine g_eqi (y := ((nI (byt v 8)).toInt8.toInt32)) (sb_shr v (8 &&& 31) 8 (by decide) (by decide)) ?_
  refine g_bast (i := tn + 2) (ws2 := [gO mo 9 [.int th, .ref zt, .int (nI (tn + 2)), .int (nI sz), .ref zx, .ref zy, .ref zm, .ref zb, .int rt, .int w0, .int w1, .int w2, .int lg, .int nr, .int (nI yr), .ref va, .ref vb, .ref vc, .ref vd, .ref qa, .ref qb, .ref qc, .int (nI ln), .ref sa, .ref sb, .ref sc, .ref sd, .ref se, .int (nI pn), .ref ma, .ref mb, .ref mc, .ref rv, .int (nI mn), .int tol, .int (nI rn)], gB g zt 200 (upd (upd (upd ft tn (vp_nar .byte ((nI (byt v 24)).toInt8.toInt32))) (tn + 1) (vp_nar .byte ((nI (byt v 16)).toInt8.toInt32))) (tn + 2) (vp_nar .byte ((nI (byt v 8)).toInt8.toInt32)))]) hx hb hK hP hD hS 1 rfl (by decide) (by omega) rfl dX9_four_19 (fun H locs hP hD hS => ?_)
  refine lv_aload_n hx hb dX9_four_20 rfl (lv_at hl 1 rfl) ?_
  refine lv_dup hx hb dX9_four_21 rfl ?_
  refine g_get (C := RX9) (T := TX9) (N := 36) F hK hP i_X9_four_X9 0 rfl rfl 2 (by decide) k_X9_four_f7 (v := .int (nI (tn + 2))) rfl dX9_four_22 ?_
  refine lv_iconst (v := 1) hx hb dX9_four_25 (by decide) ?_
  refine n_iadd (a := tn + 2) (b := 1) (d := tn + 3) hx hb dX9_four_26 (by omega) ?_
  refine g_put (C := RX9) (T := TX9) (N := 36) (ws2 := [gO mo 9 [.int th, .ref zt, .int (nI (tn + 3)), .int (nI sz), .ref zx, .ref zy, .ref zm, .ref zb, .int rt, .int w0, .int w1, .int w2, .int lg, .int nr, .int (nI yr), .ref va, .ref vb, .ref vc, .ref vd, .ref qa, .ref qb, .ref qc, .int (nI ln), .ref sa, .ref sb, .ref sc, .ref sd, .ref se, .int (nI pn), .ref ma, .ref mb, .ref mc, .ref rv, .int (nI mn), .int tol, .int (nI rn)], gB g zt 200 (upd (upd (upd ft tn (vp_nar .byte ((nI (byt v 24)).toInt8.toInt32))) (tn + 1) (vp_nar .byte ((nI (byt v 16)).toInt8.toInt32))) (tn + 2) (vp_nar .byte ((nI (byt v 8)).toInt8.toInt32)))]) F hK hP hD hS i_X9_four_X9 tyX9 tyX9_ok nmX9 0 rfl rfl 2 (by decide) k_X9_four_f7 rfl (v := .int (nI (tn + 3))) rfl rfl (Nat.le_of_ble_eq_true rfl) rfl dX9_four_27 (fun H locs hP hD hS => ?_)
  refine lv_iinc (v := 0) (lv' := [(2, .int 0), (0, .ref mo), (1, .int v)]) hx hb dX9_four_30 hl (k := 0) rfl (by decide) (by decide) rfl (fun ls hl => ?_)
  refine lv_goto (tgt := 3) hx hb dX9_four_33 (by decide) ?_
  refine lv_iload_n hx hb dX9_four_3 rfl (lv_at hl 0 rfl) ?_
  refine lv_if_lt (tgt := 36) hx hb dX9_four_4 (by decide) (fun h => absurd h (by decide)) (fun _ => ?_)
  refine lv_aload_n hx hb dX9_four_7 rfl (lv_at hl 1 rfl) ?_
  refine g_get (C := RX9) (T := TX9) (N := 36) F hK hP i_X9_four_X9 0 rfl rfl 1 (by decide) k_X9_four_f14 (v := .ref zt) rfl dX9_four_8 ?_
  refine lv_aload_n hx hb dX9_four_11 rfl (lv_at hl 1 rfl) ?_
  refine g_get (C := RX9) (T := TX9) (N := 36) F hK hP i_X9_four_X9 0 rfl rfl 2 (by decide) k_X9_four_f7 (v := .int (nI (tn + 3))) rfl dX9_four_12 ?_
  refine lv_iload_n hx hb dX9_four_15 rfl (lv_at hl 2 rfl) ?_
  refine lv_iload_n hx hb dX9_four_16 rfl (lv_at hl 0 rfl) ?_
  refine lv_ishr hx hb dX9_four_17 ?_
  refine lv_i2b (v := (v >>> (0 &&& 31)).toInt8.toInt32) hx hb dX9_four_18 rfl ?_
  refine g_eqi (y := ((nI (byt v 0)).toInt8.toInt32)) (sb_shr v (0 &&& 31) 0 (by decide) (by decide)) ?_
  refine g_bast (i := tn + 3) (ws2 := [gO mo 9 [.int th, .ref zt, .int (nI (tn + 3)), .int (nI sz), .ref zx, .ref zy, .ref zm, .ref zb, .int rt, .int w0, .int w1, .int w2, .int lg, .int nr, .int (nI yr), .ref va, .ref vb, .ref vc, .ref vd, .ref qa, .ref qb, .ref qc, .int (nI ln), .ref sa, .ref sb, .ref sc, .ref sd, .ref se, .int (nI pn), .ref ma, .ref mb, .ref mc, .ref rv, .int (nI mn), .int tol, .int (nI rn)], gB g zt 200 (upd (upd (upd (upd ft tn (vp_nar .byte ((nI (byt v 24)).toInt8.toInt32))) (tn + 1) (vp_nar .byte ((nI (byt v 16)).toInt8.toInt32))) (tn + 2) (vp_nar .byte ((nI (byt v 8)).toInt8.toInt32))) (tn + 3) (vp_nar .byte ((nI (byt v 0)).toInt8.toInt32)))]) hx hb hK hP hD hS 1 rfl (by decide) (by omega) rfl dX9_four_19 (fun H locs hP hD hS => ?_)
  refine lv_aload_n hx hb dX9_four_20 rfl (lv_at hl 1 rfl) ?_
  refine lv_dup hx hb dX9_four_21 rfl ?_
  refine g_get (C := RX9) (T := TX9) (N := 36) F hK hP i_X9_four_X9 0 rfl rfl 2 (by decide) k_X9_four_f7 (v := .int (nI (tn + 3))) rfl dX9_four_22 ?_
  refine lv_iconst (v := 1) hx hb dX9_four_25 (by decide) ?_
  refine n_iadd (a := tn + 3) (b := 1) (d := tn + 4) hx hb dX9_four_26 (by omega) ?_
  refine g_put (C := RX9) (T := TX9) (N := 36) (ws2 := [gO mo 9 [.int th, .ref zt, .int (nI (tn + 4)), .int (nI sz), .ref zx, .ref zy, .ref zm, .ref zb, .int rt, .int w0, .int w1, .int w2, .int lg, .int nr, .int (nI yr), .ref va, .ref vb, .ref vc, .ref vd, .ref qa, .ref qb, .ref qc, .int (nI ln), .ref sa, .ref sb, .ref sc, .ref sd, .ref se, .int (nI pn), .ref ma, .ref mb, .ref mc, .ref rv, .int (nI mn), .int tol, .int (nI rn)], gB g zt 200 (upd (upd (upd (upd ft tn (vp_nar .byte ((nI (byt v 24)).toInt8.toInt32))) (tn + 1) (vp_nar .byte ((nI (byt v 16)).toInt8.toInt32))) (tn + 2) (vp_nar .byte ((nI (byt v 8)).toInt8.toInt32))) (tn + 3) (vp_nar .byte ((nI (byt v 0)).toInt8.toInt32)))]) F hK hP hD hS i_X9_four_X9 tyX9 tyX9_ok nmX9 0 rfl rfl 2 (by decide) k_X9_four_f7 rfl (v := .int (nI (tn + 4))) rfl rfl (Nat.le_of_ble_eq_true rfl) rfl dX9_four_27 (fun H locs hP hD hS => ?_)
  refine lv_iinc (v := (-8)) (lv' := [(2, .int (-8)), (0, .ref mo), (1, .int v)]) hx hb dX9_four_30 hl (k := 0) rfl (by decide) (by decide) rfl (fun ls hl => ?_)
  refine lv_goto (tgt := 3) hx hb dX9_four_33 (by decide) ?_
  refine lv_iload_n hx hb dX9_four_3 rfl (lv_at hl 0 rfl) ?_
  refine lv_if_lt (tgt := 36) hx hb dX9_four_4 (by decide) (fun _ => ?_) (fun h => absurd (by decide) h)
  exact hret _ _ _ _ (upd (upd (upd (upd ft tn (vp_nar .byte ((nI (byt v 24)).toInt8.toInt32))) (tn + 1) (vp_nar .byte ((nI (byt v 16)).toInt8.toInt32))) (tn + 2) (vp_nar .byte ((nI (byt v 8)).toInt8.toInt32))) (tn + 3) (vp_nar .byte ((nI (byt v 0)).toInt8.toInt32))) dX9_four_36 (app4_s hT) hP hD hS

abbrev rm_X9_feed : Room := { frames := 1, cells := 0, slots := 0, locals := 22 }
theorem i_X9_feed_X9 : ∀ w ∈ wsX90, w ∈ wsX9_feed := by decide +kernel
theorem k_X9_feed_f1 : Cond.fieldLink RX9 1 (TX9 0).1 (TX9 0).2.1 (TX9 0).2.2.1 ∈ wsX9_feed := by decide +kernel
theorem k_X9_feed_f7 : Cond.fieldLink RX9 7 (TX9 2).1 (TX9 2).2.1 (TX9 2).2.2.1 ∈ wsX9_feed := by decide +kernel
set_option maxHeartbeats 4000000 in
set_option maxRecDepth 100000 in
theorem c_X9_feed_n (l : Launch) (g : gT) (mo : Nat) (th : Int32) (zt : Nat) (tn : Nat) (sz : Nat) (zx : Nat) (zy : Nat) (zm : Nat) (zb : Nat) (rt : Int32) (w0 : Int32) (w1 : Int32) (w2 : Int32) (lg : Int32) (nr : Int32) (yr : Nat) (va : Nat) (vb : Nat) (vc : Nat) (vd : Nat) (qa : Nat) (qb : Nat) (qc : Nat) (ln : Nat) (sa : Nat) (sb : Nat) (sc : Nat) (sd : Nat) (se : Nat) (pn : Nat) (ma : Nat) (mb : Nat) (mc : Nat) (rv : Nat) (mn : Nat) (tol : Int32) (rn : Nat) (a1 : Int32) (a2 : Int32) (a3 : Int32) (a4 : Int32) (a5 : Int32) (htn : tn ≤ 200) (h : 180 < tn) : CtI l g yX9_feed wsX9_feed rm_X9_feed [.ref mo, .int a1, .int a2, .int a3, .int a4, .int a5] [gO mo 9 [.int th, .ref zt, .int (nI tn), .int (nI sz), .ref zx, .ref zy, .ref zm, .ref zb, .int rt, .int w0, .int w1, .int w2, .int lg, .int nr, .int (nI yr), .ref va, .ref vb, .ref vc, .ref vd, .ref qa, .ref qb, .ref qc, .int (nI ln), .ref sa, .ref sb, .ref sc, .ref sd, .ref se, .int (nI pn), .ref ma, .ref mb, .ref mc, .ref rv, .int (nI mn), .int tol, .int (nI rn)]] (fun (r : Int32) (_ : Unit) => r = -1) (fun (_ : Unit) => [gO mo 9 [.int 0, .ref zt, .int (nI tn), .int (nI sz), .ref zx, .ref zy, .ref zm, .ref zb, .int rt, .int w0, .int w1, .int w2, .int lg, .int nr, .int (nI yr), .ref va, .ref vb, .ref vc, .ref vd, .ref qa, .ref qb, .ref qc, .int (nI ln), .ref sa, .ref sb, .ref sc, .ref sd, .ref se, .int (nI pn), .ref ma, .ref mb, .ref mc, .ref rv, .int (nI mn), .int tol, .int (nI rn)]]) := by
  refine CtI.of (cc := cX9_feed) (maxL := 6) (ret := .int) (by decide) rfl (Nat.le_of_ble_eq_true rfl) ?_
  intro p e s m args below meth c A Q hnm F hK hA hP hD hS hret ls hl
  have hx := F.1
  have hb := F.2.1
  have hl : lv_has ls 6 [(0, .ref mo), (1, .int a1), (2, .int a2), (3, .int a3), (4, .int a4), (5, .int a5)] := hl
  refine lv_aload_n hx hb dX9_feed_0 rfl (lv_at hl 0 rfl) ?_
  refine lv_iconst (v := 0) hx hb dX9_feed_1 (by decide) ?_
  refine g_put (C := RX9) (T := TX9) (N := 36) (ws2 := [gO mo 9 [.int 0, .ref zt, .int (nI tn), .int (nI sz), .ref zx, .ref zy, .ref zm, .ref zb, .int rt, .int w0, .int w1, .int w2, .int lg, .int nr, .int (nI yr), .ref va, .ref vb, .ref vc, .ref vd, .ref qa, .ref qb, .ref qc, .int (nI ln), .ref sa, .ref sb, .ref sc, .ref sd, .ref se, .int (nI pn), .ref ma, .ref mb, .ref mc, .ref rv, .int (nI mn), .int tol, .int (nI rn)]]) F hK hP hD hS i_X9_feed_X9 tyX9 tyX9_ok nmX9 0 rfl rfl 0 (by decide) k_X9_feed_f1 rfl (v := .int 0) rfl rfl (Nat.le_of_ble_eq_true rfl) rfl dX9_feed_2 (fun H locs hP hD hS => ?_)
  refine lv_aload_n hx hb dX9_feed_5 rfl (lv_at hl 0 rfl) ?_
  refine g_get (C := RX9) (T := TX9) (N := 36) F hK hP i_X9_feed_X9 0 rfl rfl 2 (by decide) k_X9_feed_f7 (v := .int (nI tn)) rfl dX9_feed_6 ?_
  refine lv_bipush (v := 20) hx hb dX9_feed_9 (by decide) ?_
  refine n_iadd (a := tn) (b := 20) (d := tn + 20) hx hb dX9_feed_11 (by omega) ?_
  refine lv_sipush (v := 200) hx hb dX9_feed_12 (by decide) ?_
  refine n_icmp_le (a := tn + 20) (b := 200) (tgt := 20) hx hb dX9_feed_15 (by decide) (by omega) (by omega) (fun h => absurd h (by omega)) (fun c_15 => ?_)
  refine lv_iconst (v := (-1)) hx hb dX9_feed_18 (by decide) ?_
  exact hret _ _ _ _ (-1) () dX9_feed_19 rfl (rfl) hP hD hS

set_option maxHeartbeats 4000000 in
set_option maxRecDepth 100000 in
theorem c_X9_feed_y (l : Launch) (g : gT) (mo : Nat) (th : Int32) (zt : Nat) (tn : Nat) (sz : Nat) (zx : Nat) (zy : Nat) (zm : Nat) (zb : Nat) (rt : Int32) (w0 : Int32) (w1 : Int32) (w2 : Int32) (lg : Int32) (nr : Int32) (yr : Nat) (va : Nat) (vb : Nat) (vc : Nat) (vd : Nat) (qa : Nat) (qb : Nat) (qc : Nat) (ln : Nat) (sa : Nat) (sb : Nat) (sc : Nat) (sd : Nat) (se : Nat) (pn : Nat) (ma : Nat) (mb : Nat) (mc : Nat) (rv : Nat) (mn : Nat) (tol : Int32) (rn : Nat) (ft : Nat → Int32) (T : Nat → Nat) (a1 : Int32) (a2 : Int32) (a3 : Int32) (a4 : Int32) (a5 : Int32) (htn : tn ≤ 200) (hT : ∀ k, k < tn → ft k = (nI (T k)).toInt8.toInt32) (h256 : ∀ k, T k < 256) (h : tn ≤ 180) : CtI l g yX9_feed wsX9_feed rm_X9_feed [.ref mo, .int a1, .int a2, .int a3, .int a4, .int a5] [gO mo 9 [.int th, .ref zt, .int (nI tn), .int (nI sz), .ref zx, .ref zy, .ref zm, .ref zb, .int rt, .int w0, .int w1, .int w2, .int lg, .int nr, .int (nI yr), .ref va, .ref vb, .ref vc, .ref vd, .ref qa, .ref qb, .ref qc, .int (nI ln), .ref sa, .ref sb, .ref sc, .ref sd, .ref se, .int (nI pn), .ref ma, .ref mb, .ref mc, .ref rv, .int (nI mn), .int tol, .int (nI rn)], gB g zt 200 ft] (fun (r : Int32) (ft2 : (Nat → Int32)) => r = nI (tn + 20) ∧ (∀ k, k < tn + 20 → ft2 k = (nI (app20 T tn a1 a2 a3 a4 a5 k)).toInt8.toInt32)) (fun (ft2 : (Nat → Int32)) => [gO mo 9 [.int 0, .ref zt, .int (nI (tn + 20)), .int (nI sz), .ref zx, .ref zy, .ref zm, .ref zb, .int rt, .int w0, .int w1, .int w2, .int lg, .int nr, .int (nI yr), .ref va, .ref vb, .ref vc, .ref vd, .ref qa, .ref qb, .ref qc, .int (nI ln), .ref sa, .ref sb, .ref sc, .ref sd, .ref se, .int (nI pn), .ref ma, .ref mb, .ref mc, .ref rv, .int (nI mn), .int tol, .int (nI rn)], gB g zt 200 ft2]) := by
  refine CtI.of (cc := cX9_feed) (maxL := 6) (ret := .int) (by decide) rfl (Nat.le_of_ble_eq_true rfl) ?_
  intro p e s m args below meth c A Q hnm F hK hA hP hD hS hret ls hl
  have hx := F.1
  have hb := F.2.1
  have hl : lv_has ls 6 [(0, .ref mo), (1, .int a1), (2, .int a2), (3, .int a3), (4, .int a4), (5, .int a5)] := hl
  refine lv_aload_n hx hb dX9_feed_0 rfl (lv_at hl 0 rfl) ?_
  refine lv_iconst (v := 0) hx hb dX9_feed_1 (by decide) ?_
  refine g_put (C := RX9) (T := TX9) (N := 36) (ws2 := [gO mo 9 [.int 0, .ref zt, .int (nI tn), .int (nI sz), .ref zx, .ref zy, .ref zm, .ref zb, .int rt, .int w0, .int w1, .int w2, .int lg, .int nr, .int (nI yr), .ref va, .ref vb, .ref vc, .ref vd, .ref qa, .ref qb, .ref qc, .int (nI ln), .ref sa, .ref sb, .ref sc, .ref sd, .ref se, .int (nI pn), .ref ma, .ref mb, .ref mc, .ref rv, .int (nI mn), .int tol, .int (nI rn)], gB g zt 200 ft]) F hK hP hD hS i_X9_feed_X9 tyX9 tyX9_ok nmX9 0 rfl rfl 0 (by decide) k_X9_feed_f1 rfl (v := .int 0) rfl rfl (Nat.le_of_ble_eq_true rfl) rfl dX9_feed_2 (fun H locs hP hD hS => ?_)
  refine lv_aload_n hx hb dX9_feed_5 rfl (lv_at hl 0 rfl) ?_
  refine g_get (C := RX9) (T := TX9) (N := 36) F hK hP i_X9_feed_X9 0 rfl rfl 2 (by decide) k_X9_feed_f7 (v := .int (nI tn)) rfl dX9_feed_6 ?_
  refine lv_bipush (v := 20) hx hb dX9_feed_9 (by decide) ?_
  refine n_iadd (a := tn) (b := 20) (d := tn + 20) hx hb dX9_feed_11 (by omega) ?_
  refine lv_sipush (v := 200) hx hb dX9_feed_12 (by decide) ?_
  refine n_icmp_le (a := tn + 20) (b := 200) (tgt := 20) hx hb dX9_feed_15 (by decide) (by omega) (by omega) (fun c_15 => ?_) (fun h => absurd h (by omega))
  refine lv_aload_n hx hb dX9_feed_20 rfl (lv_at hl 0 rfl) ?_
  refine lv_iload_n hx hb dX9_feed_21 rfl (lv_at hl 1 rfl) ?_
  refine g_VV (wr := []) (As := [.int a1]) (rest := []) (n := 1) F (c_X9_four l g mo 0 zt tn sz zx zy zm zb rt w0 w1 w2 lg nr yr va vb vc vd qa qb qc ln sa sb sc sd se pn ma mb mc rv mn tol rn ft T a1 (by omega) (hT)) gX9_feed_X9_four rfl (by decide) ⟨by decide, by decide⟩ 0 9 rfl rfl rfl rfl hl.1 rfl (Nat.le_of_ble_eq_true rfl) dX9_feed_22 ⟨Nat.le_of_ble_eq_true rfl, Nat.le_of_ble_eq_true rfl⟩ hK hP hD hS hA [0, 1] [] (by decide) rfl rfl (by decide) (by decide) (fun u_22 H locs hw_22 hP hD hS => ?_)
  obtain ⟨ft2_22, rfl⟩ : ∃ z, z = u_22 := ⟨_, rfl⟩
  have hP : gP g [gO mo 9 [.int 0, .ref zt, .int (nI (tn + 4)), .int (nI sz), .ref zx, .ref zy, .ref zm, .ref zb, .int rt, .int w0, .int w1, .int w2, .int lg, .int nr, .int (nI yr), .ref va, .ref vb, .ref vc, .ref vd, .ref qa, .ref qb, .ref qc, .int (nI ln), .ref sa, .ref sb, .ref sc, .ref sd, .ref se, .int (nI pn), .ref ma, .ref mb, .ref mc, .ref rv, .int (nI mn), .int tol, .int (nI rn)], gB g zt 200 ft2_22] H := hP
  have hD : va_D A [gO mo 9 [.int 0, .ref zt, .int (nI (tn + 4)), .int (nI sz), .ref zx, .ref zy, .ref zm, .ref zb, .int rt, .int w0, .int w1, .int w2, .int lg, .int nr, .int (nI yr), .ref va, .ref vb, .ref vc, .ref vd, .ref qa, .ref qb, .ref qc, .int (nI ln), .ref sa, .ref sb, .ref sc, .ref sd, .ref se, .int (nI pn), .ref ma, .ref mb, .ref mc, .ref rv, .int (nI mn), .int tol, .int (nI rn)], gB g zt 200 ft2_22] := hD
  try dsimp only at hw_22
  have hT2_22 := hw_22
  refine lv_aload_n hx hb dX9_feed_25 rfl (lv_at hl 0 rfl) ?_
  refine lv_iload_n hx hb dX9_feed_26 rfl (lv_at hl 2 rfl) ?_
  refine g_VV (wr := []) (As := [.int a2]) (rest := []) (n := 1) F (c_X9_four l g mo 0 zt (tn + 4) sz zx zy zm zb rt w0 w1 w2 lg nr yr va vb vc vd qa qb qc ln sa sb sc sd se pn ma mb mc rv mn tol rn ft2_22 (app4 T tn a1) a2 (by omega) (hT2_22)) gX9_feed_X9_four rfl (by decide) ⟨by decide, by decide⟩ 0 9 rfl rfl rfl rfl hl.1 rfl (Nat.le_of_ble_eq_true rfl) dX9_feed_27 ⟨Nat.le_of_ble_eq_true rfl, Nat.le_of_ble_eq_true rfl⟩ hK hP hD hS hA [0, 1] [] (by decide) rfl rfl (by decide) (by decide) (fun u_27 H locs hw_27 hP hD hS => ?_)
  obtain ⟨ft2_27, rfl⟩ : ∃ z, z = u_27 := ⟨_, rfl⟩
  have hP : gP g [gO mo 9 [.int 0, .ref zt, .int (nI ((tn + 4) + 4)), .int (nI sz), .ref zx, .ref zy, .ref zm, .ref zb, .int rt, .int w0, .int w1, .int w2, .int lg, .int nr, .int (nI yr), .ref va, .ref vb, .ref vc, .ref vd, .ref qa, .ref qb, .ref qc, .int (nI ln), .ref sa, .ref sb, .ref sc, .ref sd, .ref se, .int (nI pn), .ref ma, .ref mb, .ref mc, .ref rv, .int (nI mn), .int tol, .int (nI rn)], gB g zt 200 ft2_27] H := hP
  have hD : va_D A [gO mo 9 [.int 0, .ref zt, .int (nI ((tn + 4) + 4)), .int (nI sz), .ref zx, .ref zy, .ref zm, .ref zb, .int rt, .int w0, .int w1, .int w2, .int lg, .int nr, .int (nI yr), .ref va, .ref vb, .ref vc, .ref vd, .ref qa, .ref qb, .ref qc, .int (nI ln), .ref sa, .ref sb, .ref sc, .ref sd, .ref se, .int (nI pn), .ref ma, .ref mb, .ref mc, .ref rv, .int (nI mn), .int tol, .int (nI rn)], gB g zt 200 ft2_27] := hD
  try dsimp only at hw_27
  have hT2_27 := hw_27
  refine lv_aload_n hx hb dX9_feed_30 rfl (lv_at hl 0 rfl) ?_
  refine lv_iload_n hx hb dX9_feed_31 rfl (lv_at hl 3 rfl) ?_
  refine g_VV (wr := []) (As := [.int a3]) (rest := []) (n := 1) F (c_X9_four l g mo 0 zt ((tn + 4) + 4) sz zx zy zm zb rt w0 w1 w2 lg nr yr va vb vc vd qa qb qc ln sa sb sc sd se pn ma mb mc rv mn tol rn ft2_27 (app4 (app4 T tn a1) (tn + 4) a2) a3 (by omega) (hT2_27)) gX9_feed_X9_four rfl (by decide) ⟨by decide, by decide⟩ 0 9 rfl rfl rfl rfl hl.1 rfl (Nat.le_of_ble_eq_true rfl) dX9_feed_32 ⟨Nat.le_of_ble_eq_true rfl, Nat.le_of_ble_eq_true rfl⟩ hK hP hD hS hA [0, 1] [] (by decide) rfl rfl (by decide) (by decide) (fun u_32 H locs hw_32 hP hD hS => ?_)
  obtain ⟨ft2_32, rfl⟩ : ∃ z, z = u_32 := ⟨_, rfl⟩
  have hP : gP g [gO mo 9 [.int 0, .ref zt, .int (nI (((tn + 4) + 4) + 4)), .int (nI sz), .ref zx, .ref zy, .ref zm, .ref zb, .int rt, .int w0, .int w1, .int w2, .int lg, .int nr, .int (nI yr), .ref va, .ref vb, .ref vc, .ref vd, .ref qa, .ref qb, .ref qc, .int (nI ln), .ref sa, .ref sb, .ref sc, .ref sd, .ref se, .int (nI pn), .ref ma, .ref mb, .ref mc, .ref rv, .int (nI mn), .int tol, .int (nI rn)], gB g zt 200 ft2_32] H := hP
  have hD : va_D A [gO mo 9 [.int 0, .ref zt, .int (nI (((tn + 4) + 4) + 4)), .int (nI sz), .ref zx, .ref zy, .ref zm, .ref zb, .int rt, .int w0, .int w1, .int w2, .int lg, .int nr, .int (nI yr), .ref va, .ref vb, .ref vc, .ref vd, .ref qa, .ref qb, .ref qc, .int (nI ln), .ref sa, .ref sb, .ref sc, .ref sd, .ref se, .int (nI pn), .ref ma, .ref mb, .ref mc, .ref rv, .int (nI mn), .int tol, .int (nI rn)], gB g zt 200 ft2_32] := hD
  try dsimp only at hw_32
  have hT2_32 := hw_32
  refine lv_aload_n hx hb dX9_feed_35 rfl (lv_at hl 0 rfl) ?_
  refine lv_iload hx hb dX9_feed_36 (lv_at hl 4 rfl) ?_
  refine g_VV (wr := []) (As := [.int a4]) (rest := []) (n := 1) F (c_X9_four l g mo 0 zt (((tn + 4) + 4) + 4) sz zx zy zm zb rt w0 w1 w2 lg nr yr va vb vc vd qa qb qc ln sa sb sc sd se pn ma mb mc rv mn tol rn ft2_32 (app4 (app4 (app4 T tn a1) (tn + 4) a2) (tn + 8) a3) a4 (by omega) (hT2_32)) gX9_feed_X9_four rfl (by decide) ⟨by decide, by decide⟩ 0 9 rfl rfl rfl rfl hl.1 rfl (Nat.le_of_ble_eq_true rfl) dX9_feed_38 ⟨Nat.le_of_ble_eq_true rfl, Nat.le_of_ble_eq_true rfl⟩ hK hP hD hS hA [0, 1] [] (by decide) rfl rfl (by decide) (by decide) (fun u_38 H locs hw_38 hP hD hS => ?_)
  obtain ⟨ft2_38, rfl⟩ : ∃ z, z = u_38 := ⟨_, rfl⟩
  have hP : gP g [gO mo 9 [.int 0, .ref zt, .int (nI ((((tn + 4) + 4) + 4) + 4)), .int (nI sz), .ref zx, .ref zy, .ref zm, .ref zb, .int rt, .int w0, .int w1, .int w2, .int lg, .int nr, .int (nI yr), .ref va, .ref vb, .ref vc, .ref vd, .ref qa, .ref qb, .ref qc, .int (nI ln), .ref sa, .ref sb, .ref sc, .ref sd, .ref se, .int (nI pn), .ref ma, .ref mb, .ref mc, .ref rv, .int (nI mn), .int tol, .int (nI rn)], gB g zt 200 ft2_38] H := hP
  have hD : va_D A [gO mo 9 [.int 0, .ref zt, .int (nI ((((tn + 4) + 4) + 4) + 4)), .int (nI sz), .ref zx, .ref zy, .ref zm, .ref zb, .int rt, .int w0, .int w1, .int w2, .int lg, .int nr, .int (nI yr), .ref va, .ref vb, .ref vc, .ref vd, .ref qa, .ref qb, .ref qc, .int (nI ln), .ref sa, .ref sb, .ref sc, .ref sd, .ref se, .int (nI pn), .ref ma, .ref mb, .ref mc, .ref rv, .int (nI mn), .int tol, .int (nI rn)], gB g zt 200 ft2_38] := hD
  try dsimp only at hw_38
  have hT2_38 := hw_38
  refine lv_aload_n hx hb dX9_feed_41 rfl (lv_at hl 0 rfl) ?_
  refine lv_iload hx hb dX9_feed_42 (lv_at hl 5 rfl) ?_
  refine g_VV (wr := []) (As := [.int a5]) (rest := []) (n := 1) F (c_X9_four l g mo 0 zt ((((tn + 4) + 4) + 4) + 4) sz zx zy zm zb rt w0 w1 w2 lg nr yr va vb vc vd qa qb qc ln sa sb sc sd se pn ma mb mc rv mn tol rn ft2_38 (app4 (app4 (app4 (app4 T tn a1) (tn + 4) a2) (tn + 8) a3) (tn + 12) a4) a5 (by omega) (hT2_38)) gX9_feed_X9_four rfl (by decide) ⟨by decide, by decide⟩ 0 9 rfl rfl rfl rfl hl.1 rfl (Nat.le_of_ble_eq_true rfl) dX9_feed_44 ⟨Nat.le_of_ble_eq_true rfl, Nat.le_of_ble_eq_true rfl⟩ hK hP hD hS hA [0, 1] [] (by decide) rfl rfl (by decide) (by decide) (fun u_44 H locs hw_44 hP hD hS => ?_)
  obtain ⟨ft2_44, rfl⟩ : ∃ z, z = u_44 := ⟨_, rfl⟩
  have hP : gP g [gO mo 9 [.int 0, .ref zt, .int (nI (((((tn + 4) + 4) + 4) + 4) + 4)), .int (nI sz), .ref zx, .ref zy, .ref zm, .ref zb, .int rt, .int w0, .int w1, .int w2, .int lg, .int nr, .int (nI yr), .ref va, .ref vb, .ref vc, .ref vd, .ref qa, .ref qb, .ref qc, .int (nI ln), .ref sa, .ref sb, .ref sc, .ref sd, .ref se, .int (nI pn), .ref ma, .ref mb, .ref mc, .ref rv, .int (nI mn), .int tol, .int (nI rn)], gB g zt 200 ft2_44] H := hP
  have hD : va_D A [gO mo 9 [.int 0, .ref zt, .int (nI (((((tn + 4) + 4) + 4) + 4) + 4)), .int (nI sz), .ref zx, .ref zy, .ref zm, .ref zb, .int rt, .int w0, .int w1, .int w2, .int lg, .int nr, .int (nI yr), .ref va, .ref vb, .ref vc, .ref vd, .ref qa, .ref qb, .ref qc, .int (nI ln), .ref sa, .ref sb, .ref sc, .ref sd, .ref se, .int (nI pn), .ref ma, .ref mb, .ref mc, .ref rv, .int (nI mn), .int tol, .int (nI rn)], gB g zt 200 ft2_44] := hD
  try dsimp only at hw_44
  have hT2_44 := hw_44
  refine lv_aload_n hx hb dX9_feed_47 rfl (lv_at hl 0 rfl) ?_
  refine g_get (C := RX9) (T := TX9) (N := 36) F hK hP i_X9_feed_X9 0 rfl rfl 2 (by decide) k_X9_feed_f7 (v := .int (nI (((((tn + 4) + 4) + 4) + 4) + 4))) rfl dX9_feed_48 ?_
  exact hret _ _ _ _ (nI (((((tn + 4) + 4) + 4) + 4) + 4)) ft2_44 dX9_feed_51 rfl (⟨rfl, hT2_44⟩) hP hD hS

theorem isW_0 {v : Int32} {n : Nat} (h : ¬ isW 0 (nI n) v) (h1 : ¬ v < 0) : ¬ v ≤ nI n := fun z => h ⟨h1, Int32.not_lt.mpr z⟩
abbrev rm_X9_end : Room := { frames := 0, cells := 0, slots := 0, locals := 0 }
theorem i_X9_end_X9 : ∀ w ∈ wsX90, w ∈ wsX9_end := by decide +kernel
theorem k_X9_end_f1 : Cond.fieldLink RX9 1 (TX9 0).1 (TX9 0).2.1 (TX9 0).2.2.1 ∈ wsX9_end := by decide +kernel
theorem k_X9_end_f7 : Cond.fieldLink RX9 7 (TX9 2).1 (TX9 2).2.1 (TX9 2).2.2.1 ∈ wsX9_end := by decide +kernel
set_option maxHeartbeats 4000000 in
set_option maxRecDepth 100000 in
theorem c_X9_end_n (l : Launch) (g : gT) (mo : Nat) (th : Int32) (zt : Nat) (tn : Nat) (sz : Nat) (zx : Nat) (zy : Nat) (zm : Nat) (zb : Nat) (rt : Int32) (w0 : Int32) (w1 : Int32) (w2 : Int32) (lg : Int32) (nr : Int32) (yr : Nat) (va : Nat) (vb : Nat) (vc : Nat) (vd : Nat) (qa : Nat) (qb : Nat) (qc : Nat) (ln : Nat) (sa : Nat) (sb : Nat) (sc : Nat) (sd : Nat) (se : Nat) (pn : Nat) (ma : Nat) (mb : Nat) (mc : Nat) (rv : Nat) (mn : Nat) (tol : Int32) (rn : Nat) (v : Int32) (h : ¬ isW 0 (nI tn) v) : CtI l g yX9_end wsX9_end rm_X9_end [.ref mo, .int v] [gO mo 9 [.int th, .ref zt, .int (nI tn), .int (nI sz), .ref zx, .ref zy, .ref zm, .ref zb, .int rt, .int w0, .int w1, .int w2, .int lg, .int nr, .int (nI yr), .ref va, .ref vb, .ref vc, .ref vd, .ref qa, .ref qb, .ref qc, .int (nI ln), .ref sa, .ref sb, .ref sc, .ref sd, .ref se, .int (nI pn), .ref ma, .ref mb, .ref mc, .ref rv, .int (nI mn), .int tol, .int (nI rn)]] (fun (r : Int32) (_ : Unit) => r = 0) (fun (_ : Unit) => [gO mo 9 [.int 0, .ref zt, .int (nI tn), .int (nI sz), .ref zx, .ref zy, .ref zm, .ref zb, .int rt, .int w0, .int w1, .int w2, .int lg, .int nr, .int (nI yr), .ref va, .ref vb, .ref vc, .ref vd, .ref qa, .ref qb, .ref qc, .int (nI ln), .ref sa, .ref sb, .ref sc, .ref sd, .ref se, .int (nI pn), .ref ma, .ref mb, .ref mc, .ref rv, .int (nI mn), .int tol, .int (nI rn)]]) := by
  refine CtI.of (cc := cX9_end) (maxL := 2) (ret := .boolean) (by decide) rfl (Nat.le_of_ble_eq_true rfl) ?_
  intro p e s m args below meth c A Q hnm F hK hA hP hD hS hret ls hl
  have hx := F.1
  have hb := F.2.1
  have hl : lv_has ls 2 [(0, .ref mo), (1, .int v)] := hl
  refine lv_aload_n hx hb dX9_end_0 rfl (lv_at hl 0 rfl) ?_
  refine lv_iconst (v := 0) hx hb dX9_end_1 (by decide) ?_
  refine g_put (C := RX9) (T := TX9) (N := 36) (ws2 := [gO mo 9 [.int 0, .ref zt, .int (nI tn), .int (nI sz), .ref zx, .ref zy, .ref zm, .ref zb, .int rt, .int w0, .int w1, .int w2, .int lg, .int nr, .int (nI yr), .ref va, .ref vb, .ref vc, .ref vd, .ref qa, .ref qb, .ref qc, .int (nI ln), .ref sa, .ref sb, .ref sc, .ref sd, .ref se, .int (nI pn), .ref ma, .ref mb, .ref mc, .ref rv, .int (nI mn), .int tol, .int (nI rn)]]) F hK hP hD hS i_X9_end_X9 tyX9 tyX9_ok nmX9 0 rfl rfl 0 (by decide) k_X9_end_f1 rfl (v := .int 0) rfl rfl (Nat.le_of_ble_eq_true rfl) rfl dX9_end_2 (fun H locs hP hD hS => ?_)
  refine lv_iload_n hx hb dX9_end_5 rfl (lv_at hl 1 rfl) ?_
  refine lv_if_lt (tgt := 17) hx hb dX9_end_6 (by decide) (fun c_6 => ?_) (fun c_6 => ?_)
  · refine lv_iconst (v := 0) hx hb dX9_end_17 (by decide) ?_
    exact hret _ _ _ _ 0 () dX9_end_18 rfl (rfl) hP hD hS
  · refine lv_iload_n hx hb dX9_end_9 rfl (lv_at hl 1 rfl) ?_
    refine lv_aload_n hx hb dX9_end_10 rfl (lv_at hl 0 rfl) ?_
    refine g_get (C := RX9) (T := TX9) (N := 36) F hK hP i_X9_end_X9 0 rfl rfl 2 (by decide) k_X9_end_f7 (v := .int (nI tn)) rfl dX9_end_11 ?_
    refine lv_icmp_le (tgt := 19) hx hb dX9_end_14 (by decide) (fun h => absurd h (isW_0 ‹¬ isW 0 (nI tn) v› c_6)) (fun c_14 => ?_)
    refine lv_iconst (v := 0) hx hb dX9_end_17 (by decide) ?_
    exact hret _ _ _ _ 0 () dX9_end_18 rfl (rfl) hP hD hS

set_option maxHeartbeats 4000000 in
set_option maxRecDepth 100000 in
theorem c_X9_end_y (l : Launch) (g : gT) (mo : Nat) (th : Int32) (zt : Nat) (tn : Nat) (sz : Nat) (zx : Nat) (zy : Nat) (zm : Nat) (zb : Nat) (rt : Int32) (w0 : Int32) (w1 : Int32) (w2 : Int32) (lg : Int32) (nr : Int32) (yr : Nat) (va : Nat) (vb : Nat) (vc : Nat) (vd : Nat) (qa : Nat) (qb : Nat) (qc : Nat) (ln : Nat) (sa : Nat) (sb : Nat) (sc : Nat) (sd : Nat) (se : Nat) (pn : Nat) (ma : Nat) (mb : Nat) (mc : Nat) (rv : Nat) (mn : Nat) (tol : Int32) (rn : Nat) (j : Nat) (htn : tn ≤ 200) (h : j ≤ tn) : CtI l g yX9_end wsX9_end rm_X9_end [.ref mo, .int (nI j)] [gO mo 9 [.int th, .ref zt, .int (nI tn), .int (nI sz), .ref zx, .ref zy, .ref zm, .ref zb, .int rt, .int w0, .int w1, .int w2, .int lg, .int nr, .int (nI yr), .ref va, .ref vb, .ref vc, .ref vd, .ref qa, .ref qb, .ref qc, .int (nI ln), .ref sa, .ref sb, .ref sc, .ref sd, .ref se, .int (nI pn), .ref ma, .ref mb, .ref mc, .ref rv, .int (nI mn), .int tol, .int (nI rn)]] (fun (r : Int32) (_ : Unit) => r = 1) (fun (_ : Unit) => [gO mo 9 [.int 0, .ref zt, .int (nI j), .int (nI sz), .ref zx, .ref zy, .ref zm, .ref zb, .int rt, .int w0, .int w1, .int w2, .int lg, .int nr, .int (nI yr), .ref va, .ref vb, .ref vc, .ref vd, .ref qa, .ref qb, .ref qc, .int (nI ln), .ref sa, .ref sb, .ref sc, .ref sd, .ref se, .int (nI pn), .ref ma, .ref mb, .ref mc, .ref rv, .int (nI mn), .int tol, .int (nI rn)]]) := by
  refine CtI.of (cc := cX9_end) (maxL := 2) (ret := .boolean) (by decide) rfl (Nat.le_of_ble_eq_true rfl) ?_
  intro p e s m args below meth c A Q hnm F hK hA hP hD hS hret ls hl
  have hx := F.1
  have hb := F.2.1
  have hl : lv_has ls 2 [(0, .ref mo), (1, .int (nI j))] := hl
  refine lv_aload_n hx hb dX9_end_0 rfl (lv_at hl 0 rfl) ?_
  refine lv_iconst (v := 0) hx hb dX9_end_1 (by decide) ?_
  refine g_put (C := RX9) (T := TX9) (N := 36) (ws2 := [gO mo 9 [.int 0, .ref zt, .int (nI tn), .int (nI sz), .ref zx, .ref zy, .ref zm, .ref zb, .int rt, .int w0, .int w1, .int w2, .int lg, .int nr, .int (nI yr), .ref va, .ref vb, .ref vc, .ref vd, .ref qa, .ref qb, .ref qc, .int (nI ln), .ref sa, .ref sb, .ref sc, .ref sd, .ref se, .int (nI pn), .ref ma, .ref mb, .ref mc, .ref rv, .int (nI mn), .int tol, .int (nI rn)]]) F hK hP hD hS i_X9_end_X9 tyX9 tyX9_ok nmX9 0 rfl rfl 0 (by decide) k_X9_end_f1 rfl (v := .int 0) rfl rfl (Nat.le_of_ble_eq_true rfl) rfl dX9_end_2 (fun H locs hP hD hS => ?_)
  refine lv_iload_n hx hb dX9_end_5 rfl (lv_at hl 1 rfl) ?_
  refine n_if_lt (a := j) (tgt := 17) hx hb dX9_end_6 (by decide) (by omega) (fun h => absurd h (by omega)) (fun c_6 => ?_)
  refine lv_iload_n hx hb dX9_end_9 rfl (lv_at hl 1 rfl) ?_
  refine lv_aload_n hx hb dX9_end_10 rfl (lv_at hl 0 rfl) ?_
  refine g_get (C := RX9) (T := TX9) (N := 36) F hK hP i_X9_end_X9 0 rfl rfl 2 (by decide) k_X9_end_f7 (v := .int (nI tn)) rfl dX9_end_11 ?_
  refine n_icmp_le (a := j) (b := tn) (tgt := 19) hx hb dX9_end_14 (by decide) (by omega) (by omega) (fun c_14 => ?_) (fun h => absurd h (by omega))
  refine lv_aload_n hx hb dX9_end_19 rfl (lv_at hl 0 rfl) ?_
  refine lv_iload_n hx hb dX9_end_20 rfl (lv_at hl 1 rfl) ?_
  refine g_put (C := RX9) (T := TX9) (N := 36) (ws2 := [gO mo 9 [.int 0, .ref zt, .int (nI j), .int (nI sz), .ref zx, .ref zy, .ref zm, .ref zb, .int rt, .int w0, .int w1, .int w2, .int lg, .int nr, .int (nI yr), .ref va, .ref vb, .ref vc, .ref vd, .ref qa, .ref qb, .ref qc, .int (nI ln), .ref sa, .ref sb, .ref sc, .ref sd, .ref se, .int (nI pn), .ref ma, .ref mb, .ref mc, .ref rv, .int (nI mn), .int tol, .int (nI rn)]]) F hK hP hD hS i_X9_end_X9 tyX9 tyX9_ok nmX9 0 rfl rfl 2 (by decide) k_X9_end_f7 rfl (v := .int (nI j)) rfl rfl (Nat.le_of_ble_eq_true rfl) rfl dX9_end_21 (fun H locs hP hD hS => ?_)
  refine lv_iconst (v := 1) hx hb dX9_end_24 (by decide) ?_
  exact hret _ _ _ _ 1 () dX9_end_25 rfl (rfl) hP hD hS

abbrev rm_X9_taken : Room := { frames := 0, cells := 0, slots := 0, locals := 0 }
theorem i_X9_taken_X9 : ∀ w ∈ wsX90, w ∈ wsX9_taken := by decide +kernel
theorem k_X9_taken_f7 : Cond.fieldLink RX9 7 (TX9 2).1 (TX9 2).2.1 (TX9 2).2.2.1 ∈ wsX9_taken := by decide +kernel
theorem k_X9_taken_f18 : Cond.fieldLink RX9 18 (TX9 3).1 (TX9 3).2.1 (TX9 3).2.2.1 ∈ wsX9_taken := by decide +kernel
set_option maxHeartbeats 4000000 in
set_option maxRecDepth 100000 in
theorem c_X9_taken (l : Launch) (g : gT) (mo : Nat) (th : Int32) (zt : Nat) (tn : Nat) (sz : Nat) (zx : Nat) (zy : Nat) (zm : Nat) (zb : Nat) (rt : Int32) (w0 : Int32) (w1 : Int32) (w2 : Int32) (lg : Int32) (nr : Int32) (yr : Nat) (va : Nat) (vb : Nat) (vc : Nat) (vd : Nat) (qa : Nat) (qb : Nat) (qc : Nat) (ln : Nat) (sa : Nat) (sb : Nat) (sc : Nat) (sd : Nat) (se : Nat) (pn : Nat) (ma : Nat) (mb : Nat) (mc : Nat) (rv : Nat) (mn : Nat) (tol : Int32) (rn : Nat)  : CtV l g yX9_taken wsX9_taken rm_X9_taken [.ref mo] [gO mo 9 [.int th, .ref zt, .int (nI tn), .int (nI sz), .ref zx, .ref zy, .ref zm, .ref zb, .int rt, .int w0, .int w1, .int w2, .int lg, .int nr, .int (nI yr), .ref va, .ref vb, .ref vc, .ref vd, .ref qa, .ref qb, .ref qc, .int (nI ln), .ref sa, .ref sb, .ref sc, .ref sd, .ref se, .int (nI pn), .ref ma, .ref mb, .ref mc, .ref rv, .int (nI mn), .int tol, .int (nI rn)]] (fun (_ : Unit) => True) (fun (_ : Unit) => [gO mo 9 [.int th, .ref zt, .int 0, .int (nI tn), .ref zx, .ref zy, .ref zm, .ref zb, .int rt, .int w0, .int w1, .int w2, .int lg, .int nr, .int (nI yr), .ref va, .ref vb, .ref vc, .ref vd, .ref qa, .ref qb, .ref qc, .int (nI ln), .ref sa, .ref sb, .ref sc, .ref sd, .ref se, .int (nI pn), .ref ma, .ref mb, .ref mc, .ref rv, .int (nI mn), .int tol, .int (nI rn)]]) := by
  refine CtV.of (cc := cX9_taken) (maxL := 1) (by decide) rfl (Nat.le_of_ble_eq_true rfl) ?_
  intro p e s m args below meth c A Q hnm F hK hA hP hD hS hret ls hl
  have hx := F.1
  have hb := F.2.1
  have hl : lv_has ls 1 [(0, .ref mo)] := hl
  refine lv_aload_n hx hb dX9_taken_0 rfl (lv_at hl 0 rfl) ?_
  refine lv_aload_n hx hb dX9_taken_1 rfl (lv_at hl 0 rfl) ?_
  refine g_get (C := RX9) (T := TX9) (N := 36) F hK hP i_X9_taken_X9 0 rfl rfl 2 (by decide) k_X9_taken_f7 (v := .int (nI tn)) rfl dX9_taken_2 ?_
  refine g_put (C := RX9) (T := TX9) (N := 36) (ws2 := [gO mo 9 [.int th, .ref zt, .int (nI tn), .int (nI tn), .ref zx, .ref zy, .ref zm, .ref zb, .int rt, .int w0, .int w1, .int w2, .int lg, .int nr, .int (nI yr), .ref va, .ref vb, .ref vc, .ref vd, .ref qa, .ref qb, .ref qc, .int (nI ln), .ref sa, .ref sb, .ref sc, .ref sd, .ref se, .int (nI pn), .ref ma, .ref mb, .ref mc, .ref rv, .int (nI mn), .int tol, .int (nI rn)]]) F hK hP hD hS i_X9_taken_X9 tyX9 tyX9_ok nmX9 0 rfl rfl 3 (by decide) k_X9_taken_f18 rfl (v := .int (nI tn)) rfl rfl (Nat.le_of_ble_eq_true rfl) rfl dX9_taken_5 (fun H locs hP hD hS => ?_)
  refine lv_aload_n hx hb dX9_taken_8 rfl (lv_at hl 0 rfl) ?_
  refine lv_iconst (v := 0) hx hb dX9_taken_9 (by decide) ?_
  refine g_put (C := RX9) (T := TX9) (N := 36) (ws2 := [gO mo 9 [.int th, .ref zt, .int 0, .int (nI tn), .ref zx, .ref zy, .ref zm, .ref zb, .int rt, .int w0, .int w1, .int w2, .int lg, .int nr, .int (nI yr), .ref va, .ref vb, .ref vc, .ref vd, .ref qa, .ref qb, .ref qc, .int (nI ln), .ref sa, .ref sb, .ref sc, .ref sd, .ref se, .int (nI pn), .ref ma, .ref mb, .ref mc, .ref rv, .int (nI mn), .int tol, .int (nI rn)]]) F hK hP hD hS i_X9_taken_X9 tyX9 tyX9_ok nmX9 0 rfl rfl 2 (by decide) k_X9_taken_f7 rfl (v := .int 0) rfl rfl (Nat.le_of_ble_eq_true rfl) rfl dX9_taken_10 (fun H locs hP hD hS => ?_)
  exact hret _ _ _ _ () dX9_taken_13 (trivial) hP hD hS

theorem two_b {t : Nat} (h : t < 256) : (nI t).toInt8.toInt32 &&& 255 = nI t := sc_k8 t h
theorem two_s {t : Nat} (h : t < 256) : nI t <<< ((8 : Int32) &&& 31) = nI (t * 256) := pk_shlN _ 8 (by decide) (by omega)
theorem two_o {a b : Nat} (h : b < 256) : nI (a * 256) ||| nI b = nI (a * 256 + b) := by
  have := fa_or_sum (k := 8) a h
  rw [show 2 ^ 8 * a = a * 256 by omega] at this
  exact this
abbrev rm_X9_two : Room := { frames := 0, cells := 0, slots := 0, locals := 0 }
theorem i_X9_two_X9 : ∀ w ∈ wsX90, w ∈ wsX9_two := by decide +kernel
theorem k_X9_two_f14 : Cond.fieldLink RX9 14 (TX9 1).1 (TX9 1).2.1 (TX9 1).2.2.1 ∈ wsX9_two := by decide +kernel
set_option maxHeartbeats 4000000 in
set_option maxRecDepth 100000 in
theorem c_X9_two (l : Launch) (g : gT) (mo : Nat) (th : Int32) (zt : Nat) (tn : Nat) (sz : Nat) (zx : Nat) (zy : Nat) (zm : Nat) (zb : Nat) (rt : Int32) (w0 : Int32) (w1 : Int32) (w2 : Int32) (lg : Int32) (nr : Int32) (yr : Nat) (va : Nat) (vb : Nat) (vc : Nat) (vd : Nat) (qa : Nat) (qb : Nat) (qc : Nat) (ln : Nat) (sa : Nat) (sb : Nat) (sc : Nat) (sd : Nat) (se : Nat) (pn : Nat) (ma : Nat) (mb : Nat) (mc : Nat) (rv : Nat) (mn : Nat) (tol : Int32) (rn : Nat) (ft : Nat → Int32) (T : Nat → Nat) (a : Nat) (tq : Nat) (htq : tq ≤ 200) (hT : ∀ k, k < tq → ft k = (nI (T k)).toInt8.toInt32) (h256 : ∀ k, T k < 256) (ha : a + 1 < tq) : CtI l g yX9_two wsX9_two rm_X9_two [.ref mo, .int (nI a)] [gO mo 9 [.int th, .ref zt, .int (nI tn), .int (nI sz), .ref zx, .ref zy, .ref zm, .ref zb, .int rt, .int w0, .int w1, .int w2, .int lg, .int nr, .int (nI yr), .ref va, .ref vb, .ref vc, .ref vd, .ref qa, .ref qb, .ref qc, .int (nI ln), .ref sa, .ref sb, .ref sc, .ref sd, .ref se, .int (nI pn), .ref ma, .ref mb, .ref mc, .ref rv, .int (nI mn), .int tol, .int (nI rn)], gB g zt 200 ft] (fun (r : Int32) (_ : Unit) => r = nI (T a * 256 + T (a + 1))) (fun (_ : Unit) => [gO mo 9 [.int th, .ref zt, .int (nI tn), .int (nI sz), .ref zx, .ref zy, .ref zm, .ref zb, .int rt, .int w0, .int w1, .int w2, .int lg, .int nr, .int (nI yr), .ref va, .ref vb, .ref vc, .ref vd, .ref qa, .ref qb, .ref qc, .int (nI ln), .ref sa, .ref sb, .ref sc, .ref sd, .ref se, .int (nI pn), .ref ma, .ref mb, .ref mc, .ref rv, .int (nI mn), .int tol, .int (nI rn)], gB g zt 200 ft]) := by
  refine CtI.of (cc := cX9_two) (maxL := 2) (ret := .int) (by decide) rfl (Nat.le_of_ble_eq_true rfl) ?_
  intro p e s m args below meth c A Q hnm F hK hA hP hD hS hret ls hl
  have hx := F.1
  have hb := F.2.1
  have hl : lv_has ls 2 [(0, .ref mo), (1, .int (nI a))] := hl
  refine lv_aload_n hx hb dX9_two_0 rfl (lv_at hl 0 rfl) ?_
  refine g_get (C := RX9) (T := TX9) (N := 36) F hK hP i_X9_two_X9 0 rfl rfl 1 (by decide) k_X9_two_f14 (v := .ref zt) rfl dX9_two_1 ?_
  refine lv_iload_n hx hb dX9_two_4 rfl (lv_at hl 1 rfl) ?_
  refine g_bald (i := a) (v := ((nI (T a)).toInt8.toInt32)) hx hb hK hP 1 rfl (by decide) (by omega) (hT a (by omega)) dX9_two_5 ?_
  refine lv_sipush (v := 255) hx hb dX9_two_6 (by decide) ?_
  refine lv_iand hx hb dX9_two_9 ?_
  refine g_eqi (y := (nI (T a))) (two_b (h256 _)) ?_
  refine lv_bipush (v := 8) hx hb dX9_two_10 (by decide) ?_
  refine lv_ishl hx hb dX9_two_12 ?_
  refine g_eqi (y := (nI (T a * 256))) (two_s (h256 _)) ?_
  refine lv_aload_n hx hb dX9_two_13 rfl (lv_at hl 0 rfl) ?_
  refine g_get (C := RX9) (T := TX9) (N := 36) F hK hP i_X9_two_X9 0 rfl rfl 1 (by decide) k_X9_two_f14 (v := .ref zt) rfl dX9_two_14 ?_
  refine lv_iload_n hx hb dX9_two_17 rfl (lv_at hl 1 rfl) ?_
  refine lv_iconst (v := 1) hx hb dX9_two_18 (by decide) ?_
  refine n_iadd (a := a) (b := 1) (d := a + 1) hx hb dX9_two_19 (by omega) ?_
  refine g_bald (i := a + 1) (v := ((nI (T (a + 1))).toInt8.toInt32)) hx hb hK hP 1 rfl (by decide) (by omega) (hT (a + 1) (by omega)) dX9_two_20 ?_
  refine lv_sipush (v := 255) hx hb dX9_two_21 (by decide) ?_
  refine lv_iand hx hb dX9_two_24 ?_
  refine g_eqi (y := (nI (T (a + 1)))) (two_b (h256 _)) ?_
  refine lv_ior hx hb dX9_two_25 ?_
  refine g_eqi (y := (nI (T a * 256 + T (a + 1)))) (two_o (h256 _)) ?_
  exact hret _ _ _ _ (nI (T a * 256 + T (a + 1))) () dX9_two_26 rfl (rfl) hP hD hS

abbrev rm_X9_set : Room := { frames := 1, cells := 0, slots := 0, locals := 22 }
theorem i_X9_set_X9 : ∀ w ∈ wsX90, w ∈ wsX9_set := by decide +kernel
theorem k_X9_set_f1 : Cond.fieldLink RX9 1 (TX9 0).1 (TX9 0).2.1 (TX9 0).2.2.1 ∈ wsX9_set := by decide +kernel
set_option maxHeartbeats 4000000 in
set_option maxRecDepth 100000 in
theorem c_X9_set_n (l : Launch) (g : gT) (mo : Nat) (th : Int32) (zt : Nat) (tn : Nat) (sz : Nat) (zx : Nat) (zy : Nat) (zm : Nat) (zb : Nat) (rt : Int32) (w0 : Int32) (w1 : Int32) (w2 : Int32) (lg : Int32) (nr : Int32) (yr : Nat) (va : Nat) (vb : Nat) (vc : Nat) (vd : Nat) (qa : Nat) (qb : Nat) (qc : Nat) (ln : Nat) (sa : Nat) (sb : Nat) (sc : Nat) (sd : Nat) (se : Nat) (pn : Nat) (ma : Nat) (mb : Nat) (mc : Nat) (rv : Nat) (mn : Nat) (tol : Int32) (rn : Nat) (b1 : Int32) (b2 : Int32) (b3 : Int32) (b4 : Int32) (b5 : Int32) (b6 : Int32) (h : ¬ setP b1 b2 b3 b4 b5 b6) : CtI l g yX9_set wsX9_set rm_X9_set [.ref mo, .int b1, .int b2, .int b3, .int b4, .int b5, .int b6] [gO mo 9 [.int th, .ref zt, .int (nI tn), .int (nI sz), .ref zx, .ref zy, .ref zm, .ref zb, .int rt, .int w0, .int w1, .int w2, .int lg, .int nr, .int (nI yr), .ref va, .ref vb, .ref vc, .ref vd, .ref qa, .ref qb, .ref qc, .int (nI ln), .ref sa, .ref sb, .ref sc, .ref sd, .ref se, .int (nI pn), .ref ma, .ref mb, .ref mc, .ref rv, .int (nI mn), .int tol, .int (nI rn)]] (fun (r : Int32) (_ : Unit) => r = 0) (fun (_ : Unit) => [gO mo 9 [.int 0, .ref zt, .int (nI tn), .int (nI sz), .ref zx, .ref zy, .ref zm, .ref zb, .int rt, .int w0, .int w1, .int w2, .int lg, .int nr, .int (nI yr), .ref va, .ref vb, .ref vc, .ref vd, .ref qa, .ref qb, .ref qc, .int (nI ln), .ref sa, .ref sb, .ref sc, .ref sd, .ref se, .int (nI pn), .ref ma, .ref mb, .ref mc, .ref rv, .int (nI mn), .int tol, .int (nI rn)]]) := by
  refine CtI.of (cc := cX9_set) (maxL := 7) (ret := .boolean) (by decide) rfl (Nat.le_of_ble_eq_true rfl) ?_
  intro p e s m args below meth c A Q hnm F hK hA hP hD hS hret ls hl
  have hx := F.1
  have hb := F.2.1
  have hl : lv_has ls 7 [(0, .ref mo), (1, .int b1), (2, .int b2), (3, .int b3), (4, .int b4), (5, .int b5), (6, .int b6)] := hl
  refine lv_aload_n hx hb dX9_set_0 rfl (lv_at hl 0 rfl) ?_
  refine lv_iconst (v := 0) hx hb dX9_set_1 (by decide) ?_
  refine g_put (C := RX9) (T := TX9) (N := 36) (ws2 := [gO mo 9 [.int 0, .ref zt, .int (nI tn), .int (nI sz), .ref zx, .ref zy, .ref zm, .ref zb, .int rt, .int w0, .int w1, .int w2, .int lg, .int nr, .int (nI yr), .ref va, .ref vb, .ref vc, .ref vd, .ref qa, .ref qb, .ref qc, .int (nI ln), .ref sa, .ref sb, .ref sc, .ref sd, .ref se, .int (nI pn), .ref ma, .ref mb, .ref mc, .ref rv, .int (nI mn), .int tol, .int (nI rn)]]) F hK hP hD hS i_X9_set_X9 tyX9 tyX9_ok nmX9 0 rfl rfl 0 (by decide) k_X9_set_f1 rfl (v := .int 0) rfl rfl (Nat.le_of_ble_eq_true rfl) rfl dX9_set_2 (fun H locs hP hD hS => ?_)
  refine lv_iload_n hx hb dX9_set_5 rfl (lv_at hl 1 rfl) ?_
  refine lv_iconst (v := 0) hx hb dX9_set_6 (by decide) ?_
  refine lv_sipush (v := 200) hx hb dX9_set_7 (by decide) ?_
  refine g_SI (wr := [gO mo 9 [.int 0, .ref zt, .int (nI tn), .int (nI sz), .ref zx, .ref zy, .ref zm, .ref zb, .int rt, .int w0, .int w1, .int w2, .int lg, .int nr, .int (nI yr), .ref va, .ref vb, .ref vc, .ref vd, .ref qa, .ref qb, .ref qc, .int (nI ln), .ref sa, .ref sb, .ref sc, .ref sd, .ref se, .int (nI pn), .ref ma, .ref mb, .ref mc, .ref rv, .int (nI mn), .int tol, .int (nI rn)]]) (As := [.int b1, .int 0, .int 200]) (rest := []) (n := 3) F (c_X9_isIn l g b1 0 200) gX9_set_X9_isIn rfl (by decide) ⟨by decide, by decide⟩ rfl hl.1 rfl (Nat.le_of_ble_eq_true rfl) dX9_set_10 ⟨Nat.le_of_ble_eq_true rfl, Nat.le_of_ble_eq_true rfl⟩ hK hP hD hS hA [] [0] (by decide) rfl rfl (by decide) (by decide) (fun r_10 u_10 H locs hw_10 hP hD hS => ?_)
  have hP : gP g [gO mo 9 [.int 0, .ref zt, .int (nI tn), .int (nI sz), .ref zx, .ref zy, .ref zm, .ref zb, .int rt, .int w0, .int w1, .int w2, .int lg, .int nr, .int (nI yr), .ref va, .ref vb, .ref vc, .ref vd, .ref qa, .ref qb, .ref qc, .int (nI ln), .ref sa, .ref sb, .ref sc, .ref sd, .ref se, .int (nI pn), .ref ma, .ref mb, .ref mc, .ref rv, .int (nI mn), .int tol, .int (nI rn)]] H := hP
  have hD : va_D A [gO mo 9 [.int 0, .ref zt, .int (nI tn), .int (nI sz), .ref zx, .ref zy, .ref zm, .ref zb, .int rt, .int w0, .int w1, .int w2, .int lg, .int nr, .int (nI yr), .ref va, .ref vb, .ref vc, .ref vd, .ref qa, .ref qb, .ref qc, .int (nI ln), .ref sa, .ref sb, .ref sc, .ref sd, .ref se, .int (nI pn), .ref ma, .ref mb, .ref mc, .ref rv, .int (nI mn), .int tol, .int (nI rn)]] := hD
  rcases hw_10 with ⟨rfl, b_10⟩ | ⟨rfl, b_10⟩
  · refine lv_if_eq (tgt := 70) hx hb dX9_set_13 (by decide) (fun h => absurd h (by decide)) (fun _ => ?_)
    refine lv_iload_n hx hb dX9_set_16 rfl (lv_at hl 2 rfl) ?_
    refine lv_iconst (v := 0) hx hb dX9_set_17 (by decide) ?_
    refine lv_bipush (v := 9) hx hb dX9_set_18 (by decide) ?_
    refine g_SI (wr := [gO mo 9 [.int 0, .ref zt, .int (nI tn), .int (nI sz), .ref zx, .ref zy, .ref zm, .ref zb, .int rt, .int w0, .int w1, .int w2, .int lg, .int nr, .int (nI yr), .ref va, .ref vb, .ref vc, .ref vd, .ref qa, .ref qb, .ref qc, .int (nI ln), .ref sa, .ref sb, .ref sc, .ref sd, .ref se, .int (nI pn), .ref ma, .ref mb, .ref mc, .ref rv, .int (nI mn), .int tol, .int (nI rn)]]) (As := [.int b2, .int 0, .int 9]) (rest := []) (n := 3) F (c_X9_isIn l g b2 0 9) gX9_set_X9_isIn rfl (by decide) ⟨by decide, by decide⟩ rfl hl.1 rfl (Nat.le_of_ble_eq_true rfl) dX9_set_20 ⟨Nat.le_of_ble_eq_true rfl, Nat.le_of_ble_eq_true rfl⟩ hK hP hD hS hA [] [0] (by decide) rfl rfl (by decide) (by decide) (fun r_20 u_20 H locs hw_20 hP hD hS => ?_)
    have hP : gP g [gO mo 9 [.int 0, .ref zt, .int (nI tn), .int (nI sz), .ref zx, .ref zy, .ref zm, .ref zb, .int rt, .int w0, .int w1, .int w2, .int lg, .int nr, .int (nI yr), .ref va, .ref vb, .ref vc, .ref vd, .ref qa, .ref qb, .ref qc, .int (nI ln), .ref sa, .ref sb, .ref sc, .ref sd, .ref se, .int (nI pn), .ref ma, .ref mb, .ref mc, .ref rv, .int (nI mn), .int tol, .int (nI rn)]] H := hP
    have hD : va_D A [gO mo 9 [.int 0, .ref zt, .int (nI tn), .int (nI sz), .ref zx, .ref zy, .ref zm, .ref zb, .int rt, .int w0, .int w1, .int w2, .int lg, .int nr, .int (nI yr), .ref va, .ref vb, .ref vc, .ref vd, .ref qa, .ref qb, .ref qc, .int (nI ln), .ref sa, .ref sb, .ref sc, .ref sd, .ref se, .int (nI pn), .ref ma, .ref mb, .ref mc, .ref rv, .int (nI mn), .int tol, .int (nI rn)]] := hD
    rcases hw_20 with ⟨rfl, b_20⟩ | ⟨rfl, b_20⟩
    · refine lv_if_eq (tgt := 70) hx hb dX9_set_23 (by decide) (fun h => absurd h (by decide)) (fun _ => ?_)
      refine lv_iload_n hx hb dX9_set_26 rfl (lv_at hl 3 rfl) ?_
      refine lv_iconst (v := 0) hx hb dX9_set_27 (by decide) ?_
      refine lv_bipush (v := 9) hx hb dX9_set_28 (by decide) ?_
      refine g_SI (wr := [gO mo 9 [.int 0, .ref zt, .int (nI tn), .int (nI sz), .ref zx, .ref zy, .ref zm, .ref zb, .int rt, .int w0, .int w1, .int w2, .int lg, .int nr, .int (nI yr), .ref va, .ref vb, .ref vc, .ref vd, .ref qa, .ref qb, .ref qc, .int (nI ln), .ref sa, .ref sb, .ref sc, .ref sd, .ref se, .int (nI pn), .ref ma, .ref mb, .ref mc, .ref rv, .int (nI mn), .int tol, .int (nI rn)]]) (As := [.int b3, .int 0, .int 9]) (rest := []) (n := 3) F (c_X9_isIn l g b3 0 9) gX9_set_X9_isIn rfl (by decide) ⟨by decide, by decide⟩ rfl hl.1 rfl (Nat.le_of_ble_eq_true rfl) dX9_set_30 ⟨Nat.le_of_ble_eq_true rfl, Nat.le_of_ble_eq_true rfl⟩ hK hP hD hS hA [] [0] (by decide) rfl rfl (by decide) (by decide) (fun r_30 u_30 H locs hw_30 hP hD hS => ?_)
      have hP : gP g [gO mo 9 [.int 0, .ref zt, .int (nI tn), .int (nI sz), .ref zx, .ref zy, .ref zm, .ref zb, .int rt, .int w0, .int w1, .int w2, .int lg, .int nr, .int (nI yr), .ref va, .ref vb, .ref vc, .ref vd, .ref qa, .ref qb, .ref qc, .int (nI ln), .ref sa, .ref sb, .ref sc, .ref sd, .ref se, .int (nI pn), .ref ma, .ref mb, .ref mc, .ref rv, .int (nI mn), .int tol, .int (nI rn)]] H := hP
      have hD : va_D A [gO mo 9 [.int 0, .ref zt, .int (nI tn), .int (nI sz), .ref zx, .ref zy, .ref zm, .ref zb, .int rt, .int w0, .int w1, .int w2, .int lg, .int nr, .int (nI yr), .ref va, .ref vb, .ref vc, .ref vd, .ref qa, .ref qb, .ref qc, .int (nI ln), .ref sa, .ref sb, .ref sc, .ref sd, .ref se, .int (nI pn), .ref ma, .ref mb, .ref mc, .ref rv, .int (nI mn), .int tol, .int (nI rn)]] := hD
      rcases hw_30 with ⟨rfl, b_30⟩ | ⟨rfl, b_30⟩
      · refine lv_if_eq (tgt := 70) hx hb dX9_set_33 (by decide) (fun h => absurd h (by decide)) (fun _ => ?_)
        refine lv_iload hx hb dX9_set_36 (lv_at hl 4 rfl) ?_
        refine lv_iconst (v := 0) hx hb dX9_set_38 (by decide) ?_
        refine lv_bipush (v := 9) hx hb dX9_set_39 (by decide) ?_
        refine g_SI (wr := [gO mo 9 [.int 0, .ref zt, .int (nI tn), .int (nI sz), .ref zx, .ref zy, .ref zm, .ref zb, .int rt, .int w0, .int w1, .int w2, .int lg, .int nr, .int (nI yr), .ref va, .ref vb, .ref vc, .ref vd, .ref qa, .ref qb, .ref qc, .int (nI ln), .ref sa, .ref sb, .ref sc, .ref sd, .ref se, .int (nI pn), .ref ma, .ref mb, .ref mc, .ref rv, .int (nI mn), .int tol, .int (nI rn)]]) (As := [.int b4, .int 0, .int 9]) (rest := []) (n := 3) F (c_X9_isIn l g b4 0 9) gX9_set_X9_isIn rfl (by decide) ⟨by decide, by decide⟩ rfl hl.1 rfl (Nat.le_of_ble_eq_true rfl) dX9_set_41 ⟨Nat.le_of_ble_eq_true rfl, Nat.le_of_ble_eq_true rfl⟩ hK hP hD hS hA [] [0] (by decide) rfl rfl (by decide) (by decide) (fun r_41 u_41 H locs hw_41 hP hD hS => ?_)
        have hP : gP g [gO mo 9 [.int 0, .ref zt, .int (nI tn), .int (nI sz), .ref zx, .ref zy, .ref zm, .ref zb, .int rt, .int w0, .int w1, .int w2, .int lg, .int nr, .int (nI yr), .ref va, .ref vb, .ref vc, .ref vd, .ref qa, .ref qb, .ref qc, .int (nI ln), .ref sa, .ref sb, .ref sc, .ref sd, .ref se, .int (nI pn), .ref ma, .ref mb, .ref mc, .ref rv, .int (nI mn), .int tol, .int (nI rn)]] H := hP
        have hD : va_D A [gO mo 9 [.int 0, .ref zt, .int (nI tn), .int (nI sz), .ref zx, .ref zy, .ref zm, .ref zb, .int rt, .int w0, .int w1, .int w2, .int lg, .int nr, .int (nI yr), .ref va, .ref vb, .ref vc, .ref vd, .ref qa, .ref qb, .ref qc, .int (nI ln), .ref sa, .ref sb, .ref sc, .ref sd, .ref se, .int (nI pn), .ref ma, .ref mb, .ref mc, .ref rv, .int (nI mn), .int tol, .int (nI rn)]] := hD
        rcases hw_41 with ⟨rfl, b_41⟩ | ⟨rfl, b_41⟩
        · refine lv_if_eq (tgt := 70) hx hb dX9_set_44 (by decide) (fun h => absurd h (by decide)) (fun _ => ?_)
          refine lv_iload hx hb dX9_set_47 (lv_at hl 5 rfl) ?_
          refine lv_bipush (v := 8) hx hb dX9_set_49 (by decide) ?_
          refine lv_bipush (v := 64) hx hb dX9_set_51 (by decide) ?_
          refine g_SI (wr := [gO mo 9 [.int 0, .ref zt, .int (nI tn), .int (nI sz), .ref zx, .ref zy, .ref zm, .ref zb, .int rt, .int w0, .int w1, .int w2, .int lg, .int nr, .int (nI yr), .ref va, .ref vb, .ref vc, .ref vd, .ref qa, .ref qb, .ref qc, .int (nI ln), .ref sa, .ref sb, .ref sc, .ref sd, .ref se, .int (nI pn), .ref ma, .ref mb, .ref mc, .ref rv, .int (nI mn), .int tol, .int (nI rn)]]) (As := [.int b5, .int 8, .int 64]) (rest := []) (n := 3) F (c_X9_isIn l g b5 8 64) gX9_set_X9_isIn rfl (by decide) ⟨by decide, by decide⟩ rfl hl.1 rfl (Nat.le_of_ble_eq_true rfl) dX9_set_53 ⟨Nat.le_of_ble_eq_true rfl, Nat.le_of_ble_eq_true rfl⟩ hK hP hD hS hA [] [0] (by decide) rfl rfl (by decide) (by decide) (fun r_53 u_53 H locs hw_53 hP hD hS => ?_)
          have hP : gP g [gO mo 9 [.int 0, .ref zt, .int (nI tn), .int (nI sz), .ref zx, .ref zy, .ref zm, .ref zb, .int rt, .int w0, .int w1, .int w2, .int lg, .int nr, .int (nI yr), .ref va, .ref vb, .ref vc, .ref vd, .ref qa, .ref qb, .ref qc, .int (nI ln), .ref sa, .ref sb, .ref sc, .ref sd, .ref se, .int (nI pn), .ref ma, .ref mb, .ref mc, .ref rv, .int (nI mn), .int tol, .int (nI rn)]] H := hP
          have hD : va_D A [gO mo 9 [.int 0, .ref zt, .int (nI tn), .int (nI sz), .ref zx, .ref zy, .ref zm, .ref zb, .int rt, .int w0, .int w1, .int w2, .int lg, .int nr, .int (nI yr), .ref va, .ref vb, .ref vc, .ref vd, .ref qa, .ref qb, .ref qc, .int (nI ln), .ref sa, .ref sb, .ref sc, .ref sd, .ref se, .int (nI pn), .ref ma, .ref mb, .ref mc, .ref rv, .int (nI mn), .int tol, .int (nI rn)]] := hD
          rcases hw_53 with ⟨rfl, b_53⟩ | ⟨rfl, b_53⟩
          · refine lv_if_eq (tgt := 70) hx hb dX9_set_56 (by decide) (fun h => absurd h (by decide)) (fun _ => ?_)
            refine lv_iload hx hb dX9_set_59 (lv_at hl 6 rfl) ?_
            refine lv_iconst (v := 1) hx hb dX9_set_61 (by decide) ?_
            refine lv_bipush (v := 32) hx hb dX9_set_62 (by decide) ?_
            refine g_SI (wr := [gO mo 9 [.int 0, .ref zt, .int (nI tn), .int (nI sz), .ref zx, .ref zy, .ref zm, .ref zb, .int rt, .int w0, .int w1, .int w2, .int lg, .int nr, .int (nI yr), .ref va, .ref vb, .ref vc, .ref vd, .ref qa, .ref qb, .ref qc, .int (nI ln), .ref sa, .ref sb, .ref sc, .ref sd, .ref se, .int (nI pn), .ref ma, .ref mb, .ref mc, .ref rv, .int (nI mn), .int tol, .int (nI rn)]]) (As := [.int b6, .int 1, .int 32]) (rest := []) (n := 3) F (c_X9_isIn l g b6 1 32) gX9_set_X9_isIn rfl (by decide) ⟨by decide, by decide⟩ rfl hl.1 rfl (Nat.le_of_ble_eq_true rfl) dX9_set_64 ⟨Nat.le_of_ble_eq_true rfl, Nat.le_of_ble_eq_true rfl⟩ hK hP hD hS hA [] [0] (by decide) rfl rfl (by decide) (by decide) (fun r_64 u_64 H locs hw_64 hP hD hS => ?_)
            have hP : gP g [gO mo 9 [.int 0, .ref zt, .int (nI tn), .int (nI sz), .ref zx, .ref zy, .ref zm, .ref zb, .int rt, .int w0, .int w1, .int w2, .int lg, .int nr, .int (nI yr), .ref va, .ref vb, .ref vc, .ref vd, .ref qa, .ref qb, .ref qc, .int (nI ln), .ref sa, .ref sb, .ref sc, .ref sd, .ref se, .int (nI pn), .ref ma, .ref mb, .ref mc, .ref rv, .int (nI mn), .int tol, .int (nI rn)]] H := hP
            have hD : va_D A [gO mo 9 [.int 0, .ref zt, .int (nI tn), .int (nI sz), .ref zx, .ref zy, .ref zm, .ref zb, .int rt, .int w0, .int w1, .int w2, .int lg, .int nr, .int (nI yr), .ref va, .ref vb, .ref vc, .ref vd, .ref qa, .ref qb, .ref qc, .int (nI ln), .ref sa, .ref sb, .ref sc, .ref sd, .ref se, .int (nI pn), .ref ma, .ref mb, .ref mc, .ref rv, .int (nI mn), .int tol, .int (nI rn)]] := hD
            rcases hw_64 with ⟨rfl, b_64⟩ | ⟨rfl, b_64⟩
            · refine lv_if_ne (tgt := 72) hx hb dX9_set_67 (by decide) (fun _ => ?_) (fun h => absurd h (by decide))
              exact absurd ⟨b_10, b_20, b_30, b_41, b_53, b_64⟩ h
            · refine lv_if_ne (tgt := 72) hx hb dX9_set_67 (by decide) (fun h => absurd (by decide) h) (fun _ => ?_)
              refine lv_iconst (v := 0) hx hb dX9_set_70 (by decide) ?_
              exact hret _ _ _ _ 0 () dX9_set_71 rfl (rfl) hP hD hS
          · refine lv_if_eq (tgt := 70) hx hb dX9_set_56 (by decide) (fun _ => ?_) (fun h => absurd (by decide) h)
            refine lv_iconst (v := 0) hx hb dX9_set_70 (by decide) ?_
            exact hret _ _ _ _ 0 () dX9_set_71 rfl (rfl) hP hD hS
        · refine lv_if_eq (tgt := 70) hx hb dX9_set_44 (by decide) (fun _ => ?_) (fun h => absurd (by decide) h)
          refine lv_iconst (v := 0) hx hb dX9_set_70 (by decide) ?_
          exact hret _ _ _ _ 0 () dX9_set_71 rfl (rfl) hP hD hS
      · refine lv_if_eq (tgt := 70) hx hb dX9_set_33 (by decide) (fun _ => ?_) (fun h => absurd (by decide) h)
        refine lv_iconst (v := 0) hx hb dX9_set_70 (by decide) ?_
        exact hret _ _ _ _ 0 () dX9_set_71 rfl (rfl) hP hD hS
    · refine lv_if_eq (tgt := 70) hx hb dX9_set_23 (by decide) (fun _ => ?_) (fun h => absurd (by decide) h)
      refine lv_iconst (v := 0) hx hb dX9_set_70 (by decide) ?_
      exact hret _ _ _ _ 0 () dX9_set_71 rfl (rfl) hP hD hS
  · refine lv_if_eq (tgt := 70) hx hb dX9_set_13 (by decide) (fun _ => ?_) (fun h => absurd (by decide) h)
    refine lv_iconst (v := 0) hx hb dX9_set_70 (by decide) ?_
    exact hret _ _ _ _ 0 () dX9_set_71 rfl (rfl) hP hD hS

theorem k_X9_set_f40 : Cond.fieldLink RX9 40 (TX9 8).1 (TX9 8).2.1 (TX9 8).2.2.1 ∈ wsX9_set := by decide +kernel
theorem k_X9_set_f43 : Cond.fieldLink RX9 43 (TX9 9).1 (TX9 9).2.1 (TX9 9).2.2.1 ∈ wsX9_set := by decide +kernel
theorem k_X9_set_f46 : Cond.fieldLink RX9 46 (TX9 10).1 (TX9 10).2.1 (TX9 10).2.2.1 ∈ wsX9_set := by decide +kernel
theorem k_X9_set_f49 : Cond.fieldLink RX9 49 (TX9 11).1 (TX9 11).2.1 (TX9 11).2.2.1 ∈ wsX9_set := by decide +kernel
theorem k_X9_set_f52 : Cond.fieldLink RX9 52 (TX9 12).1 (TX9 12).2.1 (TX9 12).2.2.1 ∈ wsX9_set := by decide +kernel
theorem k_X9_set_f55 : Cond.fieldLink RX9 55 (TX9 13).1 (TX9 13).2.1 (TX9 13).2.2.1 ∈ wsX9_set := by decide +kernel
set_option maxHeartbeats 4000000 in
set_option maxRecDepth 100000 in
theorem c_X9_set_y (l : Launch) (g : gT) (mo : Nat) (th : Int32) (zt : Nat) (tn : Nat) (sz : Nat) (zx : Nat) (zy : Nat) (zm : Nat) (zb : Nat) (rt : Int32) (w0 : Int32) (w1 : Int32) (w2 : Int32) (lg : Int32) (nr : Int32) (yr : Nat) (va : Nat) (vb : Nat) (vc : Nat) (vd : Nat) (qa : Nat) (qb : Nat) (qc : Nat) (ln : Nat) (sa : Nat) (sb : Nat) (sc : Nat) (sd : Nat) (se : Nat) (pn : Nat) (ma : Nat) (mb : Nat) (mc : Nat) (rv : Nat) (mn : Nat) (tol : Int32) (rn : Nat) (b1 : Int32) (b2 : Int32) (b3 : Int32) (b4 : Int32) (b5 : Int32) (b6 : Int32) (h : setP b1 b2 b3 b4 b5 b6) : CtI l g yX9_set wsX9_set rm_X9_set [.ref mo, .int b1, .int b2, .int b3, .int b4, .int b5, .int b6] [gO mo 9 [.int th, .ref zt, .int (nI tn), .int (nI sz), .ref zx, .ref zy, .ref zm, .ref zb, .int rt, .int w0, .int w1, .int w2, .int lg, .int nr, .int (nI yr), .ref va, .ref vb, .ref vc, .ref vd, .ref qa, .ref qb, .ref qc, .int (nI ln), .ref sa, .ref sb, .ref sc, .ref sd, .ref se, .int (nI pn), .ref ma, .ref mb, .ref mc, .ref rv, .int (nI mn), .int tol, .int (nI rn)]] (fun (r : Int32) (_ : Unit) => r = 1) (fun (_ : Unit) => [gO mo 9 [.int 0, .ref zt, .int (nI tn), .int (nI sz), .ref zx, .ref zy, .ref zm, .ref zb, .int b1, .int b2, .int b3, .int b4, .int b5, .int b6, .int (nI yr), .ref va, .ref vb, .ref vc, .ref vd, .ref qa, .ref qb, .ref qc, .int (nI ln), .ref sa, .ref sb, .ref sc, .ref sd, .ref se, .int (nI pn), .ref ma, .ref mb, .ref mc, .ref rv, .int (nI mn), .int tol, .int (nI rn)]]) := by
  refine CtI.of (cc := cX9_set) (maxL := 7) (ret := .boolean) (by decide) rfl (Nat.le_of_ble_eq_true rfl) ?_
  intro p e s m args below meth c A Q hnm F hK hA hP hD hS hret ls hl
  have hx := F.1
  have hb := F.2.1
  have hl : lv_has ls 7 [(0, .ref mo), (1, .int b1), (2, .int b2), (3, .int b3), (4, .int b4), (5, .int b5), (6, .int b6)] := hl
  refine lv_aload_n hx hb dX9_set_0 rfl (lv_at hl 0 rfl) ?_
  refine lv_iconst (v := 0) hx hb dX9_set_1 (by decide) ?_
  refine g_put (C := RX9) (T := TX9) (N := 36) (ws2 := [gO mo 9 [.int 0, .ref zt, .int (nI tn), .int (nI sz), .ref zx, .ref zy, .ref zm, .ref zb, .int rt, .int w0, .int w1, .int w2, .int lg, .int nr, .int (nI yr), .ref va, .ref vb, .ref vc, .ref vd, .ref qa, .ref qb, .ref qc, .int (nI ln), .ref sa, .ref sb, .ref sc, .ref sd, .ref se, .int (nI pn), .ref ma, .ref mb, .ref mc, .ref rv, .int (nI mn), .int tol, .int (nI rn)]]) F hK hP hD hS i_X9_set_X9 tyX9 tyX9_ok nmX9 0 rfl rfl 0 (by decide) k_X9_set_f1 rfl (v := .int 0) rfl rfl (Nat.le_of_ble_eq_true rfl) rfl dX9_set_2 (fun H locs hP hD hS => ?_)
  refine lv_iload_n hx hb dX9_set_5 rfl (lv_at hl 1 rfl) ?_
  refine lv_iconst (v := 0) hx hb dX9_set_6 (by decide) ?_
  refine lv_sipush (v := 200) hx hb dX9_set_7 (by decide) ?_
  refine g_SI (wr := [gO mo 9 [.int 0, .ref zt, .int (nI tn), .int (nI sz), .ref zx, .ref zy, .ref zm, .ref zb, .int rt, .int w0, .int w1, .int w2, .int lg, .int nr, .int (nI yr), .ref va, .ref vb, .ref vc, .ref vd, .ref qa, .ref qb, .ref qc, .int (nI ln), .ref sa, .ref sb, .ref sc, .ref sd, .ref se, .int (nI pn), .ref ma, .ref mb, .ref mc, .ref rv, .int (nI mn), .int tol, .int (nI rn)]]) (As := [.int b1, .int 0, .int 200]) (rest := []) (n := 3) F (c_X9_isIn l g b1 0 200) gX9_set_X9_isIn rfl (by decide) ⟨by decide, by decide⟩ rfl hl.1 rfl (Nat.le_of_ble_eq_true rfl) dX9_set_10 ⟨Nat.le_of_ble_eq_true rfl, Nat.le_of_ble_eq_true rfl⟩ hK hP hD hS hA [] [0] (by decide) rfl rfl (by decide) (by decide) (fun r_10 u_10 H locs hw_10 hP hD hS => ?_)
  have hP : gP g [gO mo 9 [.int 0, .ref zt, .int (nI tn), .int (nI sz), .ref zx, .ref zy, .ref zm, .ref zb, .int rt, .int w0, .int w1, .int w2, .int lg, .int nr, .int (nI yr), .ref va, .ref vb, .ref vc, .ref vd, .ref qa, .ref qb, .ref qc, .int (nI ln), .ref sa, .ref sb, .ref sc, .ref sd, .ref se, .int (nI pn), .ref ma, .ref mb, .ref mc, .ref rv, .int (nI mn), .int tol, .int (nI rn)]] H := hP
  have hD : va_D A [gO mo 9 [.int 0, .ref zt, .int (nI tn), .int (nI sz), .ref zx, .ref zy, .ref zm, .ref zb, .int rt, .int w0, .int w1, .int w2, .int lg, .int nr, .int (nI yr), .ref va, .ref vb, .ref vc, .ref vd, .ref qa, .ref qb, .ref qc, .int (nI ln), .ref sa, .ref sb, .ref sc, .ref sd, .ref se, .int (nI pn), .ref ma, .ref mb, .ref mc, .ref rv, .int (nI mn), .int tol, .int (nI rn)]] := hD
  rcases hw_10 with ⟨rfl, b_10⟩ | ⟨rfl, b_10⟩
  · refine lv_if_eq (tgt := 70) hx hb dX9_set_13 (by decide) (fun h => absurd h (by decide)) (fun _ => ?_)
    refine lv_iload_n hx hb dX9_set_16 rfl (lv_at hl 2 rfl) ?_
    refine lv_iconst (v := 0) hx hb dX9_set_17 (by decide) ?_
    refine lv_bipush (v := 9) hx hb dX9_set_18 (by decide) ?_
    refine g_SI (wr := [gO mo 9 [.int 0, .ref zt, .int (nI tn), .int (nI sz), .ref zx, .ref zy, .ref zm, .ref zb, .int rt, .int w0, .int w1, .int w2, .int lg, .int nr, .int (nI yr), .ref va, .ref vb, .ref vc, .ref vd, .ref qa, .ref qb, .ref qc, .int (nI ln), .ref sa, .ref sb, .ref sc, .ref sd, .ref se, .int (nI pn), .ref ma, .ref mb, .ref mc, .ref rv, .int (nI mn), .int tol, .int (nI rn)]]) (As := [.int b2, .int 0, .int 9]) (rest := []) (n := 3) F (c_X9_isIn l g b2 0 9) gX9_set_X9_isIn rfl (by decide) ⟨by decide, by decide⟩ rfl hl.1 rfl (Nat.le_of_ble_eq_true rfl) dX9_set_20 ⟨Nat.le_of_ble_eq_true rfl, Nat.le_of_ble_eq_true rfl⟩ hK hP hD hS hA [] [0] (by decide) rfl rfl (by decide) (by decide) (fun r_20 u_20 H locs hw_20 hP hD hS => ?_)
    have hP : gP g [gO mo 9 [.int 0, .ref zt, .int (nI tn), .int (nI sz), .ref zx, .ref zy, .ref zm, .ref zb, .int rt, .int w0, .int w1, .int w2, .int lg, .int nr, .int (nI yr), .ref va, .ref vb, .ref vc, .ref vd, .ref qa, .ref qb, .ref qc, .int (nI ln), .ref sa, .ref sb, .ref sc, .ref sd, .ref se, .int (nI pn), .ref ma, .ref mb, .ref mc, .ref rv, .int (nI mn), .int tol, .int (nI rn)]] H := hP
    have hD : va_D A [gO mo 9 [.int 0, .ref zt, .int (nI tn), .int (nI sz), .ref zx, .ref zy, .ref zm, .ref zb, .int rt, .int w0, .int w1, .int w2, .int lg, .int nr, .int (nI yr), .ref va, .ref vb, .ref vc, .ref vd, .ref qa, .ref qb, .ref qc, .int (nI ln), .ref sa, .ref sb, .ref sc, .ref sd, .ref se, .int (nI pn), .ref ma, .ref mb, .ref mc, .ref rv, .int (nI mn), .int tol, .int (nI rn)]] := hD
    rcases hw_20 with ⟨rfl, b_20⟩ | ⟨rfl, b_20⟩
    · refine lv_if_eq (tgt := 70) hx hb dX9_set_23 (by decide) (fun h => absurd h (by decide)) (fun _ => ?_)
      refine lv_iload_n hx hb dX9_set_26 rfl (lv_at hl 3 rfl) ?_
      refine lv_iconst (v := 0) hx hb dX9_set_27 (by decide) ?_
      refine lv_bipush (v := 9) hx hb dX9_set_28 (by decide) ?_
      refine g_SI (wr := [gO mo 9 [.int 0, .ref zt, .int (nI tn), .int (nI sz), .ref zx, .ref zy, .ref zm, .ref zb, .int rt, .int w0, .int w1, .int w2, .int lg, .int nr, .int (nI yr), .ref va, .ref vb, .ref vc, .ref vd, .ref qa, .ref qb, .ref qc, .int (nI ln), .ref sa, .ref sb, .ref sc, .ref sd, .ref se, .int (nI pn), .ref ma, .ref mb, .ref mc, .ref rv, .int (nI mn), .int tol, .int (nI rn)]]) (As := [.int b3, .int 0, .int 9]) (rest := []) (n := 3) F (c_X9_isIn l g b3 0 9) gX9_set_X9_isIn rfl (by decide) ⟨by decide, by decide⟩ rfl hl.1 rfl (Nat.le_of_ble_eq_true rfl) dX9_set_30 ⟨Nat.le_of_ble_eq_true rfl, Nat.le_of_ble_eq_true rfl⟩ hK hP hD hS hA [] [0] (by decide) rfl rfl (by decide) (by decide) (fun r_30 u_30 H locs hw_30 hP hD hS => ?_)
      have hP : gP g [gO mo 9 [.int 0, .ref zt, .int (nI tn), .int (nI sz), .ref zx, .ref zy, .ref zm, .ref zb, .int rt, .int w0, .int w1, .int w2, .int lg, .int nr, .int (nI yr), .ref va, .ref vb, .ref vc, .ref vd, .ref qa, .ref qb, .ref qc, .int (nI ln), .ref sa, .ref sb, .ref sc, .ref sd, .ref se, .int (nI pn), .ref ma, .ref mb, .ref mc, .ref rv, .int (nI mn), .int tol, .int (nI rn)]] H := hP
      have hD : va_D A [gO mo 9 [.int 0, .ref zt, .int (nI tn), .int (nI sz), .ref zx, .ref zy, .ref zm, .ref zb, .int rt, .int w0, .int w1, .int w2, .int lg, .int nr, .int (nI yr), .ref va, .ref vb, .ref vc, .ref vd, .ref qa, .ref qb, .ref qc, .int (nI ln), .ref sa, .ref sb, .ref sc, .ref sd, .ref se, .int (nI pn), .ref ma, .ref mb, .ref mc, .ref rv, .int (nI mn), .int tol, .int (nI rn)]] := hD
      rcases hw_30 with ⟨rfl, b_30⟩ | ⟨rfl, b_30⟩
      · refine lv_if_eq (tgt := 70) hx hb dX9_set_33 (by decide) (fun h => absurd h (by decide)) (fun _ => ?_)
        refine lv_iload hx hb dX9_set_36 (lv_at hl 4 rfl) ?_
        refine lv_iconst (v := 0) hx hb dX9_set_38 (by decide) ?_
        refine lv_bipush (v := 9) hx hb dX9_set_39 (by decide) ?_
        refine g_SI (wr := [gO mo 9 [.int 0, .ref zt, .int (nI tn), .int (nI sz), .ref zx, .ref zy, .ref zm, .ref zb, .int rt, .int w0, .int w1, .int w2, .int lg, .int nr, .int (nI yr), .ref va, .ref vb, .ref vc, .ref vd, .ref qa, .ref qb, .ref qc, .int (nI ln), .ref sa, .ref sb, .ref sc, .ref sd, .ref se, .int (nI pn), .ref ma, .ref mb, .ref mc, .ref rv, .int (nI mn), .int tol, .int (nI rn)]]) (As := [.int b4, .int 0, .int 9]) (rest := []) (n := 3) F (c_X9_isIn l g b4 0 9) gX9_set_X9_isIn rfl (by decide) ⟨by decide, by decide⟩ rfl hl.1 rfl (Nat.le_of_ble_eq_true rfl) dX9_set_41 ⟨Nat.le_of_ble_eq_true rfl, Nat.le_of_ble_eq_true rfl⟩ hK hP hD hS hA [] [0] (by decide) rfl rfl (by decide) (by decide) (fun r_41 u_41 H locs hw_41 hP hD hS => ?_)
        have hP : gP g [gO mo 9 [.int 0, .ref zt, .int (nI tn), .int (nI sz), .ref zx, .ref zy, .ref zm, .ref zb, .int rt, .int w0, .int w1, .int w2, .int lg, .int nr, .int (nI yr), .ref va, .ref vb, .ref vc, .ref vd, .ref qa, .ref qb, .ref qc, .int (nI ln), .ref sa, .ref sb, .ref sc, .ref sd, .ref se, .int (nI pn), .ref ma, .ref mb, .ref mc, .ref rv, .int (nI mn), .int tol, .int (nI rn)]] H := hP
        have hD : va_D A [gO mo 9 [.int 0, .ref zt, .int (nI tn), .int (nI sz), .ref zx, .ref zy, .ref zm, .ref zb, .int rt, .int w0, .int w1, .int w2, .int lg, .int nr, .int (nI yr), .ref va, .ref vb, .ref vc, .ref vd, .ref qa, .ref qb, .ref qc, .int (nI ln), .ref sa, .ref sb, .ref sc, .ref sd, .ref se, .int (nI pn), .ref ma, .ref mb, .ref mc, .ref rv, .int (nI mn), .int tol, .int (nI rn)]] := hD
        rcases hw_41 with ⟨rfl, b_41⟩ | ⟨rfl, b_41⟩
        · refine lv_if_eq (tgt := 70) hx hb dX9_set_44 (by decide) (fun h => absurd h (by decide)) (fun _ => ?_)
          refine lv_iload hx hb dX9_set_47 (lv_at hl 5 rfl) ?_
          refine lv_bipush (v := 8) hx hb dX9_set_49 (by decide) ?_
          refine lv_bipush (v := 64) hx hb dX9_set_51 (by decide) ?_
          refine g_SI (wr := [gO mo 9 [.int 0, .ref zt, .int (nI tn), .int (nI sz), .ref zx, .ref zy, .ref zm, .ref zb, .int rt, .int w0, .int w1, .int w2, .int lg, .int nr, .int (nI yr), .ref va, .ref vb, .ref vc, .ref vd, .ref qa, .ref qb, .ref qc, .int (nI ln), .ref sa, .ref sb, .ref sc, .ref sd, .ref se, .int (nI pn), .ref ma, .ref mb, .ref mc, .ref rv, .int (nI mn), .int tol, .int (nI rn)]]) (As := [.int b5, .int 8, .int 64]) (rest := []) (n := 3) F (c_X9_isIn l g b5 8 64) gX9_set_X9_isIn rfl (by decide) ⟨by decide, by decide⟩ rfl hl.1 rfl (Nat.le_of_ble_eq_true rfl) dX9_set_53 ⟨Nat.le_of_ble_eq_true rfl, Nat.le_of_ble_eq_true rfl⟩ hK hP hD hS hA [] [0] (by decide) rfl rfl (by decide) (by decide) (fun r_53 u_53 H locs hw_53 hP hD hS => ?_)
          have hP : gP g [gO mo 9 [.int 0, .ref zt, .int (nI tn), .int (nI sz), .ref zx, .ref zy, .ref zm, .ref zb, .int rt, .int w0, .int w1, .int w2, .int lg, .int nr, .int (nI yr), .ref va, .ref vb, .ref vc, .ref vd, .ref qa, .ref qb, .ref qc, .int (nI ln), .ref sa, .ref sb, .ref sc, .ref sd, .ref se, .int (nI pn), .ref ma, .ref mb, .ref mc, .ref rv, .int (nI mn), .int tol, .int (nI rn)]] H := hP
          have hD : va_D A [gO mo 9 [.int 0, .ref zt, .int (nI tn), .int (nI sz), .ref zx, .ref zy, .ref zm, .ref zb, .int rt, .int w0, .int w1, .int w2, .int lg, .int nr, .int (nI yr), .ref va, .ref vb, .ref vc, .ref vd, .ref qa, .ref qb, .ref qc, .int (nI ln), .ref sa, .ref sb, .ref sc, .ref sd, .ref se, .int (nI pn), .ref ma, .ref mb, .ref mc, .ref rv, .int (nI mn), .int tol, .int (nI rn)]] := hD
          rcases hw_53 with ⟨rfl, b_53⟩ | ⟨rfl, b_53⟩
          · refine lv_if_eq (tgt := 70) hx hb dX9_set_56 (by decide) (fun h => absurd h (by decide)) (fun _ => ?_)
            refine lv_iload hx hb dX9_set_59 (lv_at hl 6 rfl) ?_
            refine lv_iconst (v := 1) hx hb dX9_set_61 (by decide) ?_
            refine lv_bipush (v := 32) hx hb dX9_set_62 (by decide) ?_
            refine g_SI (wr := [gO mo 9 [.int 0, .ref zt, .int (nI tn), .int (nI sz), .ref zx, .ref zy, .ref zm, .ref zb, .int rt, .int w0, .int w1, .int w2, .int lg, .int nr, .int (nI yr), .ref va, .ref vb, .ref vc, .ref vd, .ref qa, .ref qb, .ref qc, .int (nI ln), .ref sa, .ref sb, .ref sc, .ref sd, .ref se, .int (nI pn), .ref ma, .ref mb, .ref mc, .ref rv, .int (nI mn), .int tol, .int (nI rn)]]) (As := [.int b6, .int 1, .int 32]) (rest := []) (n := 3) F (c_X9_isIn l g b6 1 32) gX9_set_X9_isIn rfl (by decide) ⟨by decide, by decide⟩ rfl hl.1 rfl (Nat.le_of_ble_eq_true rfl) dX9_set_64 ⟨Nat.le_of_ble_eq_true rfl, Nat.le_of_ble_eq_true rfl⟩ hK hP hD hS hA [] [0] (by decide) rfl rfl (by decide) (by decide) (fun r_64 u_64 H locs hw_64 hP hD hS => ?_)
            have hP : gP g [gO mo 9 [.int 0, .ref zt, .int (nI tn), .int (nI sz), .ref zx, .ref zy, .ref zm, .ref zb, .int rt, .int w0, .int w1, .int w2, .int lg, .int nr, .int (nI yr), .ref va, .ref vb, .ref vc, .ref vd, .ref qa, .ref qb, .ref qc, .int (nI ln), .ref sa, .ref sb, .ref sc, .ref sd, .ref se, .int (nI pn), .ref ma, .ref mb, .ref mc, .ref rv, .int (nI mn), .int tol, .int (nI rn)]] H := hP
            have hD : va_D A [gO mo 9 [.int 0, .ref zt, .int (nI tn), .int (nI sz), .ref zx, .ref zy, .ref zm, .ref zb, .int rt, .int w0, .int w1, .int w2, .int lg, .int nr, .int (nI yr), .ref va, .ref vb, .ref vc, .ref vd, .ref qa, .ref qb, .ref qc, .int (nI ln), .ref sa, .ref sb, .ref sc, .ref sd, .ref se, .int (nI pn), .ref ma, .ref mb, .ref mc, .ref rv, .int (nI mn), .int tol, .int (nI rn)]] := hD
            rcases hw_64 with ⟨rfl, b_64⟩ | ⟨rfl, b_64⟩
            · refine lv_if_ne (tgt := 72) hx hb dX9_set_67 (by decide) (fun _ => ?_) (fun h => absurd h (by decide))
              refine lv_aload_n hx hb dX9_set_72 rfl (lv_at hl 0 rfl) ?_
              refine lv_iload_n hx hb dX9_set_73 rfl (lv_at hl 1 rfl) ?_
              refine g_put (C := RX9) (T := TX9) (N := 36) (ws2 := [gO mo 9 [.int 0, .ref zt, .int (nI tn), .int (nI sz), .ref zx, .ref zy, .ref zm, .ref zb, .int b1, .int w0, .int w1, .int w2, .int lg, .int nr, .int (nI yr), .ref va, .ref vb, .ref vc, .ref vd, .ref qa, .ref qb, .ref qc, .int (nI ln), .ref sa, .ref sb, .ref sc, .ref sd, .ref se, .int (nI pn), .ref ma, .ref mb, .ref mc, .ref rv, .int (nI mn), .int tol, .int (nI rn)]]) F hK hP hD hS i_X9_set_X9 tyX9 tyX9_ok nmX9 0 rfl rfl 8 (by decide) k_X9_set_f40 rfl (v := .int b1) rfl rfl (Nat.le_of_ble_eq_true rfl) rfl dX9_set_74 (fun H locs hP hD hS => ?_)
              refine lv_aload_n hx hb dX9_set_77 rfl (lv_at hl 0 rfl) ?_
              refine lv_iload_n hx hb dX9_set_78 rfl (lv_at hl 2 rfl) ?_
              refine g_put (C := RX9) (T := TX9) (N := 36) (ws2 := [gO mo 9 [.int 0, .ref zt, .int (nI tn), .int (nI sz), .ref zx, .ref zy, .ref zm, .ref zb, .int b1, .int b2, .int w1, .int w2, .int lg, .int nr, .int (nI yr), .ref va, .ref vb, .ref vc, .ref vd, .ref qa, .ref qb, .ref qc, .int (nI ln), .ref sa, .ref sb, .ref sc, .ref sd, .ref se, .int (nI pn), .ref ma, .ref mb, .ref mc, .ref rv, .int (nI mn), .int tol, .int (nI rn)]]) F hK hP hD hS i_X9_set_X9 tyX9 tyX9_ok nmX9 0 rfl rfl 9 (by decide) k_X9_set_f43 rfl (v := .int b2) rfl rfl (Nat.le_of_ble_eq_true rfl) rfl dX9_set_79 (fun H locs hP hD hS => ?_)
              refine lv_aload_n hx hb dX9_set_82 rfl (lv_at hl 0 rfl) ?_
              refine lv_iload_n hx hb dX9_set_83 rfl (lv_at hl 3 rfl) ?_
              refine g_put (C := RX9) (T := TX9) (N := 36) (ws2 := [gO mo 9 [.int 0, .ref zt, .int (nI tn), .int (nI sz), .ref zx, .ref zy, .ref zm, .ref zb, .int b1, .int b2, .int b3, .int w2, .int lg, .int nr, .int (nI yr), .ref va, .ref vb, .ref vc, .ref vd, .ref qa, .ref qb, .ref qc, .int (nI ln), .ref sa, .ref sb, .ref sc, .ref sd, .ref se, .int (nI pn), .ref ma, .ref mb, .ref mc, .ref rv, .int (nI mn), .int tol, .int (nI rn)]]) F hK hP hD hS i_X9_set_X9 tyX9 tyX9_ok nmX9 0 rfl rfl 10 (by decide) k_X9_set_f46 rfl (v := .int b3) rfl rfl (Nat.le_of_ble_eq_true rfl) rfl dX9_set_84 (fun H locs hP hD hS => ?_)
              refine lv_aload_n hx hb dX9_set_87 rfl (lv_at hl 0 rfl) ?_
              refine lv_iload hx hb dX9_set_88 (lv_at hl 4 rfl) ?_
              refine g_put (C := RX9) (T := TX9) (N := 36) (ws2 := [gO mo 9 [.int 0, .ref zt, .int (nI tn), .int (nI sz), .ref zx, .ref zy, .ref zm, .ref zb, .int b1, .int b2, .int b3, .int b4, .int lg, .int nr, .int (nI yr), .ref va, .ref vb, .ref vc, .ref vd, .ref qa, .ref qb, .ref qc, .int (nI ln), .ref sa, .ref sb, .ref sc, .ref sd, .ref se, .int (nI pn), .ref ma, .ref mb, .ref mc, .ref rv, .int (nI mn), .int tol, .int (nI rn)]]) F hK hP hD hS i_X9_set_X9 tyX9 tyX9_ok nmX9 0 rfl rfl 11 (by decide) k_X9_set_f49 rfl (v := .int b4) rfl rfl (Nat.le_of_ble_eq_true rfl) rfl dX9_set_90 (fun H locs hP hD hS => ?_)
              refine lv_aload_n hx hb dX9_set_93 rfl (lv_at hl 0 rfl) ?_
              refine lv_iload hx hb dX9_set_94 (lv_at hl 5 rfl) ?_
              refine g_put (C := RX9) (T := TX9) (N := 36) (ws2 := [gO mo 9 [.int 0, .ref zt, .int (nI tn), .int (nI sz), .ref zx, .ref zy, .ref zm, .ref zb, .int b1, .int b2, .int b3, .int b4, .int b5, .int nr, .int (nI yr), .ref va, .ref vb, .ref vc, .ref vd, .ref qa, .ref qb, .ref qc, .int (nI ln), .ref sa, .ref sb, .ref sc, .ref sd, .ref se, .int (nI pn), .ref ma, .ref mb, .ref mc, .ref rv, .int (nI mn), .int tol, .int (nI rn)]]) F hK hP hD hS i_X9_set_X9 tyX9 tyX9_ok nmX9 0 rfl rfl 12 (by decide) k_X9_set_f52 rfl (v := .int b5) rfl rfl (Nat.le_of_ble_eq_true rfl) rfl dX9_set_96 (fun H locs hP hD hS => ?_)
              refine lv_aload_n hx hb dX9_set_99 rfl (lv_at hl 0 rfl) ?_
              refine lv_iload hx hb dX9_set_100 (lv_at hl 6 rfl) ?_
              refine g_put (C := RX9) (T := TX9) (N := 36) (ws2 := [gO mo 9 [.int 0, .ref zt, .int (nI tn), .int (nI sz), .ref zx, .ref zy, .ref zm, .ref zb, .int b1, .int b2, .int b3, .int b4, .int b5, .int b6, .int (nI yr), .ref va, .ref vb, .ref vc, .ref vd, .ref qa, .ref qb, .ref qc, .int (nI ln), .ref sa, .ref sb, .ref sc, .ref sd, .ref se, .int (nI pn), .ref ma, .ref mb, .ref mc, .ref rv, .int (nI mn), .int tol, .int (nI rn)]]) F hK hP hD hS i_X9_set_X9 tyX9 tyX9_ok nmX9 0 rfl rfl 13 (by decide) k_X9_set_f55 rfl (v := .int b6) rfl rfl (Nat.le_of_ble_eq_true rfl) rfl dX9_set_102 (fun H locs hP hD hS => ?_)
              refine lv_iconst (v := 1) hx hb dX9_set_105 (by decide) ?_
              exact hret _ _ _ _ 1 () dX9_set_106 rfl (rfl) hP hD hS
            · refine lv_if_ne (tgt := 72) hx hb dX9_set_67 (by decide) (fun h => absurd (by decide) h) (fun _ => ?_)
              exact absurd h.2.2.2.2.2 b_64
          · refine lv_if_eq (tgt := 70) hx hb dX9_set_56 (by decide) (fun _ => ?_) (fun h => absurd (by decide) h)
            exact absurd h.2.2.2.2.1 b_53
        · refine lv_if_eq (tgt := 70) hx hb dX9_set_44 (by decide) (fun _ => ?_) (fun h => absurd (by decide) h)
          exact absurd h.2.2.2.1 b_41
      · refine lv_if_eq (tgt := 70) hx hb dX9_set_33 (by decide) (fun _ => ?_) (fun h => absurd (by decide) h)
        exact absurd h.2.2.1 b_30
    · refine lv_if_eq (tgt := 70) hx hb dX9_set_23 (by decide) (fun _ => ?_) (fun h => absurd (by decide) h)
      exact absurd h.2.1 b_20
  · refine lv_if_eq (tgt := 70) hx hb dX9_set_13 (by decide) (fun _ => ?_) (fun h => absurd (by decide) h)
    exact absurd h.1 b_10

theorem bnk_i {t : Nat} (h : t < 256) : isW 0 9 (nI t).toInt8.toInt32 ↔ t ≤ 9 := by
  have : ∀ q : Fin 256, (¬ (nI q.val).toInt8.toInt32 < 0 ∧ ¬ 9 < (nI q.val).toInt8.toInt32) ↔ q.val ≤ 9 := by decide +kernel
  exact this ⟨t, h⟩
theorem bnk_s {t : Nat} (h : t ≤ 9) : (nI t).toInt8.toInt32 = nI t := by
  have : ∀ q : Fin 10, (nI q.val).toInt8.toInt32 = nI q.val := by decide +kernel
  exact this ⟨t, by omega⟩
abbrev rm_X9_banks : Room := { frames := 1, cells := 0, slots := 0, locals := 22 }
theorem i_X9_banks_X9 : ∀ w ∈ wsX90, w ∈ wsX9_banks := by decide +kernel
theorem k_X9_banks_f1 : Cond.fieldLink RX9 1 (TX9 0).1 (TX9 0).2.1 (TX9 0).2.2.1 ∈ wsX9_banks := by decide +kernel
theorem k_X9_banks_f18 : Cond.fieldLink RX9 18 (TX9 3).1 (TX9 3).2.1 (TX9 3).2.2.1 ∈ wsX9_banks := by decide +kernel
theorem k_X9_banks_f14 : Cond.fieldLink RX9 14 (TX9 1).1 (TX9 1).2.1 (TX9 1).2.2.1 ∈ wsX9_banks := by decide +kernel
set_option maxHeartbeats 4000000 in
set_option maxRecDepth 100000 in
theorem c_X9_banks_n (l : Launch) (g : gT) (mo : Nat) (th : Int32) (zt : Nat) (tn : Nat) (sz : Nat) (zx : Nat) (zy : Nat) (zm : Nat) (zb : Nat) (rt : Int32) (w0 : Int32) (w1 : Int32) (w2 : Int32) (lg : Int32) (nr : Int32) (yr : Nat) (va : Nat) (vb : Nat) (vc : Nat) (vd : Nat) (qa : Nat) (qb : Nat) (qc : Nat) (ln : Nat) (sa : Nat) (sb : Nat) (sc : Nat) (sd : Nat) (se : Nat) (pn : Nat) (ma : Nat) (mb : Nat) (mc : Nat) (rv : Nat) (mn : Nat) (tol : Int32) (rn : Nat) (ft : Nat → Int32) (T : Nat → Nat) (htn : tn ≤ 200) (hT : ∀ k, k < tn → ft k = (nI (T k)).toInt8.toInt32) (h256 : ∀ k, T k < 256) (h : ¬ bnkP T tn) : CtI l g yX9_banks wsX9_banks rm_X9_banks [.ref mo] [gO mo 9 [.int th, .ref zt, .int (nI tn), .int (nI sz), .ref zx, .ref zy, .ref zm, .ref zb, .int rt, .int w0, .int w1, .int w2, .int lg, .int nr, .int (nI yr), .ref va, .ref vb, .ref vc, .ref vd, .ref qa, .ref qb, .ref qc, .int (nI ln), .ref sa, .ref sb, .ref sc, .ref sd, .ref se, .int (nI pn), .ref ma, .ref mb, .ref mc, .ref rv, .int (nI mn), .int tol, .int (nI rn)], gB g zt 200 ft] (fun (r : Int32) (_ : Unit) => r = 0) (fun (_ : Unit) => [gO mo 9 [.int 0, .ref zt, .int 0, .int (nI tn), .ref zx, .ref zy, .ref zm, .ref zb, .int rt, .int w0, .int w1, .int w2, .int lg, .int nr, .int (nI yr), .ref va, .ref vb, .ref vc, .ref vd, .ref qa, .ref qb, .ref qc, .int (nI ln), .ref sa, .ref sb, .ref sc, .ref sd, .ref se, .int (nI pn), .ref ma, .ref mb, .ref mc, .ref rv, .int (nI mn), .int tol, .int (nI rn)], gB g zt 200 ft]) := by
  refine CtI.of (cc := cX9_banks) (maxL := 2) (ret := .boolean) (by decide) rfl (Nat.le_of_ble_eq_true rfl) ?_
  intro p e s m args below meth c A Q hnm F hK hA hP hD hS hret ls hl
  have hx := F.1
  have hb := F.2.1
  have hl : lv_has ls 2 [(0, .ref mo)] := hl
  refine lv_aload_n hx hb dX9_banks_0 rfl (lv_at hl 0 rfl) ?_
  refine lv_iconst (v := 0) hx hb dX9_banks_1 (by decide) ?_
  refine g_put (C := RX9) (T := TX9) (N := 36) (ws2 := [gO mo 9 [.int 0, .ref zt, .int (nI tn), .int (nI sz), .ref zx, .ref zy, .ref zm, .ref zb, .int rt, .int w0, .int w1, .int w2, .int lg, .int nr, .int (nI yr), .ref va, .ref vb, .ref vc, .ref vd, .ref qa, .ref qb, .ref qc, .int (nI ln), .ref sa, .ref sb, .ref sc, .ref sd, .ref se, .int (nI pn), .ref ma, .ref mb, .ref mc, .ref rv, .int (nI mn), .int tol, .int (nI rn)], gB g zt 200 ft]) F hK hP hD hS i_X9_banks_X9 tyX9 tyX9_ok nmX9 0 rfl rfl 0 (by decide) k_X9_banks_f1 rfl (v := .int 0) rfl rfl (Nat.le_of_ble_eq_true rfl) rfl dX9_banks_2 (fun H locs hP hD hS => ?_)
  refine lv_aload_n hx hb dX9_banks_5 rfl (lv_at hl 0 rfl) ?_
  refine g_VV (wr := [gB g zt 200 ft]) (As := []) (rest := []) (n := 0) F (c_X9_taken l g mo 0 zt tn sz zx zy zm zb rt w0 w1 w2 lg nr yr va vb vc vd qa qb qc ln sa sb sc sd se pn ma mb mc rv mn tol rn) gX9_banks_X9_taken rfl (by decide) ⟨by decide, by decide⟩ 0 9 rfl rfl rfl rfl hl.1 rfl (Nat.le_of_ble_eq_true rfl) dX9_banks_6 ⟨Nat.le_of_ble_eq_true rfl, Nat.le_of_ble_eq_true rfl⟩ hK hP hD hS hA [0] [1] (by decide) rfl rfl (by decide) (by decide) (fun u_6 H locs hw_6 hP hD hS => ?_)
  have hP : gP g [gB g zt 200 ft, gO mo 9 [.int 0, .ref zt, .int 0, .int (nI tn), .ref zx, .ref zy, .ref zm, .ref zb, .int rt, .int w0, .int w1, .int w2, .int lg, .int nr, .int (nI yr), .ref va, .ref vb, .ref vc, .ref vd, .ref qa, .ref qb, .ref qc, .int (nI ln), .ref sa, .ref sb, .ref sc, .ref sd, .ref se, .int (nI pn), .ref ma, .ref mb, .ref mc, .ref rv, .int (nI mn), .int tol, .int (nI rn)]] H := hP
  have hD : va_D A [gB g zt 200 ft, gO mo 9 [.int 0, .ref zt, .int 0, .int (nI tn), .ref zx, .ref zy, .ref zm, .ref zb, .int rt, .int w0, .int w1, .int w2, .int lg, .int nr, .int (nI yr), .ref va, .ref vb, .ref vc, .ref vd, .ref qa, .ref qb, .ref qc, .int (nI ln), .ref sa, .ref sb, .ref sc, .ref sd, .ref se, .int (nI pn), .ref ma, .ref mb, .ref mc, .ref rv, .int (nI mn), .int tol, .int (nI rn)]] := hD
  refine lv_aload_n hx hb dX9_banks_9 rfl (lv_at hl 0 rfl) ?_
  refine g_get (C := RX9) (T := TX9) (N := 36) F hK hP i_X9_banks_X9 1 rfl rfl 3 (by decide) k_X9_banks_f18 (v := .int (nI tn)) rfl dX9_banks_10 ?_
  refine lv_bipush (v := 64) hx hb dX9_banks_13 (by decide) ?_
  refine n_icmp_eq (a := tn) (b := 64) (tgt := 20) hx hb dX9_banks_15 (by decide) (by omega) (by omega) (fun c_15 => ?_) (fun c_15 => ?_)
  · refine lv_iconst (v := 0) hx hb dX9_banks_20 (by decide) ?_
    refine lv_istore_n (lv' := [(1, .int 0), (0, .ref mo)]) hx hb dX9_banks_21 rfl hl (by decide) rfl (fun ls hl => ?_)
    have L22 : ∀ (fuel : Nat) (i : Nat) (ls : Array Slot) (H : Heap) (locs : List Loc), 64 - i < fuel → (i ≤ 64) → (∀ k, k < i → T k ≤ 9) → lv_has ls 2 [(0, .ref mo), (1, .int (nI i))] → gP g [gO mo 9 [.int 0, .ref zt, .int 0, .int (nI tn), .ref zx, .ref zy, .ref zm, .ref zb, .int rt, .int w0, .int w1, .int w2, .int lg, .int nr, .int (nI yr), .ref va, .ref vb, .ref vc, .ref vd, .ref qa, .ref qb, .ref qc, .int (nI ln), .ref sa, .ref sb, .ref sc, .ref sd, .ref se, .int (nI pn), .ref ma, .ref mb, .ref mc, .ref rv, .int (nI mn), .int tol, .int (nI rn)], gB g zt 200 ft] H → va_D A [gO mo 9 [.int 0, .ref zt, .int 0, .int (nI tn), .ref zx, .ref zy, .ref zm, .ref zb, .int rt, .int w0, .int w1, .int w2, .int lg, .int nr, .int (nI yr), .ref va, .ref vb, .ref vc, .ref vd, .ref qa, .ref qb, .ref qc, .int (nI ln), .ref sa, .ref sb, .ref sc, .ref sd, .ref se, .int (nI pn), .ref ma, .ref mb, .ref mc, .ref rv, .int (nI mn), .int tol, .int (nI rn)], gB g zt 200 ft] → va_S A s.heap H locs → W p l e rm_X9_banks s m args below meth c H locs 0 0 Q (F0 m 22 ls []) := by
      intro fuel
      induction fuel with
      | zero => intro i _ _ _ hk; exact absurd hk (Nat.not_lt_zero _)
      | succ fuel_22 ih_22 =>
        intro i ls H locs hk_22 hi h1 hl hP hD hS
        refine lv_iload_n hx hb dX9_banks_22 rfl (lv_at hl 1 rfl) ?_
        refine lv_bipush (v := 64) hx hb dX9_banks_23 (by decide) ?_
        refine n_icmp_ge (a := i) (b := 64) (tgt := 51) hx hb dX9_banks_25 (by decide) (by omega) (by omega) (fun c_25 => ?_) (fun c_25 => ?_)
        · exact absurd ⟨c_15, fun k hk => h1 k (by omega)⟩ h
        · refine lv_aload_n hx hb dX9_banks_28 rfl (lv_at hl 0 rfl) ?_
          refine g_get (C := RX9) (T := TX9) (N := 36) F hK hP i_X9_banks_X9 0 rfl rfl 1 (by decide) k_X9_banks_f14 (v := .ref zt) rfl dX9_banks_29 ?_
          refine lv_iload_n hx hb dX9_banks_32 rfl (lv_at hl 1 rfl) ?_
          refine g_bald (i := i) (v := ((nI (T i)).toInt8.toInt32)) hx hb hK hP 1 rfl (by decide) (by omega) (hT i (by omega)) dX9_banks_33 ?_
          refine lv_iconst (v := 0) hx hb dX9_banks_34 (by decide) ?_
          refine lv_bipush (v := 9) hx hb dX9_banks_35 (by decide) ?_
          refine g_SI (wr := [gO mo 9 [.int 0, .ref zt, .int 0, .int (nI tn), .ref zx, .ref zy, .ref zm, .ref zb, .int rt, .int w0, .int w1, .int w2, .int lg, .int nr, .int (nI yr), .ref va, .ref vb, .ref vc, .ref vd, .ref qa, .ref qb, .ref qc, .int (nI ln), .ref sa, .ref sb, .ref sc, .ref sd, .ref se, .int (nI pn), .ref ma, .ref mb, .ref mc, .ref rv, .int (nI mn), .int tol, .int (nI rn)], gB g zt 200 ft]) (As := [.int ((nI (T i)).toInt8.toInt32), .int 0, .int 9]) (rest := []) (n := 3) F (c_X9_isIn l g ((nI (T i)).toInt8.toInt32) 0 9) gX9_banks_X9_isIn rfl (by decide) ⟨by decide, by decide⟩ rfl hl.1 rfl (Nat.le_of_ble_eq_true rfl) dX9_banks_37 ⟨Nat.le_of_ble_eq_true rfl, Nat.le_of_ble_eq_true rfl⟩ hK hP hD hS hA [] [0, 1] (by decide) rfl rfl (by decide) (by decide) (fun r_37 u_37 H locs hw_37 hP hD hS => ?_)
          have hP : gP g [gO mo 9 [.int 0, .ref zt, .int 0, .int (nI tn), .ref zx, .ref zy, .ref zm, .ref zb, .int rt, .int w0, .int w1, .int w2, .int lg, .int nr, .int (nI yr), .ref va, .ref vb, .ref vc, .ref vd, .ref qa, .ref qb, .ref qc, .int (nI ln), .ref sa, .ref sb, .ref sc, .ref sd, .ref se, .int (nI pn), .ref ma, .ref mb, .ref mc, .ref rv, .int (nI mn), .int tol, .int (nI rn)], gB g zt 200 ft] H := hP
          have hD : va_D A [gO mo 9 [.int 0, .ref zt, .int 0, .int (nI tn), .ref zx, .ref zy, .ref zm, .ref zb, .int rt, .int w0, .int w1, .int w2, .int lg, .int nr, .int (nI yr), .ref va, .ref vb, .ref vc, .ref vd, .ref qa, .ref qb, .ref qc, .int (nI ln), .ref sa, .ref sb, .ref sc, .ref sd, .ref se, .int (nI pn), .ref ma, .ref mb, .ref mc, .ref rv, .int (nI mn), .int tol, .int (nI rn)], gB g zt 200 ft] := hD
          rcases hw_37 with ⟨rfl, b_37⟩ | ⟨rfl, b_37⟩
          · refine lv_if_ne (tgt := 45) hx hb dX9_banks_40 (by decide) (fun _ => ?_) (fun h => absurd h (by decide))
            refine lv_iinc (v := (nI (i + 1))) (lv' := [(1, .int (nI (i + 1))), (0, .ref mo)]) hx hb dX9_banks_45 hl (k := 1) rfl (g_inc i 1 (by decide)) (by decide) rfl (fun ls hl => ?_)
            refine lv_goto (tgt := 22) hx hb dX9_banks_48 (by decide) ?_
            exact ih_22 (i + 1) ls _ _ (by omega) (by omega) (fun k hk => by by_cases e : k = i; (subst e; exact (bnk_i (h256 _)).mp b_37); exact h1 k (by omega)) (lv_sub hl [1, 0] rfl) hP hD hS
          · refine lv_if_ne (tgt := 45) hx hb dX9_banks_40 (by decide) (fun h => absurd (by decide) h) (fun _ => ?_)
            refine lv_iconst (v := 0) hx hb dX9_banks_43 (by decide) ?_
            exact hret _ _ _ _ 0 () dX9_banks_44 rfl (rfl) hP hD hS
    exact L22 ((64 - 0) + 1) 0 ls _ _ (Nat.lt_succ_self _) (by omega) (fun j hj => absurd hj (Nat.not_lt_zero j)) (lv_sub hl [1, 0] rfl) (hP.sub [1, 0] rfl) (hD.sub [1, 0] (by decide) rfl) hS
  · refine lv_iconst (v := 0) hx hb dX9_banks_18 (by decide) ?_
    have hP9 := hP.sub (ws' := [gO mo 9 [.int 0, .ref zt, .int 0, .int (nI tn), .ref zx, .ref zy, .ref zm, .ref zb, .int rt, .int w0, .int w1, .int w2, .int lg, .int nr, .int (nI yr), .ref va, .ref vb, .ref vc, .ref vd, .ref qa, .ref qb, .ref qc, .int (nI ln), .ref sa, .ref sb, .ref sc, .ref sd, .ref se, .int (nI pn), .ref ma, .ref mb, .ref mc, .ref rv, .int (nI mn), .int tol, .int (nI rn)], gB g zt 200 ft]) [1, 0] rfl
    have hD9 := hD.sub (ws' := [gO mo 9 [.int 0, .ref zt, .int 0, .int (nI tn), .ref zx, .ref zy, .ref zm, .ref zb, .int rt, .int w0, .int w1, .int w2, .int lg, .int nr, .int (nI yr), .ref va, .ref vb, .ref vc, .ref vd, .ref qa, .ref qb, .ref qc, .int (nI ln), .ref sa, .ref sb, .ref sc, .ref sd, .ref se, .int (nI pn), .ref ma, .ref mb, .ref mc, .ref rv, .int (nI mn), .int tol, .int (nI rn)], gB g zt 200 ft]) [1, 0] (by decide) rfl
    exact hret _ _ _ _ 0 () dX9_banks_19 rfl (rfl) hP9 hD9 hS

theorem k_X9_banks_f37 : Cond.fieldLink RX9 37 (TX9 7).1 (TX9 7).2.1 (TX9 7).2.2.1 ∈ wsX9_banks := by decide +kernel
set_option maxHeartbeats 4000000 in
set_option maxRecDepth 100000 in
theorem c_X9_banks_y (l : Launch) (g : gT) (mo : Nat) (th : Int32) (zt : Nat) (tn : Nat) (sz : Nat) (zx : Nat) (zy : Nat) (zm : Nat) (zb : Nat) (rt : Int32) (w0 : Int32) (w1 : Int32) (w2 : Int32) (lg : Int32) (nr : Int32) (yr : Nat) (va : Nat) (vb : Nat) (vc : Nat) (vd : Nat) (qa : Nat) (qb : Nat) (qc : Nat) (ln : Nat) (sa : Nat) (sb : Nat) (sc : Nat) (sd : Nat) (se : Nat) (pn : Nat) (ma : Nat) (mb : Nat) (mc : Nat) (rv : Nat) (mn : Nat) (tol : Int32) (rn : Nat) (ft : Nat → Int32) (T : Nat → Nat) (fb : Nat → Int32) (htn : tn ≤ 200) (hT : ∀ k, k < tn → ft k = (nI (T k)).toInt8.toInt32) (h256 : ∀ k, T k < 256) (h : bnkP T tn) : CtI l g yX9_banks wsX9_banks rm_X9_banks [.ref mo] [gO mo 9 [.int th, .ref zt, .int (nI tn), .int (nI sz), .ref zx, .ref zy, .ref zm, .ref zb, .int rt, .int w0, .int w1, .int w2, .int lg, .int nr, .int (nI yr), .ref va, .ref vb, .ref vc, .ref vd, .ref qa, .ref qb, .ref qc, .int (nI ln), .ref sa, .ref sb, .ref sc, .ref sd, .ref se, .int (nI pn), .ref ma, .ref mb, .ref mc, .ref rv, .int (nI mn), .int tol, .int (nI rn)], gB g zt 200 ft, gI g zb 64 fb] (fun (r : Int32) (fb2 : (Nat → Int32)) => r = 1 ∧ (∀ k, k < 64 → fb2 k = nI (T k))) (fun (fb2 : (Nat → Int32)) => [gO mo 9 [.int 0, .ref zt, .int 0, .int (nI tn), .ref zx, .ref zy, .ref zm, .ref zb, .int rt, .int w0, .int w1, .int w2, .int lg, .int nr, .int (nI yr), .ref va, .ref vb, .ref vc, .ref vd, .ref qa, .ref qb, .ref qc, .int (nI ln), .ref sa, .ref sb, .ref sc, .ref sd, .ref se, .int (nI pn), .ref ma, .ref mb, .ref mc, .ref rv, .int (nI mn), .int tol, .int (nI rn)], gB g zt 200 ft, gI g zb 64 fb2]) := by
  refine CtI.of (cc := cX9_banks) (maxL := 2) (ret := .boolean) (by decide) rfl (Nat.le_of_ble_eq_true rfl) ?_
  intro p e s m args below meth c A Q hnm F hK hA hP hD hS hret ls hl
  have hx := F.1
  have hb := F.2.1
  have hl : lv_has ls 2 [(0, .ref mo)] := hl
  refine lv_aload_n hx hb dX9_banks_0 rfl (lv_at hl 0 rfl) ?_
  refine lv_iconst (v := 0) hx hb dX9_banks_1 (by decide) ?_
  refine g_put (C := RX9) (T := TX9) (N := 36) (ws2 := [gO mo 9 [.int 0, .ref zt, .int (nI tn), .int (nI sz), .ref zx, .ref zy, .ref zm, .ref zb, .int rt, .int w0, .int w1, .int w2, .int lg, .int nr, .int (nI yr), .ref va, .ref vb, .ref vc, .ref vd, .ref qa, .ref qb, .ref qc, .int (nI ln), .ref sa, .ref sb, .ref sc, .ref sd, .ref se, .int (nI pn), .ref ma, .ref mb, .ref mc, .ref rv, .int (nI mn), .int tol, .int (nI rn)], gB g zt 200 ft, gI g zb 64 fb]) F hK hP hD hS i_X9_banks_X9 tyX9 tyX9_ok nmX9 0 rfl rfl 0 (by decide) k_X9_banks_f1 rfl (v := .int 0) rfl rfl (Nat.le_of_ble_eq_true rfl) rfl dX9_banks_2 (fun H locs hP hD hS => ?_)
  refine lv_aload_n hx hb dX9_banks_5 rfl (lv_at hl 0 rfl) ?_
  refine g_VV (wr := [gB g zt 200 ft, gI g zb 64 fb]) (As := []) (rest := []) (n := 0) F (c_X9_taken l g mo 0 zt tn sz zx zy zm zb rt w0 w1 w2 lg nr yr va vb vc vd qa qb qc ln sa sb sc sd se pn ma mb mc rv mn tol rn) gX9_banks_X9_taken rfl (by decide) ⟨by decide, by decide⟩ 0 9 rfl rfl rfl rfl hl.1 rfl (Nat.le_of_ble_eq_true rfl) dX9_banks_6 ⟨Nat.le_of_ble_eq_true rfl, Nat.le_of_ble_eq_true rfl⟩ hK hP hD hS hA [0] [1, 2] (by decide) rfl rfl (by decide) (by decide) (fun u_6 H locs hw_6 hP hD hS => ?_)
  have hP : gP g [gB g zt 200 ft, gI g zb 64 fb, gO mo 9 [.int 0, .ref zt, .int 0, .int (nI tn), .ref zx, .ref zy, .ref zm, .ref zb, .int rt, .int w0, .int w1, .int w2, .int lg, .int nr, .int (nI yr), .ref va, .ref vb, .ref vc, .ref vd, .ref qa, .ref qb, .ref qc, .int (nI ln), .ref sa, .ref sb, .ref sc, .ref sd, .ref se, .int (nI pn), .ref ma, .ref mb, .ref mc, .ref rv, .int (nI mn), .int tol, .int (nI rn)]] H := hP
  have hD : va_D A [gB g zt 200 ft, gI g zb 64 fb, gO mo 9 [.int 0, .ref zt, .int 0, .int (nI tn), .ref zx, .ref zy, .ref zm, .ref zb, .int rt, .int w0, .int w1, .int w2, .int lg, .int nr, .int (nI yr), .ref va, .ref vb, .ref vc, .ref vd, .ref qa, .ref qb, .ref qc, .int (nI ln), .ref sa, .ref sb, .ref sc, .ref sd, .ref se, .int (nI pn), .ref ma, .ref mb, .ref mc, .ref rv, .int (nI mn), .int tol, .int (nI rn)]] := hD
  have h64 := h.1
  refine lv_aload_n hx hb dX9_banks_9 rfl (lv_at hl 0 rfl) ?_
  refine g_get (C := RX9) (T := TX9) (N := 36) F hK hP i_X9_banks_X9 2 rfl rfl 3 (by decide) k_X9_banks_f18 (v := .int (nI tn)) rfl dX9_banks_10 ?_
  refine lv_bipush (v := 64) hx hb dX9_banks_13 (by decide) ?_
  refine n_icmp_eq (a := tn) (b := 64) (tgt := 20) hx hb dX9_banks_15 (by decide) (by omega) (by omega) (fun c_15 => ?_) (fun h => absurd h64 h)
  refine lv_iconst (v := 0) hx hb dX9_banks_20 (by decide) ?_
  refine lv_istore_n (lv' := [(1, .int 0), (0, .ref mo)]) hx hb dX9_banks_21 rfl hl (by decide) rfl (fun ls hl => ?_)
  have L22 : ∀ (fuel : Nat) (i : Nat) (ls : Array Slot) (H : Heap) (locs : List Loc), 64 - i < fuel → (i ≤ 64) → lv_has ls 2 [(0, .ref mo), (1, .int (nI i))] → gP g [gO mo 9 [.int 0, .ref zt, .int 0, .int (nI tn), .ref zx, .ref zy, .ref zm, .ref zb, .int rt, .int w0, .int w1, .int w2, .int lg, .int nr, .int (nI yr), .ref va, .ref vb, .ref vc, .ref vd, .ref qa, .ref qb, .ref qc, .int (nI ln), .ref sa, .ref sb, .ref sc, .ref sd, .ref se, .int (nI pn), .ref ma, .ref mb, .ref mc, .ref rv, .int (nI mn), .int tol, .int (nI rn)], gB g zt 200 ft, gI g zb 64 fb] H → va_D A [gO mo 9 [.int 0, .ref zt, .int 0, .int (nI tn), .ref zx, .ref zy, .ref zm, .ref zb, .int rt, .int w0, .int w1, .int w2, .int lg, .int nr, .int (nI yr), .ref va, .ref vb, .ref vc, .ref vd, .ref qa, .ref qb, .ref qc, .int (nI ln), .ref sa, .ref sb, .ref sc, .ref sd, .ref se, .int (nI pn), .ref ma, .ref mb, .ref mc, .ref rv, .int (nI mn), .int tol, .int (nI rn)], gB g zt 200 ft, gI g zb 64 fb] → va_S A s.heap H locs → W p l e rm_X9_banks s m args below meth c H locs 0 0 Q (F0 m 22 ls []) := by
    intro fuel
    induction fuel with
    | zero => intro i _ _ _ hk; exact absurd hk (Nat.not_lt_zero _)
    | succ fuel_22 ih_22 =>
      intro i ls H locs hk_22 hi hl hP hD hS
      refine lv_iload_n hx hb dX9_banks_22 rfl (lv_at hl 1 rfl) ?_
      refine lv_bipush (v := 64) hx hb dX9_banks_23 (by decide) ?_
      refine n_icmp_ge (a := i) (b := 64) (tgt := 51) hx hb dX9_banks_25 (by decide) (by omega) (by omega) (fun c_25 => ?_) (fun c_25 => ?_)
      · refine lv_iconst (v := 0) hx hb dX9_banks_51 (by decide) ?_
        refine lv_istore_n (lv' := [(1, .int 0), (0, .ref mo)]) hx hb dX9_banks_52 rfl hl (by decide) rfl (fun ls hl => ?_)
        have L53 : ∀ (fuel : Nat) (i : Nat) (f_ : Nat → Int32) (ls : Array Slot) (H : Heap) (locs : List Loc), 64 - i < fuel → (i ≤ 64) → (∀ k, k < i → f_ k = nI (T k)) → lv_has ls 2 [(0, .ref mo), (1, .int (nI i))] → gP g [gO mo 9 [.int 0, .ref zt, .int 0, .int (nI tn), .ref zx, .ref zy, .ref zm, .ref zb, .int rt, .int w0, .int w1, .int w2, .int lg, .int nr, .int (nI yr), .ref va, .ref vb, .ref vc, .ref vd, .ref qa, .ref qb, .ref qc, .int (nI ln), .ref sa, .ref sb, .ref sc, .ref sd, .ref se, .int (nI pn), .ref ma, .ref mb, .ref mc, .ref rv, .int (nI mn), .int tol, .int (nI rn)], gB g zt 200 ft, gI g zb 64 f_] H → va_D A [gO mo 9 [.int 0, .ref zt, .int 0, .int (nI tn), .ref zx, .ref zy, .ref zm, .ref zb, .int rt, .int w0, .int w1, .int w2, .int lg, .int nr, .int (nI yr), .ref va, .ref vb, .ref vc, .ref vd, .ref qa, .ref qb, .ref qc, .int (nI ln), .ref sa, .ref sb, .ref sc, .ref sd, .ref se, .int (nI pn), .ref ma, .ref mb, .ref mc, .ref rv, .int (nI mn), .int tol, .int (nI rn)], gB g zt 200 ft, gI g zb 64 f_] → va_S A s.heap H locs → W p l e rm_X9_banks s m args below meth c H locs 0 0 Q (F0 m 53 ls []) := by
          intro fuel
          induction fuel with
          | zero => intro i f_ _ _ _ hk; exact absurd hk (Nat.not_lt_zero _)
          | succ fuel_53 ih_53 =>
            intro i f_ ls H locs hk_53 hi h1 hl hP hD hS
            refine lv_iload_n hx hb dX9_banks_53 rfl (lv_at hl 1 rfl) ?_
            refine lv_bipush (v := 64) hx hb dX9_banks_54 (by decide) ?_
            refine n_icmp_ge (a := i) (b := 64) (tgt := 77) hx hb dX9_banks_56 (by decide) (by omega) (by omega) (fun c_56 => ?_) (fun c_56 => ?_)
            · refine lv_iconst (v := 1) hx hb dX9_banks_77 (by decide) ?_
              exact hret _ _ _ _ 1 f_ dX9_banks_78 rfl (⟨rfl, fun k hk => h1 k (by omega)⟩) hP hD hS
            · refine lv_aload_n hx hb dX9_banks_59 rfl (lv_at hl 0 rfl) ?_
              refine g_get (C := RX9) (T := TX9) (N := 36) F hK hP i_X9_banks_X9 0 rfl rfl 7 (by decide) k_X9_banks_f37 (v := .ref zb) rfl dX9_banks_60 ?_
              refine lv_iload_n hx hb dX9_banks_63 rfl (lv_at hl 1 rfl) ?_
              refine lv_aload_n hx hb dX9_banks_64 rfl (lv_at hl 0 rfl) ?_
              refine g_get (C := RX9) (T := TX9) (N := 36) F hK hP i_X9_banks_X9 0 rfl rfl 1 (by decide) k_X9_banks_f14 (v := .ref zt) rfl dX9_banks_65 ?_
              refine lv_iload_n hx hb dX9_banks_68 rfl (lv_at hl 1 rfl) ?_
              refine g_bald (i := i) (v := ((nI (T i)).toInt8.toInt32)) hx hb hK hP 1 rfl (by decide) (by omega) (hT i (by omega)) dX9_banks_69 ?_
              refine g_iast (i := i) (ws2 := [gO mo 9 [.int 0, .ref zt, .int 0, .int (nI tn), .ref zx, .ref zy, .ref zm, .ref zb, .int rt, .int w0, .int w1, .int w2, .int lg, .int nr, .int (nI yr), .ref va, .ref vb, .ref vc, .ref vd, .ref qa, .ref qb, .ref qc, .int (nI ln), .ref sa, .ref sb, .ref sc, .ref sd, .ref se, .int (nI pn), .ref ma, .ref mb, .ref mc, .ref rv, .int (nI mn), .int tol, .int (nI rn)], gB g zt 200 ft, gI g zb 64 (upd f_ i ((nI (T i)).toInt8.toInt32))]) hx hb hK hP hD hS 2 rfl (by decide) (by omega) rfl dX9_banks_70 (fun H locs hP hD hS => ?_)
              refine lv_iinc (v := (nI (i + 1))) (lv' := [(1, .int (nI (i + 1))), (0, .ref mo)]) hx hb dX9_banks_71 hl (k := 1) rfl (g_inc i 1 (by decide)) (by decide) rfl (fun ls hl => ?_)
              refine lv_goto (tgt := 53) hx hb dX9_banks_74 (by decide) ?_
              exact ih_53 (i + 1) (upd f_ i ((nI (T i)).toInt8.toInt32)) ls _ _ (by omega) (by omega) (upd_c (X := fun k => nI (T k)) h1 (bnk_s (h.2 _ (by omega)))) (lv_sub hl [1, 0] rfl) hP hD hS
        exact L53 ((64 - 0) + 1) 0 fb ls _ _ (Nat.lt_succ_self _) (by omega) (fun j hj => absurd hj (Nat.not_lt_zero j)) (lv_sub hl [1, 0] rfl) hP hD hS
      · refine lv_aload_n hx hb dX9_banks_28 rfl (lv_at hl 0 rfl) ?_
        refine g_get (C := RX9) (T := TX9) (N := 36) F hK hP i_X9_banks_X9 0 rfl rfl 1 (by decide) k_X9_banks_f14 (v := .ref zt) rfl dX9_banks_29 ?_
        refine lv_iload_n hx hb dX9_banks_32 rfl (lv_at hl 1 rfl) ?_
        refine g_bald (i := i) (v := ((nI (T i)).toInt8.toInt32)) hx hb hK hP 1 rfl (by decide) (by omega) (hT i (by omega)) dX9_banks_33 ?_
        refine lv_iconst (v := 0) hx hb dX9_banks_34 (by decide) ?_
        refine lv_bipush (v := 9) hx hb dX9_banks_35 (by decide) ?_
        refine g_SI (wr := [gO mo 9 [.int 0, .ref zt, .int 0, .int (nI tn), .ref zx, .ref zy, .ref zm, .ref zb, .int rt, .int w0, .int w1, .int w2, .int lg, .int nr, .int (nI yr), .ref va, .ref vb, .ref vc, .ref vd, .ref qa, .ref qb, .ref qc, .int (nI ln), .ref sa, .ref sb, .ref sc, .ref sd, .ref se, .int (nI pn), .ref ma, .ref mb, .ref mc, .ref rv, .int (nI mn), .int tol, .int (nI rn)], gB g zt 200 ft, gI g zb 64 fb]) (As := [.int ((nI (T i)).toInt8.toInt32), .int 0, .int 9]) (rest := []) (n := 3) F (c_X9_isIn l g ((nI (T i)).toInt8.toInt32) 0 9) gX9_banks_X9_isIn rfl (by decide) ⟨by decide, by decide⟩ rfl hl.1 rfl (Nat.le_of_ble_eq_true rfl) dX9_banks_37 ⟨Nat.le_of_ble_eq_true rfl, Nat.le_of_ble_eq_true rfl⟩ hK hP hD hS hA [] [0, 1, 2] (by decide) rfl rfl (by decide) (by decide) (fun r_37 u_37 H locs hw_37 hP hD hS => ?_)
        have hP : gP g [gO mo 9 [.int 0, .ref zt, .int 0, .int (nI tn), .ref zx, .ref zy, .ref zm, .ref zb, .int rt, .int w0, .int w1, .int w2, .int lg, .int nr, .int (nI yr), .ref va, .ref vb, .ref vc, .ref vd, .ref qa, .ref qb, .ref qc, .int (nI ln), .ref sa, .ref sb, .ref sc, .ref sd, .ref se, .int (nI pn), .ref ma, .ref mb, .ref mc, .ref rv, .int (nI mn), .int tol, .int (nI rn)], gB g zt 200 ft, gI g zb 64 fb] H := hP
        have hD : va_D A [gO mo 9 [.int 0, .ref zt, .int 0, .int (nI tn), .ref zx, .ref zy, .ref zm, .ref zb, .int rt, .int w0, .int w1, .int w2, .int lg, .int nr, .int (nI yr), .ref va, .ref vb, .ref vc, .ref vd, .ref qa, .ref qb, .ref qc, .int (nI ln), .ref sa, .ref sb, .ref sc, .ref sd, .ref se, .int (nI pn), .ref ma, .ref mb, .ref mc, .ref rv, .int (nI mn), .int tol, .int (nI rn)], gB g zt 200 ft, gI g zb 64 fb] := hD
        rcases hw_37 with ⟨rfl, b_37⟩ | ⟨rfl, b_37⟩
        · refine lv_if_ne (tgt := 45) hx hb dX9_banks_40 (by decide) (fun _ => ?_) (fun h => absurd h (by decide))
          refine lv_iinc (v := (nI (i + 1))) (lv' := [(1, .int (nI (i + 1))), (0, .ref mo)]) hx hb dX9_banks_45 hl (k := 1) rfl (g_inc i 1 (by decide)) (by decide) rfl (fun ls hl => ?_)
          refine lv_goto (tgt := 22) hx hb dX9_banks_48 (by decide) ?_
          exact ih_22 (i + 1) ls _ _ (by omega) (by omega) (lv_sub hl [1, 0] rfl) hP hD hS
        · exact absurd ((bnk_i (h256 _)).mpr (h.2 i (by omega))) b_37
  exact L22 ((64 - 0) + 1) 0 ls _ _ (Nat.lt_succ_self _) (by omega) (lv_sub hl [1, 0] rfl) (hP.sub [2, 0, 1] rfl) (hD.sub [2, 0, 1] (by decide) rfl) hS

