theorem l_test {i L : Nat} (hL : L ≤ 3584) (hi : i ≤ 4000) : nI L - 7 < nI i ↔ L < i + 7 := by
  by_cases h : 7 ≤ L
  · obtain ⟨k, rfl⟩ : ∃ k, L = k + 7 := ⟨L - 7, by omega⟩
    have e : nI (k + 7) - 7 = nI k := by
      have := nI_add k 7
      rw [← this, show (7 : Int32) = nI 7 from rfl]; simp
    rw [e, nI_ltI (by omega) (by omega)]
    omega
  · have e : (nI L - 7).toInt < 0 := by
      match L, (show L < 7 by omega) with
      | 0, _ => decide
      | 1, _ => decide
      | 2, _ => decide
      | 3, _ => decide
      | 4, _ => decide
      | 5, _ => decide
      | 6, _ => decide
    rw [Int32.lt_iff_toInt_lt, nI_toInt (by omega)]
    omega
set_option maxHeartbeats 8000000 in
set_option maxRecDepth 100000 in
theorem law_loop {p : Program} {l : Launch} {e : Env} {s : State} {m : MethodId} {args : Array Value} {below : List Frame} {meth : Method} {c : Code} {A : Nat → Prop} {Q : State → Prop} {g : gT} {b mb zo o L : Nat} {xs : Nat → Int32} (C : LC p l m c s args A g b L xs)
    (E : ∀ (H : Heap) (locs : List Loc) (ls : Array Slot), va_S A s.heap H locs → W p l e room_1 s m args below meth c H locs 1095 10507 Q (F0 m 864 ls [.int 1])) :
    ∀ (fuel t : Nat) (ta so to ro tr pl mo ra tb bk tx ty lo ly lp la cp cx cy sp dx dy lo2 ly2 lp2 la2 cp2 cx2 cy2 sp2 dx2 dy2 px py pw pc_ pb mx my mz rv zt zx zy zm zb va vb vc vd qa qb qc sa sb sc sd se ka kb kc kr tn tN yr ln n ns yr2 ln2 nc2 ns2 pn mn rn sz : Nat) (rt w0 w1 w2 lg nr tol th : Int32) (ft fb ux uy fy0 fp0 fa0 fx fy gx gy gy2 gp2 ga2 hx2 hy2 ix2 iy2 ex ey ew ec eb ax0 ay0 az0 fr ftr fxr fyr fm fbr e1 e2 e3 e4 g1 g2 g3 d1 d2 d3 d4 d5 k1 k2 k3 r1 B TX TY X Y : Nat → Int32) (fo : Nat → Int64) (T : Nat → Nat) (ls : Array Slot) (H : Heap) (locs : List Loc), L < 7 * t + fuel → 7 * t ≤ L → LTape tn T ft ftr → LBank B fb fbr → LTold tN TX TY ux uy fxr fyr fm → LLine n X Y fx fy fxr fyr fm yr → LLoop ln fy0 fp0 fa0 g1 g2 g3 → LPlot pn ex ey ew ec d1 d2 d3 d4 → LMark mn ax0 ay0 az0 tol k1 k2 k3 → LRate rn fr r1 → lv_has ls 7 [(0, .ref b), (1, .ref mb), (2, .ref zo), (3, .ref o), (4, .int (nI (7 * t)))] → gP g [gL g o 1 fo, gO mb 8 [.ref ta, .ref so, .ref to, .ref ro, .ref tr, .ref pl, .ref mo, .ref ra], gO ta 7 [.ref tb, .int (nI tn)], gI g tb 200 ft, gO so 6 [.ref bk, .int rt, .int w0, .int w1, .int w2, .int lg, .int nr], gI g bk 64 fb, gO to 3 [.ref tx, .ref ty, .int (nI tN)], gI g tx 48 ux, gI g ty 48 uy, gO ro 5 [.ref lo, .ref cp, .ref sp, .int (nI yr)], gO lo 0 [.ref ly, .ref lp, .ref la, .int (nI ln)], gI g ly 30 fy0, gI g lp 30 fp0, gI g la 30 fa0, gO cp 3 [.ref cx, .ref cy, .int (nI n)], gI g cx 48 fx, gI g cy 48 fy, gO sp 3 [.ref dx, .ref dy, .int (nI ns)], gI g dx 48 gx, gI g dy 48 gy, gO tr 5 [.ref lo2, .ref cp2, .ref sp2, .int (nI yr2)], gO lo2 0 [.ref ly2, .ref lp2, .ref la2, .int (nI ln2)], gI g ly2 30 gy2, gI g lp2 30 gp2, gI g la2 30 ga2, gO cp2 3 [.ref cx2, .ref cy2, .int (nI nc2)], gI g cx2 48 hx2, gI g cy2 48 hy2, gO sp2 3 [.ref dx2, .ref dy2, .int (nI ns2)], gI g dx2 48 ix2, gI g dy2 48 iy2, gO pl 2 [.ref px, .ref py, .ref pw, .ref pc_, .ref pb, .int (nI pn)], gI g px 20 ex, gI g py 20 ey, gI g pw 20 ew, gI g pc_ 20 ec, gI g pb 20 eb, gO mo 1 [.ref mx, .ref my, .ref mz, .int (nI mn), .int tol], gI g mx 30 ax0, gI g my 30 ay0, gI g mz 30 az0, gO ra 4 [.ref rv, .int (nI rn)], gI g rv 20 fr, gO zo 9 [.int th, .ref zt, .int (nI tn), .int (nI sz), .ref zx, .ref zy, .ref zm, .ref zb, .int rt, .int w0, .int w1, .int w2, .int lg, .int nr, .int (nI yr), .ref va, .ref vb, .ref vc, .ref vd, .ref qa, .ref qb, .ref qc, .int (nI ln), .ref sa, .ref sb, .ref sc, .ref sd, .ref se, .int (nI pn), .ref ka, .ref kb, .ref kc, .ref kr, .int (nI mn), .int tol, .int (nI rn)], gB g zt 200 ftr, gI g zx 144 fxr, gI g zy 144 fyr, gI g zm 3 fm, gI g zb 64 fbr, gI g va 48 e1, gI g vb 48 e2, gI g vc 48 e3, gI g vd 48 e4, gI g qa 30 g1, gI g qb 30 g2, gI g qc 30 g3, gI g sa 20 d1, gI g sb 20 d2, gI g sc 20 d3, gI g sd 20 d4, gI g se 20 d5, gI g ka 30 k1, gI g kb 30 k2, gI g kc 30 k3, gI g kr 20 r1] H → va_D A [gL g o 1 fo, gO mb 8 [.ref ta, .ref so, .ref to, .ref ro, .ref tr, .ref pl, .ref mo, .ref ra], gO ta 7 [.ref tb, .int (nI tn)], gI g tb 200 ft, gO so 6 [.ref bk, .int rt, .int w0, .int w1, .int w2, .int lg, .int nr], gI g bk 64 fb, gO to 3 [.ref tx, .ref ty, .int (nI tN)], gI g tx 48 ux, gI g ty 48 uy, gO ro 5 [.ref lo, .ref cp, .ref sp, .int (nI yr)], gO lo 0 [.ref ly, .ref lp, .ref la, .int (nI ln)], gI g ly 30 fy0, gI g lp 30 fp0, gI g la 30 fa0, gO cp 3 [.ref cx, .ref cy, .int (nI n)], gI g cx 48 fx, gI g cy 48 fy, gO sp 3 [.ref dx, .ref dy, .int (nI ns)], gI g dx 48 gx, gI g dy 48 gy, gO tr 5 [.ref lo2, .ref cp2, .ref sp2, .int (nI yr2)], gO lo2 0 [.ref ly2, .ref lp2, .ref la2, .int (nI ln2)], gI g ly2 30 gy2, gI g lp2 30 gp2, gI g la2 30 ga2, gO cp2 3 [.ref cx2, .ref cy2, .int (nI nc2)], gI g cx2 48 hx2, gI g cy2 48 hy2, gO sp2 3 [.ref dx2, .ref dy2, .int (nI ns2)], gI g dx2 48 ix2, gI g dy2 48 iy2, gO pl 2 [.ref px, .ref py, .ref pw, .ref pc_, .ref pb, .int (nI pn)], gI g px 20 ex, gI g py 20 ey, gI g pw 20 ew, gI g pc_ 20 ec, gI g pb 20 eb, gO mo 1 [.ref mx, .ref my, .ref mz, .int (nI mn), .int tol], gI g mx 30 ax0, gI g my 30 ay0, gI g mz 30 az0, gO ra 4 [.ref rv, .int (nI rn)], gI g rv 20 fr, gO zo 9 [.int th, .ref zt, .int (nI tn), .int (nI sz), .ref zx, .ref zy, .ref zm, .ref zb, .int rt, .int w0, .int w1, .int w2, .int lg, .int nr, .int (nI yr), .ref va, .ref vb, .ref vc, .ref vd, .ref qa, .ref qb, .ref qc, .int (nI ln), .ref sa, .ref sb, .ref sc, .ref sd, .ref se, .int (nI pn), .ref ka, .ref kb, .ref kc, .ref kr, .int (nI mn), .int tol, .int (nI rn)], gB g zt 200 ftr, gI g zx 144 fxr, gI g zy 144 fyr, gI g zm 3 fm, gI g zb 64 fbr, gI g va 48 e1, gI g vb 48 e2, gI g vc 48 e3, gI g vd 48 e4, gI g qa 30 g1, gI g qb 30 g2, gI g qc 30 g3, gI g sa 20 d1, gI g sb 20 d2, gI g sc 20 d3, gI g sd 20 d4, gI g se 20 d5, gI g ka 30 k1, gI g kb 30 k2, gI g kc 30 k3, gI g kr 20 r1] → va_S A s.heap H locs → W p l e room_1 s m args below meth c H locs (65 + t) (2279 + 6 * t) Q (F0 m 23 ls []) := by
  obtain ⟨F, hK, hXX, hA, hxs, hbl, hbA, hL, hst⟩ := id C
  have hx := F.1
  have hb := F.2.1
  intro fuel
  induction fuel with
  | zero => 
    intro t ta so to ro tr pl mo ra tb bk tx ty lo ly lp la cp cx cy sp dx dy lo2 ly2 lp2 la2 cp2 cx2 cy2 sp2 dx2 dy2 px py pw pc_ pb mx my mz rv zt zx zy zm zb va vb vc vd qa qb qc sa sb sc sd se ka kb kc kr tn tN yr ln n ns yr2 ln2 nc2 ns2 pn mn rn sz rt w0 w1 w2 lg nr tol th ft fb ux uy fy0 fp0 fa0 fx fy gx gy gy2 gp2 ga2 hx2 hy2 ix2 iy2 ex ey ew ec eb ax0 ay0 az0 fr ftr fxr fyr fm fbr e1 e2 e3 e4 g1 g2 g3 d1 d2 d3 d4 d5 k1 k2 k3 r1 B TX TY X Y fo T ls H locs hf ht
    exfalso
    omega
  | succ fuel ih =>
    intro t ta so to ro tr pl mo ra tb bk tx ty lo ly lp la cp cx cy sp dx dy lo2 ly2 lp2 la2 cp2 cx2 cy2 sp2 dx2 dy2 px py pw pc_ pb mx my mz rv zt zx zy zm zb va vb vc vd qa qb qc sa sb sc sd se ka kb kc kr tn tN yr ln n ns yr2 ln2 nc2 ns2 pn mn rn sz rt w0 w1 w2 lg nr tol th ft fb ux uy fy0 fp0 fa0 fx fy gx gy gy2 gp2 ga2 hx2 hy2 ix2 iy2 ex ey ew ec eb ax0 ay0 az0 fr ftr fxr fyr fm fbr e1 e2 e3 e4 g1 g2 g3 d1 d2 d3 d4 d5 k1 k2 k3 r1 B TX TY X Y fo T ls H locs hf ht It Ib Id Ic Io Ip Im Ir hl hP hD hS
    refine lv_iload hx hb dL_law_23 (lv_at hl 4 rfl) ?_
    refine lv_aload_n hx hb dL_law_25 rfl (lv_at hl 0 rfl) ?_
    refine va_slen hx hb hxs hbl hbA hS dL_law_26 ?_
    refine lv_bipush (v := 7) hx hb dL_law_27 (by decide) ?_
    refine lv_isub hx hb dL_law_29 ?_
    refine lv_icmp_gt (tgt := 863) hx hb dL_law_30 (by decide) (fun h => ?_) (fun h => ?_)
    · refine lv_iconst (v := 1) hx hb dL_law_863 (by decide) ?_
      refine W.widen (k := 1095) (n := 10507) (by omega) (by omega) ?_
      exact E H locs ls hS
    · have hi : 7 * t + 7 ≤ L := by
        have h2 : ¬ nI L - 7 < nI (7 * t) := h
        rw [l_test hL (by omega)] at h2
        omega
      refine law_at (i := 7 * t) C hi ⟨by omega, by omega⟩ ?_ It Ib Id Ic Io Ip Im Ir hl hP hD hS
      intro ta so to ro tr pl mo ra tb bk tx ty lo ly lp la cp cx cy sp dx dy lo2 ly2 lp2 la2 cp2 cx2 cy2 sp2 dx2 dy2 px py pw pc_ pb mx my mz rv zt zx zy zm zb va vb vc vd qa qb qc sa sb sc sd se ka kb kc kr tn tN yr ln n ns yr2 ln2 nc2 ns2 pn mn rn sz rt w0 w1 w2 lg nr tol th ft fb ux uy fy0 fp0 fa0 fx fy gx gy gy2 gp2 ga2 hx2 hy2 ix2 iy2 ex ey ew ec eb ax0 ay0 az0 fr ftr fxr fyr fm fbr e1 e2 e3 e4 g1 g2 g3 d1 d2 d3 d4 d5 k1 k2 k3 r1 B TX TY X Y fo T ls H locs It Ib Id Ic Io Ip Im Ir hl hP hD hS
      refine lv_iinc (v := nI (7 * (t + 1))) (lv' := [(4, .int (nI (7 * (t + 1)))), (0, .ref b), (1, .ref mb), (2, .ref zo), (3, .ref o)]) hx hb dL_law_857 hl (k := 4) rfl (by rw [show 7 * (t + 1) = 7 * t + 7 from by omega]; exact g_inc (7 * t) 7 (by decide)) (by decide) rfl (fun ls hl => ?_)
      refine lv_goto (tgt := 23) hx hb dL_law_860 (by decide) ?_
      refine W.widen (k := 65 + (t + 1)) (n := 2279 + 6 * (t + 1)) (by omega) (by omega) ?_
      exact ih (t + 1) ta so to ro tr pl mo ra tb bk tx ty lo ly lp la cp cx cy sp dx dy lo2 ly2 lp2 la2 cp2 cx2 cy2 sp2 dx2 dy2 px py pw pc_ pb mx my mz rv zt zx zy zm zb va vb vc vd qa qb qc sa sb sc sd se ka kb kc kr tn tN yr ln n ns yr2 ln2 nc2 ns2 pn mn rn sz rt w0 w1 w2 lg nr tol th ft fb ux uy fy0 fp0 fa0 fx fy gx gy gy2 gp2 ga2 hx2 hy2 ix2 iy2 ex ey ew ec eb ax0 ay0 az0 fr ftr fxr fyr fm fbr e1 e2 e3 e4 g1 g2 g3 d1 d2 d3 d4 d5 k1 k2 k3 r1 B TX TY X Y fo T ls H locs (by omega) (by omega) It Ib Id Ic Io Ip Im Ir (lv_sub hl [1, 2, 3, 4, 0] rfl) hP hD hS
