set_option maxHeartbeats 8000000 in
set_option maxRecDepth 100000 in
theorem law_at {p : Program} {l : Launch} {e : Env} {s : State} {m : MethodId} {args : Array Value} {below : List Frame} {meth : Method} {c : Code} {A : Nat → Prop} {Q : State → Prop} {g : gT} {b mb zo o i cells slots L : Nat} {xs : Nat → Int32} (C : LC p l m c s args A g b L xs) (hi : i + 7 ≤ L) (hcs : cells + 1 ≤ 1095 ∧ slots + 6 ≤ 10507) (K : LK p l e s m args below meth c A Q g b mb zo o i cells slots) {ta so to ro tr pl mo ra tb bk tx ty lo ly lp la cp cx cy sp dx dy lo2 ly2 lp2 la2 cp2 cx2 cy2 sp2 dx2 dy2 px py pw pc_ pb mx my mz rv zt zx zy zm zb va vb vc vd qa qb qc sa sb sc sd se ka kb kc kr tn tN yr ln n ns yr2 ln2 nc2 ns2 pn mn rn sz : Nat} {rt w0 w1 w2 lg nr tol th : Int32} {ft fb ux uy fy0 fp0 fa0 fx fy gx gy gy2 gp2 ga2 hx2 hy2 ix2 iy2 ex ey ew ec eb ax0 ay0 az0 fr ftr fxr fyr fm fbr e1 e2 e3 e4 g1 g2 g3 d1 d2 d3 d4 d5 k1 k2 k3 r1 B TX TY X Y : Nat → Int32} {fo : Nat → Int64} {T : Nat → Nat} {ls : Array Slot} {H : Heap} {locs : List Loc} (It : LTape tn T ft ftr) (Ib : LBank B fb fbr) (Id : LTold tN TX TY ux uy fxr fyr fm) (Ic : LLine n X Y fx fy fxr fyr fm yr) (Io : LLoop ln fy0 fp0 fa0 g1 g2 g3) (Ip : LPlot pn ex ey ew ec d1 d2 d3 d4) (Im : LMark mn ax0 ay0 az0 tol k1 k2 k3) (Ir : LRate rn fr r1) (hl : lv_has ls 7 [(0, .ref b), (1, .ref mb), (2, .ref zo), (3, .ref o), (4, .int (nI i))]) (hP : gP g [gL g o 1 fo, gO mb 8 [.ref ta, .ref so, .ref to, .ref ro, .ref tr, .ref pl, .ref mo, .ref ra], gO ta 7 [.ref tb, .int (nI tn)], gI g tb 200 ft, gO so 6 [.ref bk, .int rt, .int w0, .int w1, .int w2, .int lg, .int nr], gI g bk 64 fb, gO to 3 [.ref tx, .ref ty, .int (nI tN)], gI g tx 48 ux, gI g ty 48 uy, gO ro 5 [.ref lo, .ref cp, .ref sp, .int (nI yr)], gO lo 0 [.ref ly, .ref lp, .ref la, .int (nI ln)], gI g ly 30 fy0, gI g lp 30 fp0, gI g la 30 fa0, gO cp 3 [.ref cx, .ref cy, .int (nI n)], gI g cx 48 fx, gI g cy 48 fy, gO sp 3 [.ref dx, .ref dy, .int (nI ns)], gI g dx 48 gx, gI g dy 48 gy, gO tr 5 [.ref lo2, .ref cp2, .ref sp2, .int (nI yr2)], gO lo2 0 [.ref ly2, .ref lp2, .ref la2, .int (nI ln2)], gI g ly2 30 gy2, gI g lp2 30 gp2, gI g la2 30 ga2, gO cp2 3 [.ref cx2, .ref cy2, .int (nI nc2)], gI g cx2 48 hx2, gI g cy2 48 hy2, gO sp2 3 [.ref dx2, .ref dy2, .int (nI ns2)], gI g dx2 48 ix2, gI g dy2 48 iy2, gO pl 2 [.ref px, .ref py, .ref pw, .ref pc_, .ref pb, .int (nI pn)], gI g px 20 ex, gI g py 20 ey, gI g pw 20 ew, gI g pc_ 20 ec, gI g pb 20 eb, gO mo 1 [.ref mx, .ref my, .ref mz, .int (nI mn), .int tol], gI g mx 30 ax0, gI g my 30 ay0, gI g mz 30 az0, gO ra 4 [.ref rv, .int (nI rn)], gI g rv 20 fr, gO zo 9 [.int th, .ref zt, .int (nI tn), .int (nI sz), .ref zx, .ref zy, .ref zm, .ref zb, .int rt, .int w0, .int w1, .int w2, .int lg, .int nr, .int (nI yr), .ref va, .ref vb, .ref vc, .ref vd, .ref qa, .ref qb, .ref qc, .int (nI ln), .ref sa, .ref sb, .ref sc, .ref sd, .ref se, .int (nI pn), .ref ka, .ref kb, .ref kc, .ref kr, .int (nI mn), .int tol, .int (nI rn)], gB g zt 200 ftr, gI g zx 144 fxr, gI g zy 144 fyr, gI g zm 3 fm, gI g zb 64 fbr, gI g va 48 e1, gI g vb 48 e2, gI g vc 48 e3, gI g vd 48 e4, gI g qa 30 g1, gI g qb 30 g2, gI g qc 30 g3, gI g sa 20 d1, gI g sb 20 d2, gI g sc 20 d3, gI g sd 20 d4, gI g se 20 d5, gI g ka 30 k1, gI g kb 30 k2, gI g kc 30 k3, gI g kr 20 r1] H) (hD : va_D A [gL g o 1 fo, gO mb 8 [.ref ta, .ref so, .ref to, .ref ro, .ref tr, .ref pl, .ref mo, .ref ra], gO ta 7 [.ref tb, .int (nI tn)], gI g tb 200 ft, gO so 6 [.ref bk, .int rt, .int w0, .int w1, .int w2, .int lg, .int nr], gI g bk 64 fb, gO to 3 [.ref tx, .ref ty, .int (nI tN)], gI g tx 48 ux, gI g ty 48 uy, gO ro 5 [.ref lo, .ref cp, .ref sp, .int (nI yr)], gO lo 0 [.ref ly, .ref lp, .ref la, .int (nI ln)], gI g ly 30 fy0, gI g lp 30 fp0, gI g la 30 fa0, gO cp 3 [.ref cx, .ref cy, .int (nI n)], gI g cx 48 fx, gI g cy 48 fy, gO sp 3 [.ref dx, .ref dy, .int (nI ns)], gI g dx 48 gx, gI g dy 48 gy, gO tr 5 [.ref lo2, .ref cp2, .ref sp2, .int (nI yr2)], gO lo2 0 [.ref ly2, .ref lp2, .ref la2, .int (nI ln2)], gI g ly2 30 gy2, gI g lp2 30 gp2, gI g la2 30 ga2, gO cp2 3 [.ref cx2, .ref cy2, .int (nI nc2)], gI g cx2 48 hx2, gI g cy2 48 hy2, gO sp2 3 [.ref dx2, .ref dy2, .int (nI ns2)], gI g dx2 48 ix2, gI g dy2 48 iy2, gO pl 2 [.ref px, .ref py, .ref pw, .ref pc_, .ref pb, .int (nI pn)], gI g px 20 ex, gI g py 20 ey, gI g pw 20 ew, gI g pc_ 20 ec, gI g pb 20 eb, gO mo 1 [.ref mx, .ref my, .ref mz, .int (nI mn), .int tol], gI g mx 30 ax0, gI g my 30 ay0, gI g mz 30 az0, gO ra 4 [.ref rv, .int (nI rn)], gI g rv 20 fr, gO zo 9 [.int th, .ref zt, .int (nI tn), .int (nI sz), .ref zx, .ref zy, .ref zm, .ref zb, .int rt, .int w0, .int w1, .int w2, .int lg, .int nr, .int (nI yr), .ref va, .ref vb, .ref vc, .ref vd, .ref qa, .ref qb, .ref qc, .int (nI ln), .ref sa, .ref sb, .ref sc, .ref sd, .ref se, .int (nI pn), .ref ka, .ref kb, .ref kc, .ref kr, .int (nI mn), .int tol, .int (nI rn)], gB g zt 200 ftr, gI g zx 144 fxr, gI g zy 144 fyr, gI g zm 3 fm, gI g zb 64 fbr, gI g va 48 e1, gI g vb 48 e2, gI g vc 48 e3, gI g vd 48 e4, gI g qa 30 g1, gI g qb 30 g2, gI g qc 30 g3, gI g sa 20 d1, gI g sb 20 d2, gI g sc 20 d3, gI g sd 20 d4, gI g se 20 d5, gI g ka 30 k1, gI g kb 30 k2, gI g kc 30 k3, gI g kr 20 r1]) (hS : va_S A s.heap H locs) : W p l e room_1 s m args below meth c H locs cells slots Q (F0 m 33 ls []) := by
  obtain ⟨F, hK, hXX, hA, hxs, hbl, hbA, hL, hst⟩ := id C
  have hx := F.1
  have hb := F.2.1
  have htn : tn ≤ 200 := It.1
  have hn48 : n ≤ 48 := Ic.1.2.1
  have hpn : pn ≤ 20 := Ip.1
  have hln : ln ≤ 30 := Io.1
  have hmn : mn ≤ 30 := Im.1.1
  have hrn : rn ≤ 20 := Ir.1
  refine lv_aload_n hx hb dL_law_33 rfl (lv_at hl 0 rfl) ?_
  refine lv_iload hx hb dL_law_34 (lv_at hl 4 rfl) ?_
  refine l_sld (j := i) hx hb hxs hbl hbA hL hS (by omega) dL_law_36 ?_
  refine lv_bipush (v := 31) hx hb dL_law_37 (by decide) ?_
  refine lv_iand hx hb dL_law_39 ?_
  by_cases hw : (xs i &&& 31).toInt < 0 ∨ 17 < (xs i &&& 31).toInt
  · refine lv_tableOut (tgt := 857) hx hb dL_law_40 hw (by decide) ?_
    refine W.widen (k := cells + 1) (n := slots + 6) (by omega) (by omega) ?_
    exact K ta so to ro tr pl mo ra tb bk tx ty lo ly lp la cp cx cy sp dx dy lo2 ly2 lp2 la2 cp2 cx2 cy2 sp2 dx2 dy2 px py pw pc_ pb mx my mz rv zt zx zy zm zb va vb vc vd qa qb qc sa sb sc sd se ka kb kc kr tn tN yr ln n ns yr2 ln2 nc2 ns2 pn mn rn sz rt w0 w1 w2 lg nr tol th ft fb ux uy fy0 fp0 fa0 fx fy gx gy gy2 gp2 ga2 hx2 hy2 ix2 iy2 ex ey ew ec eb ax0 ay0 az0 fr ftr fxr fyr fm fbr e1 e2 e3 e4 g1 g2 g3 d1 d2 d3 d4 d5 k1 k2 k3 r1 B TX TY X Y fo T ls _ _ It Ib Id Ic Io Ip Im Ir hl hP hD hS
  · obtain ⟨k, hk, ek⟩ := l_tab (K := 17) (by decide) hw
    refine g_eqi (y := nI k) ek ?_
    clear hw ek
    match k, hk with
    | 0, _ =>
      refine lv_tableIn (tgt := 128) hx hb dL_law_40 (by decide) (by decide) rfl (by decide) ?_
      by_cases h : tn ≤ 180
      · exact law_feed_y C hi hcs K It Ib Id Ic Io Ip Im Ir hl hP hD hS h
      · exact law_feed_n C hi hcs K It Ib Id Ic Io Ip Im Ir hl hP hD hS (by omega)
    | 1, _ =>
      refine lv_tableIn (tgt := 201) hx hb dL_law_40 (by decide) (by decide) rfl (by decide) ?_
      by_cases h : isW 0 (nI tn) (xs (i + 1))
      · obtain ⟨j, hj, ej⟩ := l_le (by omega) h
        exact law_end_y C hi hcs K It Ib Id Ic Io Ip Im Ir hl hP hD hS j ej hj
      · exact law_end_n C hi hcs K It Ib Id Ic Io Ip Im Ir hl hP hD hS h
    | 2, _ =>
      refine lv_tableIn (tgt := 226) hx hb dL_law_40 (by decide) (by decide) rfl (by decide) ?_
      by_cases h : linP T tn
      · exact law_line_y C hi hcs K It Ib Id Ic Io Ip Im Ir hl hP hD hS h
      · exact law_line_n C hi hcs K It Ib Id Ic Io Ip Im Ir hl hP hD hS h
    | 3, _ =>
      refine lv_tableIn (tgt := 239) hx hb dL_law_40 (by decide) (by decide) rfl (by decide) ?_
      by_cases h : bnkP T tn
      · exact law_banks_y C hi hcs K It Ib Id Ic Io Ip Im Ir hl hP hD hS h
      · exact law_banks_n C hi hcs K It Ib Id Ic Io Ip Im Ir hl hP hD hS h
    | 4, _ =>
      refine lv_tableIn (tgt := 252) hx hb dL_law_40 (by decide) (by decide) rfl (by decide) ?_
      by_cases h : setP (xs (i + 1)) (xs (i + 2)) (xs (i + 3)) (xs (i + 4)) (xs (i + 5)) (xs (i + 6))
      · exact law_set_y C hi hcs K It Ib Id Ic Io Ip Im Ir hl hP hD hS h
      · exact law_set_n C hi hcs K It Ib Id Ic Io Ip Im Ir hl hP hD hS h
    | 5, _ =>
      refine lv_tableIn (tgt := 339) hx hb dL_law_40 (by decide) (by decide) rfl (by decide) ?_
      by_cases h : isW 0 200 (xs (i + 1))
      · obtain ⟨j, hj, ej⟩ := l_le (n := 200) (by decide) h
        exact law_go_y C hi hcs K It Ib Id Ic Io Ip Im Ir hl hP hD hS j ej hj
      · exact law_go_n C hi hcs K It Ib Id Ic Io Ip Im Ir hl hP hD hS h
    | 6, _ =>
      refine lv_tableIn (tgt := 364) hx hb dL_law_40 (by decide) (by decide) rfl (by decide) ?_
      by_cases h1 : isW 0 (nI n - 1) (xs (i + 1))
      · by_cases h : (xs (i + 2)).toInt < 0 ∨ 1 < (xs (i + 2)).toInt
        · exact law_point_t2 C hi hcs K It Ib Id Ic Io Ip Im Ir hl hP hD hS h h1
        · obtain ⟨j, hj, ej⟩ := l_lt (by omega) h1
          obtain ⟨k, hk, ek⟩ := l_tab (K := 1) (by decide) h
          match k, hk, ek with
          | 0, _, ek => exact law_point_0 C hi hcs K It Ib Id Ic Io Ip Im Ir hl hP hD hS j ej ek hj
          | 1, _, ek => exact law_point_1 C hi hcs K It Ib Id Ic Io Ip Im Ir hl hP hD hS j ej ek hj
          | k + 2, hk, _ => exact absurd hk (by omega)
      · exact law_point_t1 C hi hcs K It Ib Id Ic Io Ip Im Ir hl hP hD hS h1
    | 7, _ =>
      refine lv_tableIn (tgt := 432) hx hb dL_law_40 (by decide) (by decide) rfl (by decide) ?_
      exact law_crossings C hi hcs K It Ib Id Ic Io Ip Im Ir hl hP hD hS
    | 8, _ =>
      refine lv_tableIn (tgt := 445) hx hb dL_law_40 (by decide) (by decide) rfl (by decide) ?_
      by_cases h1 : isW 0 (nI ln - 1) (xs (i + 1))
      · by_cases h : (xs (i + 2)).toInt < 0 ∨ 2 < (xs (i + 2)).toInt
        · exact law_loop_t2 C hi hcs K It Ib Id Ic Io Ip Im Ir hl hP hD hS h h1
        · obtain ⟨j, hj, ej⟩ := l_lt (by omega) h1
          obtain ⟨k, hk, ek⟩ := l_tab (K := 2) (by decide) h
          match k, hk, ek with
          | 0, _, ek => exact law_loop_0 C hi hcs K It Ib Id Ic Io Ip Im Ir hl hP hD hS j ej ek hj
          | 1, _, ek => exact law_loop_1 C hi hcs K It Ib Id Ic Io Ip Im Ir hl hP hD hS j ej ek hj
          | 2, _, ek => exact law_loop_2 C hi hcs K It Ib Id Ic Io Ip Im Ir hl hP hD hS j ej ek hj
          | k + 3, hk, _ => exact absurd hk (by omega)
      · exact law_loop_t1 C hi hcs K It Ib Id Ic Io Ip Im Ir hl hP hD hS h1
    | 9, _ =>
      refine lv_tableIn (tgt := 513) hx hb dL_law_40 (by decide) (by decide) rfl (by decide) ?_
      by_cases h : hasSideP (xs (i + 1)) (xs (i + 2))
      · exact law_side_y C hi hcs K It Ib Id Ic Io Ip Im Ir hl hP hD hS h
      · exact law_side_n C hi hcs K It Ib Id Ic Io Ip Im Ir hl hP hD hS h
    | 10, _ =>
      refine lv_tableIn (tgt := 550) hx hb dL_law_40 (by decide) (by decide) rfl (by decide) ?_
      by_cases h : hasSideP (xs (i + 1)) (xs (i + 2))
      · by_cases hq : pn < 20
        · exact law_plot_y C hi hcs K It Ib Id Ic Io Ip Im Ir hl hP hD hS h hq
        · exact law_plot_f C hi hcs K It Ib Id Ic Io Ip Im Ir hl hP hD hS h hq
      · exact law_plot_n C hi hcs K It Ib Id Ic Io Ip Im Ir hl hP hD hS h
    | 11, _ =>
      refine lv_tableIn (tgt := 587) hx hb dL_law_40 (by decide) (by decide) rfl (by decide) ?_
      by_cases h1 : isW 0 (nI pn - 1) (xs (i + 1))
      · by_cases h : (xs (i + 2)).toInt < 0 ∨ 2 < (xs (i + 2)).toInt
        · exact law_owner_t2 C hi hcs K It Ib Id Ic Io Ip Im Ir hl hP hD hS h h1
        · obtain ⟨j, hj, ej⟩ := l_lt (by omega) h1
          obtain ⟨k, hk, ek⟩ := l_tab (K := 2) (by decide) h
          match k, hk, ek with
          | 0, _, ek => exact law_owner_0 C hi hcs K It Ib Id Ic Io Ip Im Ir hl hP hD hS j ej ek hj
          | 1, _, ek => exact law_owner_1 C hi hcs K It Ib Id Ic Io Ip Im Ir hl hP hD hS j ej ek hj
          | 2, _, ek => exact law_owner_2 C hi hcs K It Ib Id Ic Io Ip Im Ir hl hP hD hS j ej ek hj
          | k + 3, hk, _ => exact absurd hk (by omega)
      · exact law_owner_t1 C hi hcs K It Ib Id Ic Io Ip Im Ir hl hP hD hS h1
    | 12, _ =>
      refine lv_tableIn (tgt := 655) hx hb dL_law_40 (by decide) (by decide) rfl (by decide) ?_
      by_cases h : mrkP (xs (i + 1)) (xs (i + 2)) (xs (i + 3))
      · by_cases hq : mn < 30
        · exact law_mark_y C hi hcs K It Ib Id Ic Io Ip Im Ir hl hP hD hS h hq
        · exact law_mark_f C hi hcs K It Ib Id Ic Io Ip Im Ir hl hP hD hS h hq
      · exact law_mark_n C hi hcs K It Ib Id Ic Io Ip Im Ir hl hP hD hS h
    | 13, _ =>
      refine lv_tableIn (tgt := 704) hx hb dL_law_40 (by decide) (by decide) rfl (by decide) ?_
      by_cases h : isW 0 50 (xs (i + 1))
      · exact law_marks_y C hi hcs K It Ib Id Ic Io Ip Im Ir hl hP hD hS h
      · exact law_marks_n C hi hcs K It Ib Id Ic Io Ip Im Ir hl hP hD hS h
    | 14, _ =>
      refine lv_tableIn (tgt := 729) hx hb dL_law_40 (by decide) (by decide) rfl (by decide) ?_
      by_cases h : metP (xs (i + 1)) (xs (i + 2))
      · obtain ⟨ja, jb, h1, h2, h3, h4, h5⟩ := l_met h
        exact law_met_y C hi hcs K It Ib Id Ic Io Ip Im Ir hl hP hD hS ja jb h4 h5 h1 h2 h3
      · exact law_met_n C hi hcs K It Ib Id Ic Io Ip Im Ir hl hP hD hS h
    | 15, _ =>
      refine lv_tableIn (tgt := 766) hx hb dL_law_40 (by decide) (by decide) rfl (by decide) ?_
      by_cases h : isW 0 (nI rn - 1) (xs (i + 1))
      · obtain ⟨j, hj, ej⟩ := l_lt (by omega) h
        exact law_rate_y C hi hcs K It Ib Id Ic Io Ip Im Ir hl hP hD hS j ej hj
      · exact law_rate_n C hi hcs K It Ib Id Ic Io Ip Im Ir hl hP hD hS h
    | 16, _ =>
      refine lv_tableIn (tgt := 791) hx hb dL_law_40 (by decide) (by decide) rfl (by decide) ?_
      by_cases h : xs (i + 1) = 0
      · exact law_foretold_0 C hi hcs K It Ib Id Ic Io Ip Im Ir hl hP hD hS h
      · exact law_foretold_1 C hi hcs K It Ib Id Ic Io Ip Im Ir hl hP hD hS h
    | 17, _ =>
      refine lv_tableIn (tgt := 832) hx hb dL_law_40 (by decide) (by decide) rfl (by decide) ?_
      by_cases h : (xs (i + 1)).toInt < 0 ∨ 6 < (xs (i + 1)).toInt
      · exact law_count_n C hi hcs K It Ib Id Ic Io Ip Im Ir hl hP hD hS h
      · obtain ⟨k, hk, ek⟩ := l_tab (K := 6) (by decide) h
        match k, hk, ek with
        | 0, _, ek => exact law_count_0 C hi hcs K It Ib Id Ic Io Ip Im Ir hl hP hD hS ek
        | 1, _, ek => exact law_count_1 C hi hcs K It Ib Id Ic Io Ip Im Ir hl hP hD hS ek
        | 2, _, ek => exact law_count_2 C hi hcs K It Ib Id Ic Io Ip Im Ir hl hP hD hS ek
        | 3, _, ek => exact law_count_3 C hi hcs K It Ib Id Ic Io Ip Im Ir hl hP hD hS ek
        | 4, _, ek => exact law_count_4 C hi hcs K It Ib Id Ic Io Ip Im Ir hl hP hD hS ek
        | 5, _, ek => exact law_count_5 C hi hcs K It Ib Id Ic Io Ip Im Ir hl hP hD hS ek
        | 6, _, ek => exact law_count_6 C hi hcs K It Ib Id Ic Io Ip Im Ir hl hP hD hS ek
        | k + 7, hk, _ => exact absurd hk (by omega)
    | k + 18, hk => exact absurd hk (by omega)
