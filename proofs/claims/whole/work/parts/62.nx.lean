def wsX8_point : List Cond := .code yX8_point cX8_point 3 (some .int) :: ([.classLink RX8 140 "java/util/NoSuchElementException", .initialized "java/util/NoSuchElementException", .fieldLink RX8 33 "MeanderBench" "river" "LMeanderBench$River;", .fieldLink RX8 88 "MeanderBench$River" "course" "LMeanderBench$Points;", .fieldLink RX8 139 "MeanderBench$Points" "size" "I", .fieldLink RX8 147 "MeanderBench$Points" "xs" "[I", .fieldLink RX8 150 "MeanderBench$Points" "ys" "[I", .methodLink RX8 77 yX8_isWithin, .static yX8_isWithin, .initialized RX8, .code yX8_isWithin cX8_isWithin 3 (some .boolean)] ++ wsX80 ++ wsX50 ++ wsX30 ++ gAt.filter goodWord)
def wsX8_loop : List Cond := .code yX8_loop cX8_loop 3 (some .int) :: ([.classLink RX8 140 "java/util/NoSuchElementException", .initialized "java/util/NoSuchElementException", .fieldLink RX8 33 "MeanderBench" "river" "LMeanderBench$River;", .fieldLink RX8 159 "MeanderBench$River" "loops" "LMeanderBench$Loops;", .fieldLink RX8 163 "MeanderBench$Loops" "size" "I", .fieldLink RX8 168 "MeanderBench$Loops" "years" "[I", .fieldLink RX8 171 "MeanderBench$Loops" "leftOut" "[I", .fieldLink RX8 174 "MeanderBench$Loops" "twiceAreas" "[I", .methodLink RX8 77 yX8_isWithin, .static yX8_isWithin, .initialized RX8, .code yX8_isWithin cX8_isWithin 3 (some .boolean)] ++ wsX80 ++ wsX50 ++ wsX00 ++ gAt.filter goodWord)
def wsX8_owner : List Cond := .code yX8_owner cX8_owner 3 (some .int) :: ((wsX8_owner_r1 ++ wsX8_owner_r2) ++ wsX80 ++ wsX20 ++ wsX50 ++ wsX30 ++ gAt.filter goodWord)
def wsL_point : List Cond := .codeWith yL_point cL_point 5 (some .int) [(0, 10, 13, 13)] :: ([.classLink RL 13 "java/util/NoSuchElementException", .methodLink RL 7 yX8_point, .instanceMethod yX8_point, .selects RX8 yX8_point yX8_point, .initialized RX8, .code yX8_point cX8_point 3 (some .int), .classLink RX8 140 "java/util/NoSuchElementException", .initialized "java/util/NoSuchElementException", .fieldLink RX8 33 "MeanderBench" "river" "LMeanderBench$River;", .fieldLink RX8 88 "MeanderBench$River" "course" "LMeanderBench$Points;", .fieldLink RX8 139 "MeanderBench$Points" "size" "I", .fieldLink RX8 147 "MeanderBench$Points" "xs" "[I", .fieldLink RX8 150 "MeanderBench$Points" "ys" "[I", .methodLink RX8 77 yX8_isWithin, .static yX8_isWithin, .code yX8_isWithin cX8_isWithin 3 (some .boolean)] ++ wsX80 ++ wsX50 ++ wsX30 ++ gAt.filter goodWord)
def wsL_loop : List Cond := .codeWith yL_loop cL_loop 5 (some .int) [(0, 10, 13, 13)] :: ([.classLink RL 13 "java/util/NoSuchElementException", .methodLink RL 15 yX8_loop, .instanceMethod yX8_loop, .selects RX8 yX8_loop yX8_loop, .initialized RX8, .code yX8_loop cX8_loop 3 (some .int), .classLink RX8 140 "java/util/NoSuchElementException", .initialized "java/util/NoSuchElementException", .fieldLink RX8 33 "MeanderBench" "river" "LMeanderBench$River;", .fieldLink RX8 159 "MeanderBench$River" "loops" "LMeanderBench$Loops;", .fieldLink RX8 163 "MeanderBench$Loops" "size" "I", .fieldLink RX8 168 "MeanderBench$Loops" "years" "[I", .fieldLink RX8 171 "MeanderBench$Loops" "leftOut" "[I", .fieldLink RX8 174 "MeanderBench$Loops" "twiceAreas" "[I", .methodLink RX8 77 yX8_isWithin, .static yX8_isWithin, .code yX8_isWithin cX8_isWithin 3 (some .boolean)] ++ wsX80 ++ wsX50 ++ wsX00 ++ gAt.filter goodWord)
def wsL_owner : List Cond := .codeWith yL_owner cL_owner 5 (some .int) [(0, 10, 13, 13)] :: ((wsL_owner_r1 ++ wsL_owner_r2) ++ wsX80 ++ wsX20 ++ wsX50 ++ wsX30 ++ gAt.filter goodWord)
def wsL_law : List Cond := wsL_law0 ++ gAt.filter goodWord
theorem wsL_law_x0 : ∀ w ∈ gAt.filter goodWord, w ∈ lw_tbl := wIn_r [47, 571, 580, 582, 585, 587, 572, 573, 58, 59, 574, 579, 583, 603, 561, 604, 563, 605, 565, 575, 577, 567, 599, 600, 602, 567, 590, 591, 592, 593, 593, 594, 595, 596, 596, 597, 598, 599, 589, 550, 558, 559, 560, 562, 564, 566, 570, 569, 568] (by decide +kernel)
theorem wsL_law_in : ∀ w ∈ wsL_law, w ∈ lw_tbl := fun w h => (List.mem_append.mp h).elim (fun h => wsL_law_in0 w h) (fun h => wsL_law_x0 w h)
theorem inlX0 : ∀ w ∈ wsX00, w ∈ wsL_law := fun _ h => List.mem_append_left _ (List.mem_append_left _ (List.mem_append_right _ h))
theorem inX0 : ∀ w ∈ wsX00, w ∈ lw_tbl := fun w h => wsL_law_in w (inlX0 w h)
theorem inlX1 : ∀ w ∈ wsX10, w ∈ wsL_law := fun _ h => List.mem_append_left _ (List.mem_append_left _ (List.mem_append_left _ (List.mem_append_left _ (List.mem_append_right _ h))))
theorem inX1 : ∀ w ∈ wsX10, w ∈ lw_tbl := fun w h => wsL_law_in w (inlX1 w h)
theorem inlX2 : ∀ w ∈ wsX20, w ∈ wsL_law := fun _ h => List.mem_append_left _ (List.mem_append_left _ (List.mem_append_left _ (List.mem_append_left _ (List.mem_append_left _ (List.mem_append_right _ h)))))
theorem inX2 : ∀ w ∈ wsX20, w ∈ lw_tbl := fun w h => wsL_law_in w (inlX2 w h)
theorem inlX3 : ∀ w ∈ wsX30, w ∈ wsL_law := fun _ h => List.mem_append_left _ (List.mem_append_left _ (List.mem_append_left _ (List.mem_append_left _ (List.mem_append_left _ (List.mem_append_left _ (List.mem_append_left _ (List.mem_append_right _ h)))))))
theorem inX3 : ∀ w ∈ wsX30, w ∈ lw_tbl := fun w h => wsL_law_in w (inlX3 w h)
theorem inlX4 : ∀ w ∈ wsX40, w ∈ wsL_law := fun _ h => List.mem_append_left _ (List.mem_append_left _ (List.mem_append_left _ (List.mem_append_right _ h)))
theorem inX4 : ∀ w ∈ wsX40, w ∈ lw_tbl := fun w h => wsL_law_in w (inlX4 w h)
theorem inlX5 : ∀ w ∈ wsX50, w ∈ wsL_law := fun _ h => List.mem_append_left _ (List.mem_append_left _ (List.mem_append_left _ (List.mem_append_left _ (List.mem_append_left _ (List.mem_append_left _ (List.mem_append_right _ h))))))
theorem inX5 : ∀ w ∈ wsX50, w ∈ lw_tbl := fun w h => wsL_law_in w (inlX5 w h)
theorem inlX6 : ∀ w ∈ wsX60, w ∈ wsL_law := fun _ h => List.mem_append_left _ (List.mem_append_left _ (List.mem_append_left _ (List.mem_append_left _ (List.mem_append_left _ (List.mem_append_left _ (List.mem_append_left _ (List.mem_append_left _ (List.mem_append_right _ h))))))))
theorem inX6 : ∀ w ∈ wsX60, w ∈ lw_tbl := fun w h => wsL_law_in w (inlX6 w h)
theorem inlX7 : ∀ w ∈ wsX70, w ∈ wsL_law := fun _ h => List.mem_append_left _ (List.mem_append_left _ (List.mem_append_left _ (List.mem_append_left _ (List.mem_append_left _ (List.mem_append_left _ (List.mem_append_left _ (List.mem_append_left _ (List.mem_append_left _ (List.mem_append_right _ h)))))))))
theorem inX7 : ∀ w ∈ wsX70, w ∈ lw_tbl := fun w h => wsL_law_in w (inlX7 w h)
theorem inlX8 : ∀ w ∈ wsX80, w ∈ wsL_law := fun _ h => List.mem_append_left _ (List.mem_append_left _ (List.mem_append_left _ (List.mem_append_left _ (List.mem_append_left _ (List.mem_append_left _ (List.mem_append_left _ (List.mem_append_left _ (List.mem_append_left _ (List.mem_append_left _ (List.mem_append_left _ (List.mem_append_right _ h)))))))))))
theorem inX8 : ∀ w ∈ wsX80, w ∈ lw_tbl := fun w h => wsL_law_in w (inlX8 w h)
theorem inlX9 : ∀ w ∈ wsX90, w ∈ wsL_law := fun _ h => List.mem_append_left _ (List.mem_append_left _ (List.mem_append_left _ (List.mem_append_left _ (List.mem_append_left _ (List.mem_append_left _ (List.mem_append_left _ (List.mem_append_left _ (List.mem_append_left _ (List.mem_append_left _ (List.mem_append_right _ h))))))))))
theorem inX9 : ∀ w ∈ wsX90, w ∈ lw_tbl := fun w h => wsL_law_in w (inlX9 w h)
set_option maxRecDepth 20000 in
theorem ggX8_point_X8_isWithin : GoodIn wsX8_point wsX8_isWithin := goodIn_r _ [11] (by decide +kernel) (by decide +kernel)
set_option maxRecDepth 20000 in
theorem gX8_point_X8_isWithin : GoodIn wsX8_point (va_wsS RX8 77 yX8_isWithin wsX8_isWithin) := goodIn_app (goodIn_of _ (by decide +kernel)) ggX8_point_X8_isWithin
set_option maxRecDepth 20000 in
theorem ggX8_loop_X8_isWithin : GoodIn wsX8_loop wsX8_isWithin := goodIn_r _ [12] (by decide +kernel) (by decide +kernel)
set_option maxRecDepth 20000 in
theorem gX8_loop_X8_isWithin : GoodIn wsX8_loop (va_wsS RX8 77 yX8_isWithin wsX8_isWithin) := goodIn_app (goodIn_of _ (by decide +kernel)) ggX8_loop_X8_isWithin
set_option maxRecDepth 20000 in
theorem ggX8_owner_X8_isWithin : GoodIn wsX8_owner wsX8_isWithin := goodIn_r _ [14] (by decide +kernel) (by decide +kernel)
set_option maxRecDepth 20000 in
theorem gX8_owner_X8_isWithin : GoodIn wsX8_owner (va_wsS RX8 77 yX8_isWithin wsX8_isWithin) := goodIn_app (goodIn_of _ (by decide +kernel)) ggX8_owner_X8_isWithin
set_option maxRecDepth 20000 in
theorem ggX8_owner_X3_sideOf : GoodIn wsX8_owner wsX3_sideOf := goodIn_r _ [19, 20, 21, 22, 23, 24, 18, 25, 26, 45, 46, 47] (by decide +kernel) (by decide +kernel)
set_option maxRecDepth 20000 in
theorem gX8_owner_X3_sideOf : GoodIn wsX8_owner (wsV RX8 183 RX3 yX3_sideOf wsX3_sideOf) := goodIn_app (goodIn_of _ (by decide +kernel)) ggX8_owner_X3_sideOf
set_option maxRecDepth 20000 in
theorem ggL_point_X8_point : GoodIn wsL_point wsX8_point := goodIn_ca (goodIn_r _ [6, 7, 8, 9, 10, 11, 12, 13, 14, 15, 5, 16, 17, 18, 19, 20, 21, 22, 23, 24, 25, 26, 27, 28, 29, 30, 31] (by decide +kernel) (by decide +kernel)) (goodIn_sub (fun _ h => List.mem_cons_of_mem _ (List.mem_append_right _ h)) (by decide +kernel))
set_option maxRecDepth 20000 in
theorem gL_point_X8_point : GoodIn wsL_point (wsV RL 7 RX8 yX8_point wsX8_point) := goodIn_app (goodIn_of _ (by decide +kernel)) ggL_point_X8_point
set_option maxRecDepth 20000 in
theorem ggL_loop_X8_loop : GoodIn wsL_loop wsX8_loop := goodIn_ca (goodIn_r _ [6, 7, 8, 9, 10, 11, 12, 13, 14, 15, 16, 5, 17, 18, 19, 20, 21, 22, 23, 24, 25, 26, 27, 28, 29, 30, 31, 32, 33] (by decide +kernel) (by decide +kernel)) (goodIn_sub (fun _ h => List.mem_cons_of_mem _ (List.mem_append_right _ h)) (by decide +kernel))
set_option maxRecDepth 20000 in
theorem gL_loop_X8_loop : GoodIn wsL_loop (wsV RL 15 RX8 yX8_loop wsX8_loop) := goodIn_app (goodIn_of _ (by decide +kernel)) ggL_loop_X8_loop
set_option maxRecDepth 20000 in
theorem ggL_owner_X8_owner : GoodIn wsL_owner wsX8_owner := goodIn_ca (goodIn_r _ [6, 7, 8, 9, 10, 11, 12, 13, 14, 15, 16, 17, 18, 5, 19, 20, 21, 22, 23, 24, 25, 26, 27, 28, 29, 30, 31, 32, 33, 34, 35, 36, 37, 38, 39, 40, 41, 42, 43, 44, 45, 46, 47, 48, 49, 50, 51, 52] (by decide +kernel) (by decide +kernel)) (goodIn_sub (fun _ h => List.mem_cons_of_mem _ (List.mem_append_right _ h)) (by decide +kernel))
set_option maxRecDepth 20000 in
theorem gL_owner_X8_owner : GoodIn wsL_owner (wsV RL 18 RX8 yX8_owner wsX8_owner) := goodIn_app (goodIn_of _ (by decide +kernel)) ggL_owner_X8_owner
set_option maxRecDepth 20000 in
theorem ggL_law_X8_init_p1 : GoodIn wsL_law (Cond.code yX8_init cX8_init 1 none :: wsX8_init_r1) := goodIn_r _ [9, 10, 11, 12, 13, 14, 15, 16, 17, 18, 19, 20, 21, 22, 23, 24, 25, 26, 27, 28, 29, 30, 31, 32, 33] (by decide +kernel) (by decide +kernel)
set_option maxRecDepth 20000 in
theorem ggL_law_X8_init_p2 : GoodIn wsL_law (wsX8_init_r2) := goodIn_r _ [34, 35, 36, 37, 38, 39, 40, 41, 42, 43, 44, 45, 46, 47, 48, 49, 50, 51, 52, 53, 54, 55, 56, 57] (by decide +kernel) (by decide +kernel)
set_option maxRecDepth 20000 in
theorem ggL_law_X8_init_p3 : GoodIn wsL_law (wsX8_init_r3) := goodIn_r _ [58, 59, 60, 61, 62, 63, 64, 65, 66, 67, 68, 69, 70, 71, 72, 73, 74, 75, 76, 77, 78, 79, 80, 81] (by decide +kernel) (by decide +kernel)
set_option maxRecDepth 20000 in
theorem ggL_law_X8_init_p4 : GoodIn wsL_law (wsX8_init_r4) := goodIn_r _ [82, 83, 84, 85, 86, 87, 88, 89, 90, 91, 92, 93, 94, 95, 96, 97, 98, 99, 100, 101, 102, 103, 104, 105] (by decide +kernel) (by decide +kernel)
set_option maxRecDepth 20000 in
theorem ggL_law_X8_init_p5 : GoodIn wsL_law (wsX8_init_r5) := goodIn_r _ [106, 107, 108, 109, 110, 111, 112, 113] (by decide +kernel) (by decide +kernel)
set_option maxRecDepth 20000 in
theorem ggL_law_X8_init_p6 : GoodIn wsL_law (wsX70) := goodIn_r _ [677, 678] (by decide +kernel) (by decide +kernel)
set_option maxRecDepth 20000 in
theorem ggL_law_X8_init_p7 : GoodIn wsL_law (wsX80) := goodIn_r _ [633, 634, 635, 636, 637, 638, 639, 640] (by decide +kernel) (by decide +kernel)
set_option maxRecDepth 20000 in
theorem ggL_law_X8_init_p8 : GoodIn wsL_law (wsX60) := goodIn_r _ [679, 680, 681, 682, 683, 684, 685] (by decide +kernel) (by decide +kernel)
set_option maxRecDepth 20000 in
theorem ggL_law_X8_init_p9 : GoodIn wsL_law (wsX30) := goodIn_r _ [686, 687, 688] (by decide +kernel) (by decide +kernel)
set_option maxRecDepth 20000 in
theorem ggL_law_X8_init_p10 : GoodIn wsL_law (wsX50) := goodIn_r _ [689, 690, 691, 692] (by decide +kernel) (by decide +kernel)
set_option maxRecDepth 20000 in
theorem ggL_law_X8_init_p11 : GoodIn wsL_law (wsX20) := goodIn_r _ [693, 694, 695, 696, 697, 698] (by decide +kernel) (by decide +kernel)
set_option maxRecDepth 20000 in
theorem ggL_law_X8_init_p12 : GoodIn wsL_law (wsX10) := goodIn_r _ [699, 700, 701, 702, 703] (by decide +kernel) (by decide +kernel)
set_option maxRecDepth 20000 in
theorem ggL_law_X8_init_p13 : GoodIn wsL_law (wsX40) := goodIn_r _ [704, 705] (by decide +kernel) (by decide +kernel)
set_option maxRecDepth 20000 in
theorem ggL_law_X8_init_p14 : GoodIn wsL_law (wsX00) := goodIn_r _ [706, 707, 708, 709] (by decide +kernel) (by decide +kernel)
theorem ggL_law_X8_init : GoodIn wsL_law wsX8_init := (goodIn_ca (goodIn_ca (goodIn_ca (goodIn_ca (goodIn_ca (goodIn_ca (goodIn_ca (goodIn_ca (goodIn_ca (goodIn_ca ggL_law_X8_init_p1 (goodIn_app ggL_law_X8_init_p2 (goodIn_app ggL_law_X8_init_p3 (goodIn_app ggL_law_X8_init_p4 ggL_law_X8_init_p5)))) ggL_law_X8_init_p6) ggL_law_X8_init_p7) ggL_law_X8_init_p8) ggL_law_X8_init_p9) ggL_law_X8_init_p10) ggL_law_X8_init_p11) ggL_law_X8_init_p12) ggL_law_X8_init_p13) ggL_law_X8_init_p14)
set_option maxRecDepth 20000 in
theorem gL_law_X8_init : GoodIn wsL_law (wsX8_init) := ggL_law_X8_init
set_option maxRecDepth 20000 in
theorem ggL_law_X9_init_p1 : GoodIn wsL_law (Cond.code yX9_init cX9_init 2 none :: wsX9_init_r1) := goodIn_r _ [116, 117, 11, 12, 118, 119, 45, 120, 121, 122, 123, 124, 125, 126, 127, 128, 129, 130, 131, 132, 133, 134, 135, 136, 137] (by decide +kernel) (by decide +kernel)
set_option maxRecDepth 20000 in
theorem ggL_law_X9_init_p2 : GoodIn wsL_law (wsX9_init_r2) := goodIn_r _ [138, 139, 140, 141, 142, 143, 144, 145, 146, 147, 148, 149, 5, 150] (by decide +kernel) (by decide +kernel)
set_option maxRecDepth 20000 in
theorem ggL_law_X9_init_p3 : GoodIn wsL_law (wsX90) := goodIn_r _ [641, 642, 643, 644, 645, 646, 647, 648, 649, 650, 651, 652, 653, 654, 655, 656, 657, 658, 659, 660, 661, 662, 663, 664, 665, 666, 667, 668, 669, 670, 671, 672, 673, 674, 675, 676] (by decide +kernel) (by decide +kernel)
theorem ggL_law_X9_init : GoodIn wsL_law wsX9_init := (goodIn_ca (goodIn_ca ggL_law_X9_init_p1 ggL_law_X9_init_p2) ggL_law_X9_init_p3)
set_option maxRecDepth 20000 in
theorem gL_law_X9_init : GoodIn wsL_law (wsX9_init) := ggL_law_X9_init
set_option maxRecDepth 20000 in
theorem ggL_law_X8_feed : GoodIn wsL_law wsX8_feed := goodIn_r _ [154, 16, 155, 156, 157, 158, 15, 159, 160, 46, 633, 634, 635, 636, 637, 638, 639, 640, 677, 678] (by decide +kernel) (by decide +kernel)
set_option maxRecDepth 20000 in
theorem gL_law_X8_feed : GoodIn wsL_law (wsV RL 25 RX8 yX8_feed wsX8_feed) := goodIn_app (goodIn_of _ (by decide +kernel)) ggL_law_X8_feed
set_option maxRecDepth 20000 in
theorem ggL_law_X9_feed : GoodIn wsL_law wsX9_feed := goodIn_r _ [164, 165, 166, 167, 168, 169, 5, 170, 119, 641, 642, 643, 644, 645, 646, 647, 648, 649, 650, 651, 652, 653, 654, 655, 656, 657, 658, 659, 660, 661, 662, 663, 664, 665, 666, 667, 668, 669, 670, 671, 672, 673, 674, 675, 676] (by decide +kernel) (by decide +kernel)
set_option maxRecDepth 20000 in
theorem gL_law_X9_feed : GoodIn wsL_law (wsV RL 29 RX9 yX9_feed wsX9_feed) := goodIn_app (goodIn_of _ (by decide +kernel)) ggL_law_X9_feed
set_option maxRecDepth 20000 in
theorem ggL_law_X8_end : GoodIn wsL_law wsX8_end := goodIn_r _ [174, 16, 155, 175, 176, 2, 177, 633, 634, 635, 636, 637, 638, 639, 640, 677, 678] (by decide +kernel) (by decide +kernel)
set_option maxRecDepth 20000 in
theorem gL_law_X8_end : GoodIn wsL_law (wsV RL 30 RX8 yX8_end wsX8_end) := goodIn_app (goodIn_of _ (by decide +kernel)) ggL_law_X8_end
set_option maxRecDepth 20000 in
theorem ggL_law_X9_end : GoodIn wsL_law wsX9_end := goodIn_r _ [181, 165, 166, 641, 642, 643, 644, 645, 646, 647, 648, 649, 650, 651, 652, 653, 654, 655, 656, 657, 658, 659, 660, 661, 662, 663, 664, 665, 666, 667, 668, 669, 670, 671, 672, 673, 674, 675, 676] (by decide +kernel) (by decide +kernel)
set_option maxRecDepth 20000 in
theorem gL_law_X9_end : GoodIn wsL_law (wsV RL 34 RX9 yX9_end wsX9_end) := goodIn_app (goodIn_of _ (by decide +kernel)) ggL_law_X9_end
set_option maxRecDepth 20000 in
theorem ggL_law_X8_line_p1 : GoodIn wsL_law (Cond.code yX8_line cX8_line 2 (some .boolean) :: wsX8_line_r1) := goodIn_r _ [185, 16, 24, 28, 33, 186, 155, 187, 188, 189, 15, 190, 160, 176, 2, 177, 191, 192, 193, 194, 46, 195, 196, 197, 198] (by decide +kernel) (by decide +kernel)
set_option maxRecDepth 20000 in
theorem ggL_law_X8_line_p2 : GoodIn wsL_law (wsX8_line_r2) := goodIn_r _ [199, 200, 99, 100, 23, 101, 102, 61, 62, 103, 104, 105, 27, 106, 71, 69, 107, 108, 109, 110, 111, 112, 113, 201] (by decide +kernel) (by decide +kernel)
set_option maxRecDepth 20000 in
theorem ggL_law_X8_line_p3 : GoodIn wsL_law (wsX8_line_r3) := goodIn_r _ [202, 203, 32, 204, 205, 84, 82, 83, 85, 206, 207, 208, 209, 210, 211, 212, 213] (by decide +kernel) (by decide +kernel)
set_option maxRecDepth 20000 in
theorem ggL_law_X8_line_p4 : GoodIn wsL_law (wsX80) := goodIn_r _ [633, 634, 635, 636, 637, 638, 639, 640] (by decide +kernel) (by decide +kernel)
set_option maxRecDepth 20000 in
theorem ggL_law_X8_line_p5 : GoodIn wsL_law (wsX50) := goodIn_r _ [689, 690, 691, 692] (by decide +kernel) (by decide +kernel)
set_option maxRecDepth 20000 in
theorem ggL_law_X8_line_p6 : GoodIn wsL_law (wsX70) := goodIn_r _ [677, 678] (by decide +kernel) (by decide +kernel)
set_option maxRecDepth 20000 in
theorem ggL_law_X8_line_p7 : GoodIn wsL_law (wsX30) := goodIn_r _ [686, 687, 688] (by decide +kernel) (by decide +kernel)
set_option maxRecDepth 20000 in
theorem ggL_law_X8_line_p8 : GoodIn wsL_law (wsX00) := goodIn_r _ [706, 707, 708, 709] (by decide +kernel) (by decide +kernel)
set_option maxRecDepth 20000 in
theorem ggL_law_X8_line_p9 : GoodIn wsL_law (wsX20) := goodIn_r _ [693, 694, 695, 696, 697, 698] (by decide +kernel) (by decide +kernel)
theorem ggL_law_X8_line : GoodIn wsL_law wsX8_line := (goodIn_ca (goodIn_ca (goodIn_ca (goodIn_ca (goodIn_ca (goodIn_ca (goodIn_ca ggL_law_X8_line_p1 (goodIn_app ggL_law_X8_line_p2 ggL_law_X8_line_p3)) ggL_law_X8_line_p4) ggL_law_X8_line_p5) ggL_law_X8_line_p6) ggL_law_X8_line_p7) ggL_law_X8_line_p8) ggL_law_X8_line_p9)
set_option maxRecDepth 20000 in
theorem gL_law_X8_line : GoodIn wsL_law (wsV RL 35 RX8 yX8_line wsX8_line) := goodIn_app (goodIn_of _ (by decide +kernel)) ggL_law_X8_line
set_option maxRecDepth 20000 in
theorem ggL_law_X9_line_p1 : GoodIn wsL_law (Cond.code yX9_line cX9_line 2 (some .boolean) :: wsX9_line_r1) := goodIn_r _ [217, 165, 218, 122, 120, 121, 219, 220, 221, 139, 137, 138, 140, 222, 223, 224, 5, 225, 166, 226, 227, 228, 229, 119, 147] (by decide +kernel) (by decide +kernel)
set_option maxRecDepth 20000 in
theorem ggL_law_X9_line_p2 : GoodIn wsL_law (wsX9_line_r2) := goodIn_r _ [148, 149, 150, 230, 231, 232, 233] (by decide +kernel) (by decide +kernel)
set_option maxRecDepth 20000 in
theorem ggL_law_X9_line_p3 : GoodIn wsL_law (wsX90) := goodIn_r _ [641, 642, 643, 644, 645, 646, 647, 648, 649, 650, 651, 652, 653, 654, 655, 656, 657, 658, 659, 660, 661, 662, 663, 664, 665, 666, 667, 668, 669, 670, 671, 672, 673, 674, 675, 676] (by decide +kernel) (by decide +kernel)
theorem ggL_law_X9_line : GoodIn wsL_law wsX9_line := (goodIn_ca (goodIn_ca ggL_law_X9_line_p1 ggL_law_X9_line_p2) ggL_law_X9_line_p3)
set_option maxRecDepth 20000 in
theorem gL_law_X9_line : GoodIn wsL_law (wsV RL 39 RX9 yX9_line wsX9_line) := goodIn_app (goodIn_of _ (by decide +kernel)) ggL_law_X9_line
set_option maxRecDepth 20000 in
theorem ggL_law_X8_banks : GoodIn wsL_law wsX8_banks := goodIn_r _ [237, 16, 20, 238, 155, 239, 240, 241, 15, 242, 160, 46, 243, 244, 245, 246, 633, 634, 635, 636, 637, 638, 639, 640, 679, 680, 681, 682, 683, 684, 685, 677, 678] (by decide +kernel) (by decide +kernel)
set_option maxRecDepth 20000 in
theorem gL_law_X8_banks : GoodIn wsL_law (wsV RL 40 RX8 yX8_banks wsX8_banks) := goodIn_app (goodIn_of _ (by decide +kernel)) ggL_law_X8_banks
set_option maxRecDepth 20000 in
theorem ggL_law_X9_banks : GoodIn wsL_law wsX9_banks := goodIn_r _ [250, 165, 218, 119, 123, 222, 223, 224, 5, 225, 166, 251, 252, 253, 641, 642, 643, 644, 645, 646, 647, 648, 649, 650, 651, 652, 653, 654, 655, 656, 657, 658, 659, 660, 661, 662, 663, 664, 665, 666, 667, 668, 669, 670, 671, 672, 673, 674, 675, 676] (by decide +kernel) (by decide +kernel)
set_option maxRecDepth 20000 in
theorem gL_law_X9_banks : GoodIn wsL_law (wsV RL 43 RX9 yX9_banks wsX9_banks) := goodIn_app (goodIn_of _ (by decide +kernel)) ggL_law_X9_banks
set_option maxRecDepth 20000 in
theorem ggL_law_X8_set : GoodIn wsL_law wsX8_set := goodIn_r _ [257, 20, 258, 259, 260, 261, 262, 263, 175, 176, 2, 177, 633, 634, 635, 636, 637, 638, 639, 640, 679, 680, 681, 682, 683, 684, 685] (by decide +kernel) (by decide +kernel)
set_option maxRecDepth 20000 in
theorem gL_law_X8_set : GoodIn wsL_law (wsV RL 44 RX8 yX8_set wsX8_set) := goodIn_app (goodIn_of _ (by decide +kernel)) ggL_law_X8_set
set_option maxRecDepth 20000 in
theorem ggL_law_X9_set : GoodIn wsL_law wsX9_set := goodIn_r _ [267, 165, 124, 125, 126, 127, 128, 129, 251, 252, 5, 253, 641, 642, 643, 644, 645, 646, 647, 648, 649, 650, 651, 652, 653, 654, 655, 656, 657, 658, 659, 660, 661, 662, 663, 664, 665, 666, 667, 668, 669, 670, 671, 672, 673, 674, 675, 676] (by decide +kernel) (by decide +kernel)
set_option maxRecDepth 20000 in
theorem gL_law_X9_set : GoodIn wsL_law (wsV RL 48 RX9 yX9_set wsX9_set) := goodIn_app (goodIn_of _ (by decide +kernel)) ggL_law_X9_set
set_option maxRecDepth 20000 in
theorem ggL_law_X8_go_p1 : GoodIn wsL_law (Cond.code yX8_go cX8_go 3 (some .int) :: wsX8_go_r1) := goodIn_r _ [271, 28, 272, 33, 186, 20, 258, 263, 175, 176, 2, 177, 273, 274, 275, 32, 276, 205, 86, 82, 83, 206, 207, 208, 23] (by decide +kernel) (by decide +kernel)
set_option maxRecDepth 20000 in
theorem ggL_law_X8_go_p2 : GoodIn wsL_law (wsX8_go_r2) := goodIn_r _ [209, 102, 61, 210, 211, 212, 213, 62, 277, 278, 279, 27, 280, 108, 281, 282, 283, 284, 285, 71, 286, 72, 287, 288] (by decide +kernel) (by decide +kernel)
set_option maxRecDepth 20000 in
theorem ggL_law_X8_go_p3 : GoodIn wsL_law (wsX8_go_r3) := goodIn_r _ [289, 290, 291, 19, 292, 51, 293, 294, 295, 296, 297, 298, 299, 300, 301, 302, 303, 304, 305, 306, 307, 308, 309, 310] (by decide +kernel) (by decide +kernel)
set_option maxRecDepth 20000 in
theorem ggL_law_X8_go_p4 : GoodIn wsL_law (wsX8_go_r4) := goodIn_r _ [311, 312, 313, 99, 100, 101, 314, 315, 316, 317, 318, 319, 320, 321, 322, 323, 324, 325, 326, 327, 328, 329, 330, 331] (by decide +kernel) (by decide +kernel)
set_option maxRecDepth 20000 in
theorem ggL_law_X8_go_p5 : GoodIn wsL_law (wsX8_go_r5) := goodIn_r _ [332, 333, 334, 335, 336, 337, 338, 339, 340, 84, 85, 341, 342, 343, 344, 69, 345, 346, 347, 348, 349, 350, 351, 352] (by decide +kernel) (by decide +kernel)
set_option maxRecDepth 20000 in
theorem ggL_law_X8_go_p6 : GoodIn wsL_law (wsX8_go_r6) := goodIn_r _ [353, 354, 355, 356, 68, 357, 358, 76, 77, 78, 359, 360, 361, 362] (by decide +kernel) (by decide +kernel)
set_option maxRecDepth 20000 in
theorem ggL_law_X8_go_p7 : GoodIn wsL_law (wsX80) := goodIn_r _ [633, 634, 635, 636, 637, 638, 639, 640] (by decide +kernel) (by decide +kernel)
set_option maxRecDepth 20000 in
theorem ggL_law_X8_go_p8 : GoodIn wsL_law (wsX50) := goodIn_r _ [689, 690, 691, 692] (by decide +kernel) (by decide +kernel)
set_option maxRecDepth 20000 in
theorem ggL_law_X8_go_p9 : GoodIn wsL_law (wsX60) := goodIn_r _ [679, 680, 681, 682, 683, 684, 685] (by decide +kernel) (by decide +kernel)
set_option maxRecDepth 20000 in
theorem ggL_law_X8_go_p10 : GoodIn wsL_law (wsX20) := goodIn_r _ [693, 694, 695, 696, 697, 698] (by decide +kernel) (by decide +kernel)
set_option maxRecDepth 20000 in
theorem ggL_law_X8_go_p11 : GoodIn wsL_law (wsX30) := goodIn_r _ [686, 687, 688] (by decide +kernel) (by decide +kernel)
set_option maxRecDepth 20000 in
theorem ggL_law_X8_go_p12 : GoodIn wsL_law (wsX00) := goodIn_r _ [706, 707, 708, 709] (by decide +kernel) (by decide +kernel)
theorem ggL_law_X8_go : GoodIn wsL_law wsX8_go := (goodIn_ca (goodIn_ca (goodIn_ca (goodIn_ca (goodIn_ca (goodIn_ca (goodIn_ca ggL_law_X8_go_p1 (goodIn_app ggL_law_X8_go_p2 (goodIn_app ggL_law_X8_go_p3 (goodIn_app ggL_law_X8_go_p4 (goodIn_app ggL_law_X8_go_p5 ggL_law_X8_go_p6))))) ggL_law_X8_go_p7) ggL_law_X8_go_p8) ggL_law_X8_go_p9) ggL_law_X8_go_p10) ggL_law_X8_go_p11) ggL_law_X8_go_p12)
set_option maxRecDepth 20000 in
theorem gL_law_X8_go : GoodIn wsL_law (wsV RL 49 RX8 yX8_go wsX8_go) := goodIn_app (goodIn_of _ (by decide +kernel)) ggL_law_X8_go
set_option maxRecDepth 20000 in
theorem ggL_law_X9_go_p1 : GoodIn wsL_law (Cond.code yX9_go cX9_go 5 (some .int) :: wsX9_go_r1) := goodIn_r _ [366, 165, 219, 221, 141, 137, 138, 124, 140, 139, 251, 252, 5, 253, 230, 231, 232, 233, 122, 120, 121, 367, 368, 369, 370] (by decide +kernel) (by decide +kernel)
set_option maxRecDepth 20000 in
theorem ggL_law_X9_go_p2 : GoodIn wsL_law (wsX9_go_r2) := goodIn_r _ [130, 131, 371, 372, 373, 374, 125, 126, 127, 123, 375, 376, 377, 378, 379, 380, 381, 382, 132, 133, 128, 383, 384, 385] (by decide +kernel) (by decide +kernel)
set_option maxRecDepth 20000 in
theorem ggL_law_X9_go_p3 : GoodIn wsL_law (wsX9_go_r3) := goodIn_r _ [386, 387, 388, 389, 390, 391, 392, 393, 129, 394, 395, 396, 397, 220, 134, 135, 136, 398, 399, 400, 401] (by decide +kernel) (by decide +kernel)
set_option maxRecDepth 20000 in
theorem ggL_law_X9_go_p4 : GoodIn wsL_law (wsX90) := goodIn_r _ [641, 642, 643, 644, 645, 646, 647, 648, 649, 650, 651, 652, 653, 654, 655, 656, 657, 658, 659, 660, 661, 662, 663, 664, 665, 666, 667, 668, 669, 670, 671, 672, 673, 674, 675, 676] (by decide +kernel) (by decide +kernel)
theorem ggL_law_X9_go : GoodIn wsL_law wsX9_go := (goodIn_ca (goodIn_ca ggL_law_X9_go_p1 (goodIn_app ggL_law_X9_go_p2 ggL_law_X9_go_p3)) ggL_law_X9_go_p4)
set_option maxRecDepth 20000 in
theorem gL_law_X9_go : GoodIn wsL_law (wsV RL 53 RX9 yX9_go wsX9_go) := goodIn_app (goodIn_of _ (by decide +kernel)) ggL_law_X9_go
set_option maxRecDepth 20000 in
theorem ggL_law_L_point : GoodIn wsL_law wsL_point := goodIn_ca (goodIn_r _ [405, 406, 407, 408, 409, 2, 410, 411, 412, 28, 186, 413, 414, 415, 175, 176, 177, 633, 634, 635, 636, 637, 638, 639, 640, 689, 690, 691, 692, 686, 687, 688] (by decide +kernel) (by decide +kernel)) (goodIn_sub (fun _ h => List.mem_append_right _ h) (by decide +kernel))
set_option maxRecDepth 20000 in
theorem gL_law_L_point : GoodIn wsL_law (va_wsS RL 54 yL_point wsL_point) := goodIn_app (goodIn_of _ (by decide +kernel)) ggL_law_L_point
set_option maxRecDepth 20000 in
theorem ggL_law_X9_point : GoodIn wsL_law wsX9_point := goodIn_r _ [419, 122, 120, 121, 420, 421, 422, 5, 423, 165, 641, 642, 643, 644, 645, 646, 647, 648, 649, 650, 651, 652, 653, 654, 655, 656, 657, 658, 659, 660, 661, 662, 663, 664, 665, 666, 667, 668, 669, 670, 671, 672, 673, 674, 675, 676] (by decide +kernel) (by decide +kernel)
set_option maxRecDepth 20000 in
theorem gL_law_X9_point : GoodIn wsL_law (wsV RL 59 RX9 yX9_point wsX9_point) := goodIn_app (goodIn_of _ (by decide +kernel)) ggL_law_X9_point
set_option maxRecDepth 20000 in
theorem ggL_law_X9_thrown : GoodIn wsL_law wsX9_thrown := goodIn_r _ [427, 165, 641, 642, 643, 644, 645, 646, 647, 648, 649, 650, 651, 652, 653, 654, 655, 656, 657, 658, 659, 660, 661, 662, 663, 664, 665, 666, 667, 668, 669, 670, 671, 672, 673, 674, 675, 676] (by decide +kernel) (by decide +kernel)
set_option maxRecDepth 20000 in
theorem gL_law_X9_thrown : GoodIn wsL_law (wsV RL 60 RX9 yX9_thrown wsX9_thrown) := goodIn_app (goodIn_of _ (by decide +kernel)) ggL_law_X9_thrown
set_option maxRecDepth 20000 in
theorem ggL_law_X8_crossings : GoodIn wsL_law wsX8_crossings := goodIn_r _ [431, 28, 186, 432, 433, 434, 23, 435, 102, 436, 437, 438, 439, 61, 62, 440, 441, 442, 443, 311, 308, 312, 444, 307, 309, 445, 446, 447, 448, 449, 450, 451, 452, 453, 454, 455, 456, 633, 634, 635, 636, 637, 638, 639, 640, 689, 690, 691, 692, 686, 687, 688] (by decide +kernel) (by decide +kernel)
set_option maxRecDepth 20000 in
theorem gL_law_X8_crossings : GoodIn wsL_law (wsV RL 64 RX8 yX8_crossings wsX8_crossings) := goodIn_app (goodIn_of _ (by decide +kernel)) ggL_law_X8_crossings
set_option maxRecDepth 20000 in
theorem ggL_law_X9_crossings : GoodIn wsL_law wsX9_crossings := goodIn_r _ [460, 165, 122, 461, 462, 463, 5, 464, 465, 466, 467, 468, 120, 121, 469, 470, 471, 472, 473, 474, 475, 641, 642, 643, 644, 645, 646, 647, 648, 649, 650, 651, 652, 653, 654, 655, 656, 657, 658, 659, 660, 661, 662, 663, 664, 665, 666, 667, 668, 669, 670, 671, 672, 673, 674, 675, 676] (by decide +kernel) (by decide +kernel)
set_option maxRecDepth 20000 in
theorem gL_law_X9_crossings : GoodIn wsL_law (wsV RL 67 RX9 yX9_crossings wsX9_crossings) := goodIn_app (goodIn_of _ (by decide +kernel)) ggL_law_X9_crossings
set_option maxRecDepth 20000 in
theorem ggL_law_L_loop : GoodIn wsL_law wsL_loop := goodIn_ca (goodIn_r _ [478, 406, 479, 480, 481, 2, 482, 411, 412, 28, 483, 484, 485, 486, 487, 175, 176, 177, 633, 634, 635, 636, 637, 638, 639, 640, 689, 690, 691, 692, 706, 707, 708, 709] (by decide +kernel) (by decide +kernel)) (goodIn_sub (fun _ h => List.mem_append_right _ h) (by decide +kernel))
set_option maxRecDepth 20000 in
theorem gL_law_L_loop : GoodIn wsL_law (va_wsS RL 68 yL_loop wsL_loop) := goodIn_app (goodIn_of _ (by decide +kernel)) ggL_law_L_loop
set_option maxRecDepth 20000 in
theorem ggL_law_X9_loop : GoodIn wsL_law wsX9_loop := goodIn_r _ [491, 220, 134, 135, 136, 420, 421, 422, 5, 423, 165, 641, 642, 643, 644, 645, 646, 647, 648, 649, 650, 651, 652, 653, 654, 655, 656, 657, 658, 659, 660, 661, 662, 663, 664, 665, 666, 667, 668, 669, 670, 671, 672, 673, 674, 675, 676] (by decide +kernel) (by decide +kernel)
set_option maxRecDepth 20000 in
theorem gL_law_X9_loop : GoodIn wsL_law (wsV RL 70 RX9 yX9_loop wsX9_loop) := goodIn_app (goodIn_of _ (by decide +kernel)) ggL_law_X9_loop
set_option maxRecDepth 20000 in
theorem ggL_law_X8_side : GoodIn wsL_law wsX8_side := goodIn_r _ [495, 28, 186, 496, 497, 2, 498, 175, 176, 177, 499, 207, 208, 23, 209, 102, 61, 210, 211, 212, 213, 62, 633, 634, 635, 636, 637, 638, 639, 640, 689, 690, 691, 692, 686, 687, 688] (by decide +kernel) (by decide +kernel)
set_option maxRecDepth 20000 in
theorem gL_law_X8_side : GoodIn wsL_law (wsV RL 71 RX8 yX8_side wsX8_side) := goodIn_app (goodIn_of _ (by decide +kernel)) ggL_law_X8_side
set_option maxRecDepth 20000 in
theorem ggL_law_X9_side : GoodIn wsL_law wsX9_side := goodIn_r _ [503, 165, 504, 505, 5, 506, 251, 252, 253, 230, 231, 232, 233, 122, 120, 121, 641, 642, 643, 644, 645, 646, 647, 648, 649, 650, 651, 652, 653, 654, 655, 656, 657, 658, 659, 660, 661, 662, 663, 664, 665, 666, 667, 668, 669, 670, 671, 672, 673, 674, 675, 676] (by decide +kernel) (by decide +kernel)
set_option maxRecDepth 20000 in
theorem gL_law_X9_side : GoodIn wsL_law (wsV RL 74 RX9 yX9_side wsX9_side) := goodIn_app (goodIn_of _ (by decide +kernel)) ggL_law_X9_side
set_option maxRecDepth 20000 in
theorem ggL_law_X8_plot : GoodIn wsL_law wsX8_plot := goodIn_r _ [510, 33, 28, 186, 496, 497, 2, 498, 175, 176, 177, 499, 207, 208, 23, 209, 102, 61, 210, 211, 212, 213, 62, 511, 512, 513, 32, 514, 205, 82, 83, 84, 85, 633, 634, 635, 636, 637, 638, 639, 640, 689, 690, 691, 692, 686, 687, 688, 693, 694, 695, 696, 697, 698] (by decide +kernel) (by decide +kernel)
set_option maxRecDepth 20000 in
theorem gL_law_X8_plot : GoodIn wsL_law (wsV RL 75 RX8 yX8_plot wsX8_plot) := goodIn_app (goodIn_of _ (by decide +kernel)) ggL_law_X8_plot
set_option maxRecDepth 20000 in
theorem ggL_law_X9_plot : GoodIn wsL_law wsX9_plot := goodIn_r _ [518, 165, 221, 137, 138, 139, 140, 504, 505, 5, 506, 251, 252, 253, 230, 231, 232, 233, 122, 120, 121, 641, 642, 643, 644, 645, 646, 647, 648, 649, 650, 651, 652, 653, 654, 655, 656, 657, 658, 659, 660, 661, 662, 663, 664, 665, 666, 667, 668, 669, 670, 671, 672, 673, 674, 675, 676] (by decide +kernel) (by decide +kernel)
set_option maxRecDepth 20000 in
theorem gL_law_X9_plot : GoodIn wsL_law (wsV RL 78 RX9 yX9_plot wsX9_plot) := goodIn_app (goodIn_of _ (by decide +kernel)) ggL_law_X9_plot
set_option maxRecDepth 20000 in
theorem ggL_law_L_owner : GoodIn wsL_law wsL_owner := goodIn_ca (goodIn_r _ [521, 406, 522, 523, 524, 2, 525, 411, 412, 33, 526, 527, 28, 186, 528, 529, 530, 175, 176, 177, 499, 207, 208, 23, 209, 102, 61, 210, 211, 212, 213, 62, 633, 634, 635, 636, 637, 638, 639, 640, 693, 694, 695, 696, 697, 698, 689, 690, 691, 692, 686, 687, 688] (by decide +kernel) (by decide +kernel)) (goodIn_sub (fun _ h => List.mem_append_right _ h) (by decide +kernel))
set_option maxRecDepth 20000 in
theorem gL_law_L_owner : GoodIn wsL_law (va_wsS RL 79 yL_owner wsL_owner) := goodIn_app (goodIn_of _ (by decide +kernel)) ggL_law_L_owner
set_option maxRecDepth 20000 in
theorem ggL_law_X9_owner : GoodIn wsL_law wsX9_owner := goodIn_r _ [534, 221, 139, 137, 138, 140, 420, 421, 422, 5, 423, 165, 230, 231, 232, 233, 122, 120, 121, 641, 642, 643, 644, 645, 646, 647, 648, 649, 650, 651, 652, 653, 654, 655, 656, 657, 658, 659, 660, 661, 662, 663, 664, 665, 666, 667, 668, 669, 670, 671, 672, 673, 674, 675, 676] (by decide +kernel) (by decide +kernel)
set_option maxRecDepth 20000 in
theorem gL_law_X9_owner : GoodIn wsL_law (wsV RL 81 RX9 yX9_owner wsX9_owner) := goodIn_app (goodIn_of _ (by decide +kernel)) ggL_law_X9_owner
set_option maxRecDepth 20000 in
theorem ggL_law_X8_mark : GoodIn wsL_law wsX8_mark := goodIn_r _ [538, 37, 175, 176, 2, 177, 539, 540, 541, 36, 542, 543, 90, 91, 92, 633, 634, 635, 636, 637, 638, 639, 640, 699, 700, 701, 702, 703] (by decide +kernel) (by decide +kernel)
set_option maxRecDepth 20000 in
theorem gL_law_X8_mark : GoodIn wsL_law (wsV RL 82 RX8 yX8_mark wsX8_mark) := goodIn_app (goodIn_of _ (by decide +kernel)) ggL_law_X8_mark
set_option maxRecDepth 20000 in
theorem ggL_law_X9_mark : GoodIn wsL_law wsX9_mark := goodIn_r _ [547, 165, 548, 142, 143, 144, 251, 252, 5, 253, 641, 642, 643, 644, 645, 646, 647, 648, 649, 650, 651, 652, 653, 654, 655, 656, 657, 658, 659, 660, 661, 662, 663, 664, 665, 666, 667, 668, 669, 670, 671, 672, 673, 674, 675, 676] (by decide +kernel) (by decide +kernel)
set_option maxRecDepth 20000 in
theorem gL_law_X9_mark : GoodIn wsL_law (wsV RL 86 RX9 yX9_mark wsX9_mark) := goodIn_app (goodIn_of _ (by decide +kernel)) ggL_law_X9_mark
set_option maxRecDepth 20000 in
theorem ggL_law_X8_marks : GoodIn wsL_law wsX8_marks := goodIn_r _ [552, 37, 553, 554, 175, 176, 2, 177, 633, 634, 635, 636, 637, 638, 639, 640, 699, 700, 701, 702, 703] (by decide +kernel) (by decide +kernel)
set_option maxRecDepth 20000 in
theorem gL_law_X8_marks : GoodIn wsL_law (wsV RL 87 RX8 yX8_marks wsX8_marks) := goodIn_app (goodIn_of _ (by decide +kernel)) ggL_law_X8_marks
set_option maxRecDepth 20000 in
theorem ggL_law_X9_marks : GoodIn wsL_law wsX9_marks := goodIn_r _ [558, 165, 548, 146, 251, 252, 5, 253, 641, 642, 643, 644, 645, 646, 647, 648, 649, 650, 651, 652, 653, 654, 655, 656, 657, 658, 659, 660, 661, 662, 663, 664, 665, 666, 667, 668, 669, 670, 671, 672, 673, 674, 675, 676] (by decide +kernel) (by decide +kernel)
set_option maxRecDepth 20000 in
theorem gL_law_X9_marks : GoodIn wsL_law (wsV RL 90 RX9 yX9_marks wsX9_marks) := goodIn_app (goodIn_of _ (by decide +kernel)) ggL_law_X9_marks
set_option maxRecDepth 20000 in
theorem ggL_law_X8_met_p1 : GoodIn wsL_law (Cond.code yX8_met cX8_met 4 (some .int) :: wsX8_met_r1) := goodIn_r _ [562, 41, 563, 175, 176, 2, 177, 564, 565, 566, 567, 29, 24, 37, 20, 263, 186, 103, 104, 105, 27, 106, 71, 69, 107] (by decide +kernel) (by decide +kernel)
set_option maxRecDepth 20000 in
theorem ggL_law_X8_met_p2 : GoodIn wsL_law (wsX8_met_r2) := goodIn_r _ [108, 109, 110, 111, 23, 112, 102, 61, 62, 113, 99, 100, 101, 568, 569, 570, 36, 571, 543, 92, 572, 311, 308, 312] (by decide +kernel) (by decide +kernel)
set_option maxRecDepth 20000 in
theorem ggL_law_X8_met_p3 : GoodIn wsL_law (wsX8_met_r3) := goodIn_r _ [277, 278, 279, 280, 281, 282, 283, 284, 285, 286, 72, 287, 288, 289, 290, 291, 19, 292, 51, 293, 294, 295, 296, 297] (by decide +kernel) (by decide +kernel)
set_option maxRecDepth 20000 in
theorem ggL_law_X8_met_p4 : GoodIn wsL_law (wsX8_met_r4) := goodIn_r _ [298, 299, 300, 301, 302, 303, 304, 305, 306, 307, 309, 310, 313, 314, 315, 316, 317, 318, 319, 320, 321, 322, 323, 324] (by decide +kernel) (by decide +kernel)
set_option maxRecDepth 20000 in
theorem ggL_law_X8_met_p5 : GoodIn wsL_law (wsX8_met_r5) := goodIn_r _ [325, 326, 327, 328, 329, 330, 331, 332, 333, 334, 335, 336, 341, 342, 343, 344, 345, 346, 347, 348, 349, 350, 351, 352] (by decide +kernel) (by decide +kernel)
set_option maxRecDepth 20000 in
theorem ggL_law_X8_met_p6 : GoodIn wsL_law (wsX8_met_r6) := goodIn_r _ [353, 354, 355, 356, 68, 357, 358, 76, 77, 78, 359, 360, 361, 362, 573, 574, 575, 576, 90, 91, 93, 577, 578, 579] (by decide +kernel) (by decide +kernel)
set_option maxRecDepth 20000 in
theorem ggL_law_X8_met_p7 : GoodIn wsL_law (wsX8_met_r7) := goodIn_r _ [580, 581, 582, 583, 584, 40, 585, 586, 97] (by decide +kernel) (by decide +kernel)
set_option maxRecDepth 20000 in
theorem ggL_law_X8_met_p8 : GoodIn wsL_law (wsX80) := goodIn_r _ [633, 634, 635, 636, 637, 638, 639, 640] (by decide +kernel) (by decide +kernel)
set_option maxRecDepth 20000 in
theorem ggL_law_X8_met_p9 : GoodIn wsL_law (wsX40) := goodIn_r _ [704, 705] (by decide +kernel) (by decide +kernel)
set_option maxRecDepth 20000 in
theorem ggL_law_X8_met_p10 : GoodIn wsL_law (wsX60) := goodIn_r _ [679, 680, 681, 682, 683, 684, 685] (by decide +kernel) (by decide +kernel)
set_option maxRecDepth 20000 in
theorem ggL_law_X8_met_p11 : GoodIn wsL_law (wsX50) := goodIn_r _ [689, 690, 691, 692] (by decide +kernel) (by decide +kernel)
set_option maxRecDepth 20000 in
theorem ggL_law_X8_met_p12 : GoodIn wsL_law (wsX00) := goodIn_r _ [706, 707, 708, 709] (by decide +kernel) (by decide +kernel)
set_option maxRecDepth 20000 in
theorem ggL_law_X8_met_p13 : GoodIn wsL_law (wsX30) := goodIn_r _ [686, 687, 688] (by decide +kernel) (by decide +kernel)
set_option maxRecDepth 20000 in
theorem ggL_law_X8_met_p14 : GoodIn wsL_law (wsX10) := goodIn_r _ [699, 700, 701, 702, 703] (by decide +kernel) (by decide +kernel)
theorem ggL_law_X8_met : GoodIn wsL_law wsX8_met := (goodIn_ca (goodIn_ca (goodIn_ca (goodIn_ca (goodIn_ca (goodIn_ca (goodIn_ca (goodIn_ca ggL_law_X8_met_p1 (goodIn_app ggL_law_X8_met_p2 (goodIn_app ggL_law_X8_met_p3 (goodIn_app ggL_law_X8_met_p4 (goodIn_app ggL_law_X8_met_p5 (goodIn_app ggL_law_X8_met_p6 ggL_law_X8_met_p7)))))) ggL_law_X8_met_p8) ggL_law_X8_met_p9) ggL_law_X8_met_p10) ggL_law_X8_met_p11) ggL_law_X8_met_p12) ggL_law_X8_met_p13) ggL_law_X8_met_p14)
set_option maxRecDepth 20000 in
theorem gL_law_X8_met : GoodIn wsL_law (wsV RL 91 RX8 yX8_met wsX8_met) := goodIn_app (goodIn_of _ (by decide +kernel)) ggL_law_X8_met
set_option maxRecDepth 20000 in
theorem ggL_law_X9_met_p1 : GoodIn wsL_law (Cond.code yX9_met cX9_met 4 (some .int) :: wsX9_met_r1) := goodIn_r _ [590, 165, 591, 145, 592, 593, 594, 5, 595, 147, 148, 149, 150, 122, 120, 121, 596, 597, 598, 599, 548, 144, 142, 146, 143] (by decide +kernel) (by decide +kernel)
set_option maxRecDepth 20000 in
theorem ggL_law_X9_met_p2 : GoodIn wsL_law (wsX9_met_r2) := goodIn_r _ [383, 384, 385, 367, 368, 369, 370, 130, 131, 371, 372, 373, 374, 125, 126, 127, 123, 375, 376, 377, 378, 379, 380, 381] (by decide +kernel) (by decide +kernel)
set_option maxRecDepth 20000 in
theorem ggL_law_X9_met_p3 : GoodIn wsL_law (wsX9_met_r3) := goodIn_r _ [382, 132, 133, 128, 386, 387, 388, 389, 390, 391, 392, 393, 129, 394, 395, 396, 397, 220, 134, 219, 135, 136, 398, 399] (by decide +kernel) (by decide +kernel)
set_option maxRecDepth 20000 in
theorem ggL_law_X9_met_p4 : GoodIn wsL_law (wsX9_met_r4) := goodIn_r _ [400, 401] (by decide +kernel) (by decide +kernel)
set_option maxRecDepth 20000 in
theorem ggL_law_X9_met_p5 : GoodIn wsL_law (wsX90) := goodIn_r _ [641, 642, 643, 644, 645, 646, 647, 648, 649, 650, 651, 652, 653, 654, 655, 656, 657, 658, 659, 660, 661, 662, 663, 664, 665, 666, 667, 668, 669, 670, 671, 672, 673, 674, 675, 676] (by decide +kernel) (by decide +kernel)
theorem ggL_law_X9_met : GoodIn wsL_law wsX9_met := (goodIn_ca (goodIn_ca ggL_law_X9_met_p1 (goodIn_app ggL_law_X9_met_p2 (goodIn_app ggL_law_X9_met_p3 ggL_law_X9_met_p4))) ggL_law_X9_met_p5)
set_option maxRecDepth 20000 in
theorem gL_law_X9_met : GoodIn wsL_law (wsV RL 94 RX9 yX9_met wsX9_met) := goodIn_app (goodIn_of _ (by decide +kernel)) ggL_law_X9_met
set_option maxRecDepth 20000 in
theorem ggL_law_X8_rate : GoodIn wsL_law wsX8_rate := goodIn_r _ [603, 41, 563, 604, 175, 176, 2, 177, 633, 634, 635, 636, 637, 638, 639, 640, 704, 705] (by decide +kernel) (by decide +kernel)
set_option maxRecDepth 20000 in
theorem gL_law_X8_rate : GoodIn wsL_law (wsV RL 95 RX8 yX8_rate wsX8_rate) := goodIn_app (goodIn_of _ (by decide +kernel)) ggL_law_X8_rate
set_option maxRecDepth 20000 in
theorem ggL_law_X9_rate : GoodIn wsL_law wsX9_rate := goodIn_r _ [608, 165, 591, 145, 641, 642, 643, 644, 645, 646, 647, 648, 649, 650, 651, 652, 653, 654, 655, 656, 657, 658, 659, 660, 661, 662, 663, 664, 665, 666, 667, 668, 669, 670, 671, 672, 673, 674, 675, 676] (by decide +kernel) (by decide +kernel)
set_option maxRecDepth 20000 in
theorem gL_law_X9_rate : GoodIn wsL_law (wsV RL 98 RX9 yX9_rate wsX9_rate) := goodIn_app (goodIn_of _ (by decide +kernel)) ggL_law_X9_rate
set_option maxRecDepth 20000 in
theorem ggL_law_X8_foretold_p1 : GoodIn wsL_law (Cond.code yX8_foretold cX8_foretold 5 (some .int) :: wsX8_foretold_r1) := goodIn_r _ [612, 41, 563, 604, 613, 614, 615, 2, 616, 29, 24, 20, 263, 483, 484, 103, 104, 105, 27, 106, 71, 69, 107, 108, 109] (by decide +kernel) (by decide +kernel)
set_option maxRecDepth 20000 in
theorem ggL_law_X8_foretold_p2 : GoodIn wsL_law (wsX8_foretold_r2) := goodIn_r _ [110, 111, 23, 112, 102, 61, 62, 113, 99, 100, 101, 277, 278, 279, 280, 281, 282, 283, 284, 285, 286, 72, 287, 288] (by decide +kernel) (by decide +kernel)
set_option maxRecDepth 20000 in
theorem ggL_law_X8_foretold_p3 : GoodIn wsL_law (wsX8_foretold_r3) := goodIn_r _ [289, 290, 291, 19, 292, 51, 293, 294, 295, 296, 297, 298, 299, 300, 301, 302, 303, 304, 305, 306, 307, 308, 309, 310] (by decide +kernel) (by decide +kernel)
set_option maxRecDepth 20000 in
theorem ggL_law_X8_foretold_p4 : GoodIn wsL_law (wsX8_foretold_r4) := goodIn_r _ [311, 312, 313, 314, 315, 316, 317, 318, 319, 320, 321, 322, 323, 324, 325, 326, 327, 328, 329, 330, 331, 332, 333, 334] (by decide +kernel) (by decide +kernel)
set_option maxRecDepth 20000 in
theorem ggL_law_X8_foretold_p5 : GoodIn wsL_law (wsX8_foretold_r5) := goodIn_r _ [335, 336, 341, 342, 343, 344, 345, 346, 347, 348, 349, 350, 351, 352, 353, 354, 355, 356, 68, 357, 358, 76, 77, 78] (by decide +kernel) (by decide +kernel)
set_option maxRecDepth 20000 in
theorem ggL_law_X8_foretold_p6 : GoodIn wsL_law (wsX8_foretold_r6) := goodIn_r _ [359, 360, 361, 362] (by decide +kernel) (by decide +kernel)
set_option maxRecDepth 20000 in
theorem ggL_law_X8_foretold_p7 : GoodIn wsL_law (wsX80) := goodIn_r _ [633, 634, 635, 636, 637, 638, 639, 640] (by decide +kernel) (by decide +kernel)
set_option maxRecDepth 20000 in
theorem ggL_law_X8_foretold_p8 : GoodIn wsL_law (wsX40) := goodIn_r _ [704, 705] (by decide +kernel) (by decide +kernel)
set_option maxRecDepth 20000 in
theorem ggL_law_X8_foretold_p9 : GoodIn wsL_law (wsX60) := goodIn_r _ [679, 680, 681, 682, 683, 684, 685] (by decide +kernel) (by decide +kernel)
set_option maxRecDepth 20000 in
theorem ggL_law_X8_foretold_p10 : GoodIn wsL_law (wsX50) := goodIn_r _ [689, 690, 691, 692] (by decide +kernel) (by decide +kernel)
set_option maxRecDepth 20000 in
theorem ggL_law_X8_foretold_p11 : GoodIn wsL_law (wsX00) := goodIn_r _ [706, 707, 708, 709] (by decide +kernel) (by decide +kernel)
set_option maxRecDepth 20000 in
theorem ggL_law_X8_foretold_p12 : GoodIn wsL_law (wsX30) := goodIn_r _ [686, 687, 688] (by decide +kernel) (by decide +kernel)
theorem ggL_law_X8_foretold : GoodIn wsL_law wsX8_foretold := (goodIn_ca (goodIn_ca (goodIn_ca (goodIn_ca (goodIn_ca (goodIn_ca (goodIn_ca ggL_law_X8_foretold_p1 (goodIn_app ggL_law_X8_foretold_p2 (goodIn_app ggL_law_X8_foretold_p3 (goodIn_app ggL_law_X8_foretold_p4 (goodIn_app ggL_law_X8_foretold_p5 ggL_law_X8_foretold_p6))))) ggL_law_X8_foretold_p7) ggL_law_X8_foretold_p8) ggL_law_X8_foretold_p9) ggL_law_X8_foretold_p10) ggL_law_X8_foretold_p11) ggL_law_X8_foretold_p12)
set_option maxRecDepth 20000 in
theorem gL_law_X8_foretold : GoodIn wsL_law (wsV RL 99 RX8 yX8_foretold wsX8_foretold) := goodIn_app (goodIn_of _ (by decide +kernel)) ggL_law_X8_foretold
set_option maxRecDepth 20000 in
theorem ggL_law_X9_foretold_p1 : GoodIn wsL_law (Cond.code yX9_foretold cX9_foretold 6 (some .int) :: wsX9_foretold_r1) := goodIn_r _ [620, 165, 591, 145, 147, 148, 149, 5, 150, 122, 120, 121, 367, 368, 369, 370, 130, 131, 371, 372, 373, 374, 125, 126, 127] (by decide +kernel) (by decide +kernel)
set_option maxRecDepth 20000 in
theorem ggL_law_X9_foretold_p2 : GoodIn wsL_law (wsX9_foretold_r2) := goodIn_r _ [123, 375, 376, 377, 378, 379, 380, 381, 382, 132, 133, 128, 383, 384, 385, 386, 387, 388, 389, 390, 391, 392, 393, 129] (by decide +kernel) (by decide +kernel)
set_option maxRecDepth 20000 in
theorem ggL_law_X9_foretold_p3 : GoodIn wsL_law (wsX9_foretold_r3) := goodIn_r _ [394, 395, 396, 397, 220, 134, 219, 135, 136, 398, 399, 400, 401] (by decide +kernel) (by decide +kernel)
set_option maxRecDepth 20000 in
theorem ggL_law_X9_foretold_p4 : GoodIn wsL_law (wsX90) := goodIn_r _ [641, 642, 643, 644, 645, 646, 647, 648, 649, 650, 651, 652, 653, 654, 655, 656, 657, 658, 659, 660, 661, 662, 663, 664, 665, 666, 667, 668, 669, 670, 671, 672, 673, 674, 675, 676] (by decide +kernel) (by decide +kernel)
theorem ggL_law_X9_foretold : GoodIn wsL_law wsX9_foretold := (goodIn_ca (goodIn_ca ggL_law_X9_foretold_p1 (goodIn_app ggL_law_X9_foretold_p2 ggL_law_X9_foretold_p3)) ggL_law_X9_foretold_p4)
set_option maxRecDepth 20000 in
theorem gL_law_X9_foretold : GoodIn wsL_law (wsV RL 103 RX9 yX9_foretold wsX9_foretold) := goodIn_app (goodIn_of _ (by decide +kernel)) ggL_law_X9_foretold
set_option maxRecDepth 20000 in
theorem ggL_law_X8_count : GoodIn wsL_law wsX8_count := goodIn_r _ [624, 28, 272, 186, 413, 483, 484, 33, 526, 37, 553, 16, 155, 625, 626, 627, 23, 628, 102, 61, 330, 331, 308, 332, 62, 633, 634, 635, 636, 637, 638, 639, 640, 689, 690, 691, 692, 686, 687, 688, 706, 707, 708, 709, 693, 694, 695, 696, 697, 698, 699, 700, 701, 702, 703, 677, 678] (by decide +kernel) (by decide +kernel)
set_option maxRecDepth 20000 in
theorem gL_law_X8_count : GoodIn wsL_law (wsV RL 104 RX8 yX8_count wsX8_count) := goodIn_app (goodIn_of _ (by decide +kernel)) ggL_law_X8_count
set_option maxRecDepth 20000 in
theorem ggL_law_X9_count : GoodIn wsL_law wsX9_count := goodIn_r _ [632, 165, 219, 122, 220, 221, 548, 120, 121, 166, 383, 384, 5, 385, 641, 642, 643, 644, 645, 646, 647, 648, 649, 650, 651, 652, 653, 654, 655, 656, 657, 658, 659, 660, 661, 662, 663, 664, 665, 666, 667, 668, 669, 670, 671, 672, 673, 674, 675, 676] (by decide +kernel) (by decide +kernel)
set_option maxRecDepth 20000 in
theorem gL_law_X9_count : GoodIn wsL_law (wsV RL 107 RX9 yX9_count wsX9_count) := goodIn_app (goodIn_of _ (by decide +kernel)) ggL_law_X9_count
