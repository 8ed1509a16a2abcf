def wsX9_isMet_r2 : List Cond := [Cond.fieldLink RX9 58 "MeanderBenchModel" "moveX" "[I", Cond.fieldLink RX9 61 "MeanderBenchModel" "moveY" "[I", Cond.methodLink RX9 141 yX9_moved, Cond.instanceMethod yX9_moved, Cond.selects RX9 yX9_moved yX9_moved, Cond.code yX9_moved cX9_moved 9 (some .int), Cond.fieldLink RX9 43 "MeanderBenchModel" "w0" "I", Cond.fieldLink RX9 46 "MeanderBenchModel" "w1" "I", Cond.fieldLink RX9 49 "MeanderBenchModel" "w2" "I", Cond.fieldLink RX9 37 "MeanderBenchModel" "bank" "[I", Cond.methodLink RX9 137 yX9_bend, Cond.instanceMethod yX9_bend, Cond.selects RX9 yX9_bend yX9_bend, Cond.code yX9_bend cX9_bend 5 (some .int), Cond.methodLink RX9 159 yX9_space, Cond.instanceMethod yX9_space, Cond.selects RX9 yX9_space yX9_space, Cond.code yX9_space cX9_space 9 none, Cond.fieldLink RX9 64 "MeanderBenchModel" "keptX" "[I", Cond.fieldLink RX9 67 "MeanderBenchModel" "keptY" "[I", Cond.fieldLink RX9 52 "MeanderBenchModel" "wide" "I", Cond.methodLink RX9 162 yX9_cut, Cond.instanceMethod yX9_cut, Cond.selects RX9 yX9_cut yX9_cut]
def wsX9_isMet_r3 : List Cond := [Cond.code yX9_cut cX9_cut 8 (some .boolean), Cond.methodLink RX9 147 yX9_isNear, Cond.instanceMethod yX9_isNear, Cond.selects RX9 yX9_isNear yX9_isNear, Cond.code yX9_isNear cX9_isNear 5 (some .boolean), Cond.fieldLink RX9 55 "MeanderBenchModel" "near" "I", Cond.methodLink RX9 150 yX9_note, Cond.instanceMethod yX9_note, Cond.selects RX9 yX9_note yX9_note, Cond.code yX9_note cX9_note 3 none, Cond.fieldLink RX9 123 "MeanderBenchModel" "loops" "I", Cond.fieldLink RX9 70 "MeanderBenchModel" "loopYear" "[I", Cond.fieldLink RX9 120 "MeanderBenchModel" "year" "I", Cond.fieldLink RX9 73 "MeanderBenchModel" "loopPoints" "[I", Cond.fieldLink RX9 76 "MeanderBenchModel" "loopArea" "[I", Cond.methodLink RX9 153 yX9_area, Cond.instanceMethod yX9_area, Cond.selects RX9 yX9_area yX9_area, Cond.code yX9_area cX9_area 8 (some .int)]
def wsX9_isMet : List Cond := .code yX9_isMet cX9_isMet 3 (some .boolean) :: ((wsX9_isMet_r1 ++ (wsX9_isMet_r2 ++ wsX9_isMet_r3)) ++ wsX90)
def wsX9_met_r1 : List Cond := [Cond.fieldLink RX9 1 "MeanderBenchModel" "thrown" "I", Cond.fieldLink RX9 193 "MeanderBenchModel" "metMany" "I", Cond.fieldLink RX9 103 "MeanderBenchModel" "rates" "[I", Cond.methodLink RX9 196 yX9_isMet, Cond.instanceMethod yX9_isMet, Cond.selects RX9 yX9_isMet yX9_isMet, Cond.initialized RX9, Cond.code yX9_isMet cX9_isMet 3 (some .boolean), Cond.methodLink RX9 109 yX9_copy, Cond.instanceMethod yX9_copy, Cond.selects RX9 yX9_copy yX9_copy, Cond.code yX9_copy cX9_copy 4 none, Cond.fieldLink RX9 34 "MeanderBenchModel" "many" "[I", Cond.fieldLink RX9 27 "MeanderBenchModel" "x" "[I", Cond.fieldLink RX9 31 "MeanderBenchModel" "y" "[I", Cond.methodLink RX9 190 yX9_fits, Cond.instanceMethod yX9_fits, Cond.selects RX9 yX9_fits yX9_fits, Cond.code yX9_fits cX9_fits 5 (some .boolean), Cond.fieldLink RX9 187 "MeanderBenchModel" "marks" "I", Cond.fieldLink RX9 100 "MeanderBenchModel" "markYear" "[I", Cond.fieldLink RX9 94 "MeanderBenchModel" "markX" "[I", Cond.fieldLink RX9 106 "MeanderBenchModel" "tolerance" "I", Cond.fieldLink RX9 97 "MeanderBenchModel" "markY" "[I"]
def wsX9_met_r2 : List Cond := [Cond.methodLink RX9 145 yX9_size, Cond.static yX9_size, Cond.code yX9_size cX9_size 1 (some .int), Cond.methodLink RX9 156 yX9_move, Cond.instanceMethod yX9_move, Cond.selects RX9 yX9_move yX9_move, Cond.code yX9_move cX9_move 4 none, Cond.fieldLink RX9 58 "MeanderBenchModel" "moveX" "[I", Cond.fieldLink RX9 61 "MeanderBenchModel" "moveY" "[I", Cond.methodLink RX9 141 yX9_moved, Cond.instanceMethod yX9_moved, Cond.selects RX9 yX9_moved yX9_moved, Cond.code yX9_moved cX9_moved 9 (some .int), Cond.fieldLink RX9 43 "MeanderBenchModel" "w0" "I", Cond.fieldLink RX9 46 "MeanderBenchModel" "w1" "I", Cond.fieldLink RX9 49 "MeanderBenchModel" "w2" "I", Cond.fieldLink RX9 37 "MeanderBenchModel" "bank" "[I", Cond.methodLink RX9 137 yX9_bend, Cond.instanceMethod yX9_bend, Cond.selects RX9 yX9_bend yX9_bend, Cond.code yX9_bend cX9_bend 5 (some .int), Cond.methodLink RX9 159 yX9_space, Cond.instanceMethod yX9_space, Cond.selects RX9 yX9_space yX9_space]
def wsX9_met_r3 : List Cond := [Cond.code yX9_space cX9_space 9 none, Cond.fieldLink RX9 64 "MeanderBenchModel" "keptX" "[I", Cond.fieldLink RX9 67 "MeanderBenchModel" "keptY" "[I", Cond.fieldLink RX9 52 "MeanderBenchModel" "wide" "I", Cond.methodLink RX9 162 yX9_cut, Cond.instanceMethod yX9_cut, Cond.selects RX9 yX9_cut yX9_cut, Cond.code yX9_cut cX9_cut 8 (some .boolean), Cond.methodLink RX9 147 yX9_isNear, Cond.instanceMethod yX9_isNear, Cond.selects RX9 yX9_isNear yX9_isNear, Cond.code yX9_isNear cX9_isNear 5 (some .boolean), Cond.fieldLink RX9 55 "MeanderBenchModel" "near" "I", Cond.methodLink RX9 150 yX9_note, Cond.instanceMethod yX9_note, Cond.selects RX9 yX9_note yX9_note, Cond.code yX9_note cX9_note 3 none, Cond.fieldLink RX9 123 "MeanderBenchModel" "loops" "I", Cond.fieldLink RX9 70 "MeanderBenchModel" "loopYear" "[I", Cond.fieldLink RX9 120 "MeanderBenchModel" "year" "I", Cond.fieldLink RX9 73 "MeanderBenchModel" "loopPoints" "[I", Cond.fieldLink RX9 76 "MeanderBenchModel" "loopArea" "[I", Cond.methodLink RX9 153 yX9_area, Cond.instanceMethod yX9_area]
def wsX9_met_r4 : List Cond := [Cond.selects RX9 yX9_area yX9_area, Cond.code yX9_area cX9_area 8 (some .int)]
def wsX9_met : List Cond := .code yX9_met cX9_met 4 (some .int) :: ((wsX9_met_r1 ++ (wsX9_met_r2 ++ (wsX9_met_r3 ++ wsX9_met_r4))) ++ wsX90)
def wsX9_rate : List Cond := .code yX9_rate cX9_rate 2 (some .int) :: ([.fieldLink RX9 1 "MeanderBenchModel" "thrown" "I", .fieldLink RX9 193 "MeanderBenchModel" "metMany" "I", .fieldLink RX9 103 "MeanderBenchModel" "rates" "[I"] ++ wsX90)
def wsX9_foretold_r1 : List Cond := [Cond.fieldLink RX9 1 "MeanderBenchModel" "thrown" "I", Cond.fieldLink RX9 193 "MeanderBenchModel" "metMany" "I", Cond.fieldLink RX9 103 "MeanderBenchModel" "rates" "[I", Cond.methodLink RX9 109 yX9_copy, Cond.instanceMethod yX9_copy, Cond.selects RX9 yX9_copy yX9_copy, Cond.initialized RX9, Cond.code yX9_copy cX9_copy 4 none, Cond.fieldLink RX9 34 "MeanderBenchModel" "many" "[I", Cond.fieldLink RX9 27 "MeanderBenchModel" "x" "[I", Cond.fieldLink RX9 31 "MeanderBenchModel" "y" "[I", Cond.methodLink RX9 156 yX9_move, Cond.instanceMethod yX9_move, Cond.selects RX9 yX9_move yX9_move, Cond.code yX9_move cX9_move 4 none, Cond.fieldLink RX9 58 "MeanderBenchModel" "moveX" "[I", Cond.fieldLink RX9 61 "MeanderBenchModel" "moveY" "[I", Cond.methodLink RX9 141 yX9_moved, Cond.instanceMethod yX9_moved, Cond.selects RX9 yX9_moved yX9_moved, Cond.code yX9_moved cX9_moved 9 (some .int), Cond.fieldLink RX9 43 "MeanderBenchModel" "w0" "I", Cond.fieldLink RX9 46 "MeanderBenchModel" "w1" "I", Cond.fieldLink RX9 49 "MeanderBenchModel" "w2" "I"]
def wsX9_foretold_r2 : List Cond := [Cond.fieldLink RX9 37 "MeanderBenchModel" "bank" "[I", Cond.methodLink RX9 137 yX9_bend, Cond.instanceMethod yX9_bend, Cond.selects RX9 yX9_bend yX9_bend, Cond.code yX9_bend cX9_bend 5 (some .int), Cond.methodLink RX9 159 yX9_space, Cond.instanceMethod yX9_space, Cond.selects RX9 yX9_space yX9_space, Cond.code yX9_space cX9_space 9 none, Cond.fieldLink RX9 64 "MeanderBenchModel" "keptX" "[I", Cond.fieldLink RX9 67 "MeanderBenchModel" "keptY" "[I", Cond.fieldLink RX9 52 "MeanderBenchModel" "wide" "I", Cond.methodLink RX9 145 yX9_size, Cond.static yX9_size, Cond.code yX9_size cX9_size 1 (some .int), Cond.methodLink RX9 162 yX9_cut, Cond.instanceMethod yX9_cut, Cond.selects RX9 yX9_cut yX9_cut, Cond.code yX9_cut cX9_cut 8 (some .boolean), Cond.methodLink RX9 147 yX9_isNear, Cond.instanceMethod yX9_isNear, Cond.selects RX9 yX9_isNear yX9_isNear, Cond.code yX9_isNear cX9_isNear 5 (some .boolean), Cond.fieldLink RX9 55 "MeanderBenchModel" "near" "I"]
def wsX9_foretold_r3 : List Cond := [Cond.methodLink RX9 150 yX9_note, Cond.instanceMethod yX9_note, Cond.selects RX9 yX9_note yX9_note, Cond.code yX9_note cX9_note 3 none, Cond.fieldLink RX9 123 "MeanderBenchModel" "loops" "I", Cond.fieldLink RX9 70 "MeanderBenchModel" "loopYear" "[I", Cond.fieldLink RX9 120 "MeanderBenchModel" "year" "I", Cond.fieldLink RX9 73 "MeanderBenchModel" "loopPoints" "[I", Cond.fieldLink RX9 76 "MeanderBenchModel" "loopArea" "[I", Cond.methodLink RX9 153 yX9_area, Cond.instanceMethod yX9_area, Cond.selects RX9 yX9_area yX9_area, Cond.code yX9_area cX9_area 8 (some .int)]
def wsX9_foretold : List Cond := .code yX9_foretold cX9_foretold 6 (some .int) :: ((wsX9_foretold_r1 ++ (wsX9_foretold_r2 ++ wsX9_foretold_r3)) ++ wsX90)
def wsX9_count : List Cond := .code yX9_count cX9_count 4 (some .int) :: ([.fieldLink RX9 1 "MeanderBenchModel" "thrown" "I", .fieldLink RX9 120 "MeanderBenchModel" "year" "I", .fieldLink RX9 34 "MeanderBenchModel" "many" "[I", .fieldLink RX9 123 "MeanderBenchModel" "loops" "I", .fieldLink RX9 126 "MeanderBenchModel" "plots" "I", .fieldLink RX9 187 "MeanderBenchModel" "marks" "I", .fieldLink RX9 27 "MeanderBenchModel" "x" "[I", .fieldLink RX9 31 "MeanderBenchModel" "y" "[I", .fieldLink RX9 7 "MeanderBenchModel" "length" "I", .methodLink RX9 145 yX9_size, .static yX9_size, .initialized RX9, .code yX9_size cX9_size 1 (some .int)] ++ wsX90)
def wsJ9_abs_0f7a4 : List Cond := .code yJ9_abs_0f7a4 cJ9_abs_0f7a4 1 (some .int) :: ([])
def wsJ9_max_7cf53 : List Cond := .code yJ9_max_7cf53 cJ9_max_7cf53 2 (some .int) :: ([])
def wsJ9_min_7cf53 : List Cond := .code yJ9_min_7cf53 cJ9_min_7cf53 2 (some .int) :: ([])
theorem inJ6 : ∀ w ∈ wsJ60, w ∈ lw_tbl := by decide +kernel
theorem inJ9 : ∀ w ∈ wsJ90, w ∈ lw_tbl := by decide +kernel
theorem inJ0 : ∀ w ∈ wsJ00, w ∈ lw_tbl := by decide +kernel
theorem dX0_init_0 : decode cX0_init 0 = .ok (.aload_n 0, 1) := by decide +kernel
theorem dX0_init_1 : decode cX0_init 1 = .ok (.invokespecial 3, 3) := by decide +kernel
theorem dX0_init_4 : decode cX0_init 4 = .ok (.aload_n 0, 1) := by decide +kernel
theorem dX0_init_5 : decode cX0_init 5 = .ok (.bipush 30, 2) := by decide +kernel
theorem dX0_init_7 : decode cX0_init 7 = .ok (.newarray .int, 2) := by decide +kernel
theorem dX0_init_9 : decode cX0_init 9 = .ok (.putfield 9, 3) := by decide +kernel
theorem dX0_init_12 : decode cX0_init 12 = .ok (.aload_n 0, 1) := by decide +kernel
theorem dX0_init_13 : decode cX0_init 13 = .ok (.bipush 30, 2) := by decide +kernel
theorem dX0_init_15 : decode cX0_init 15 = .ok (.newarray .int, 2) := by decide +kernel
theorem dX0_init_17 : decode cX0_init 17 = .ok (.putfield 15, 3) := by decide +kernel
theorem dX0_init_20 : decode cX0_init 20 = .ok (.aload_n 0, 1) := by decide +kernel
theorem dX0_init_21 : decode cX0_init 21 = .ok (.bipush 30, 2) := by decide +kernel
theorem dX0_init_23 : decode cX0_init 23 = .ok (.newarray .int, 2) := by decide +kernel
theorem dX0_init_25 : decode cX0_init 25 = .ok (.putfield 18, 3) := by decide +kernel
theorem dX0_init_28 : decode cX0_init 28 = .ok (.return_, 1) := by decide +kernel
theorem dX0_note_0 : decode cX0_note 0 = .ok (.aload_n 0, 1) := by decide +kernel
theorem dX0_note_1 : decode cX0_note 1 = .ok (.getfield 21, 3) := by decide +kernel
theorem dX0_note_4 : decode cX0_note 4 = .ok (.bipush 30, 2) := by decide +kernel
theorem dX0_note_6 : decode cX0_note 6 = .ok (.if_icmp .ge 43, 3) := by decide +kernel
theorem dX0_note_9 : decode cX0_note 9 = .ok (.aload_n 0, 1) := by decide +kernel
theorem dX0_note_10 : decode cX0_note 10 = .ok (.getfield 9, 3) := by decide +kernel
theorem dX0_note_13 : decode cX0_note 13 = .ok (.aload_n 0, 1) := by decide +kernel
theorem dX0_note_14 : decode cX0_note 14 = .ok (.getfield 21, 3) := by decide +kernel
theorem dX0_note_17 : decode cX0_note 17 = .ok (.iload_n 1, 1) := by decide +kernel
theorem dX0_note_18 : decode cX0_note 18 = .ok (.iastore, 1) := by decide +kernel
theorem dX0_note_19 : decode cX0_note 19 = .ok (.aload_n 0, 1) := by decide +kernel
theorem dX0_note_20 : decode cX0_note 20 = .ok (.getfield 15, 3) := by decide +kernel
theorem dX0_note_23 : decode cX0_note 23 = .ok (.aload_n 0, 1) := by decide +kernel
theorem dX0_note_24 : decode cX0_note 24 = .ok (.getfield 21, 3) := by decide +kernel
theorem dX0_note_27 : decode cX0_note 27 = .ok (.iload_n 2, 1) := by decide +kernel
theorem dX0_note_28 : decode cX0_note 28 = .ok (.iastore, 1) := by decide +kernel
theorem dX0_note_29 : decode cX0_note 29 = .ok (.aload_n 0, 1) := by decide +kernel
theorem dX0_note_30 : decode cX0_note 30 = .ok (.getfield 18, 3) := by decide +kernel
theorem dX0_note_33 : decode cX0_note 33 = .ok (.aload_n 0, 1) := by decide +kernel
theorem dX0_note_34 : decode cX0_note 34 = .ok (.getfield 21, 3) := by decide +kernel
theorem dX0_note_37 : decode cX0_note 37 = .ok (.iload_n 3, 1) := by decide +kernel
theorem dX0_note_38 : decode cX0_note 38 = .ok (.iastore, 1) := by decide +kernel
theorem dX0_note_39 : decode cX0_note 39 = .ok (.aload_n 0, 1) := by decide +kernel
theorem dX0_note_40 : decode cX0_note 40 = .ok (.dup, 1) := by decide +kernel
theorem dX0_note_41 : decode cX0_note 41 = .ok (.getfield 21, 3) := by decide +kernel
theorem dX0_note_44 : decode cX0_note 44 = .ok (.iconst 1, 1) := by decide +kernel
theorem dX0_note_45 : decode cX0_note 45 = .ok (.iadd, 1) := by decide +kernel
theorem dX0_note_46 : decode cX0_note 46 = .ok (.putfield 21, 3) := by decide +kernel
theorem dX0_note_49 : decode cX0_note 49 = .ok (.return_, 1) := by decide +kernel
theorem dX1_init_0 : decode cX1_init 0 = .ok (.aload_n 0, 1) := by decide +kernel
theorem dX1_init_1 : decode cX1_init 1 = .ok (.invokespecial 3, 3) := by decide +kernel
theorem dX1_init_4 : decode cX1_init 4 = .ok (.aload_n 0, 1) := by decide +kernel
theorem dX1_init_5 : decode cX1_init 5 = .ok (.bipush 30, 2) := by decide +kernel
theorem dX1_init_7 : decode cX1_init 7 = .ok (.newarray .int, 2) := by decide +kernel
theorem dX1_init_9 : decode cX1_init 9 = .ok (.putfield 9, 3) := by decide +kernel
theorem dX1_init_12 : decode cX1_init 12 = .ok (.aload_n 0, 1) := by decide +kernel
theorem dX1_init_13 : decode cX1_init 13 = .ok (.bipush 30, 2) := by decide +kernel
theorem dX1_init_15 : decode cX1_init 15 = .ok (.newarray .int, 2) := by decide +kernel
theorem dX1_init_17 : decode cX1_init 17 = .ok (.putfield 15, 3) := by decide +kernel
theorem dX1_init_20 : decode cX1_init 20 = .ok (.aload_n 0, 1) := by decide +kernel
theorem dX1_init_21 : decode cX1_init 21 = .ok (.bipush 30, 2) := by decide +kernel
theorem dX1_init_23 : decode cX1_init 23 = .ok (.newarray .int, 2) := by decide +kernel
theorem dX1_init_25 : decode cX1_init 25 = .ok (.putfield 18, 3) := by decide +kernel
theorem dX1_init_28 : decode cX1_init 28 = .ok (.aload_n 0, 1) := by decide +kernel
theorem dX1_init_29 : decode cX1_init 29 = .ok (.bipush 8, 2) := by decide +kernel
theorem dX1_init_31 : decode cX1_init 31 = .ok (.putfield 21, 3) := by decide +kernel
theorem dX1_init_34 : decode cX1_init 34 = .ok (.return_, 1) := by decide +kernel
theorem dX1_add_0 : decode cX1_add 0 = .ok (.aload_n 0, 1) := by decide +kernel
theorem dX1_add_1 : decode cX1_add 1 = .ok (.getfield 25, 3) := by decide +kernel
theorem dX1_add_4 : decode cX1_add 4 = .ok (.bipush 30, 2) := by decide +kernel
theorem dX1_add_6 : decode cX1_add 6 = .ok (.if_icmp .lt 5, 3) := by decide +kernel
theorem dX1_add_9 : decode cX1_add 9 = .ok (.iconst (-1), 1) := by decide +kernel
theorem dX1_add_10 : decode cX1_add 10 = .ok (.ireturn, 1) := by decide +kernel
theorem dX1_add_11 : decode cX1_add 11 = .ok (.aload_n 0, 1) := by decide +kernel
theorem dX1_add_12 : decode cX1_add 12 = .ok (.getfield 9, 3) := by decide +kernel
theorem dX1_add_15 : decode cX1_add 15 = .ok (.aload_n 0, 1) := by decide +kernel
theorem dX1_add_16 : decode cX1_add 16 = .ok (.getfield 25, 3) := by decide +kernel
theorem dX1_add_19 : decode cX1_add 19 = .ok (.iload_n 1, 1) := by decide +kernel
theorem dX1_add_20 : decode cX1_add 20 = .ok (.iastore, 1) := by decide +kernel
theorem dX1_add_21 : decode cX1_add 21 = .ok (.aload_n 0, 1) := by decide +kernel
theorem dX1_add_22 : decode cX1_add 22 = .ok (.getfield 15, 3) := by decide +kernel
theorem dX1_add_25 : decode cX1_add 25 = .ok (.aload_n 0, 1) := by decide +kernel
theorem dX1_add_26 : decode cX1_add 26 = .ok (.getfield 25, 3) := by decide +kernel
theorem dX1_add_29 : decode cX1_add 29 = .ok (.iload_n 2, 1) := by decide +kernel
theorem dX1_add_30 : decode cX1_add 30 = .ok (.iastore, 1) := by decide +kernel
theorem dX1_add_31 : decode cX1_add 31 = .ok (.aload_n 0, 1) := by decide +kernel
theorem dX1_add_32 : decode cX1_add 32 = .ok (.getfield 18, 3) := by decide +kernel
theorem dX1_add_35 : decode cX1_add 35 = .ok (.aload_n 0, 1) := by decide +kernel
theorem dX1_add_36 : decode cX1_add 36 = .ok (.getfield 25, 3) := by decide +kernel
theorem dX1_add_39 : decode cX1_add 39 = .ok (.iload_n 3, 1) := by decide +kernel
theorem dX1_add_40 : decode cX1_add 40 = .ok (.iastore, 1) := by decide +kernel
theorem dX1_add_41 : decode cX1_add 41 = .ok (.aload_n 0, 1) := by decide +kernel
theorem dX1_add_42 : decode cX1_add 42 = .ok (.dup, 1) := by decide +kernel
theorem dX1_add_43 : decode cX1_add 43 = .ok (.getfield 25, 3) := by decide +kernel
theorem dX1_add_46 : decode cX1_add 46 = .ok (.iconst 1, 1) := by decide +kernel
theorem dX1_add_47 : decode cX1_add 47 = .ok (.iadd, 1) := by decide +kernel
theorem dX1_add_48 : decode cX1_add 48 = .ok (.putfield 25, 3) := by decide +kernel
theorem dX1_add_51 : decode cX1_add 51 = .ok (.aload_n 0, 1) := by decide +kernel
theorem dX1_add_52 : decode cX1_add 52 = .ok (.getfield 25, 3) := by decide +kernel
theorem dX1_add_55 : decode cX1_add 55 = .ok (.iconst 1, 1) := by decide +kernel
theorem dX1_add_56 : decode cX1_add 56 = .ok (.isub, 1) := by decide +kernel
theorem dX1_add_57 : decode cX1_add 57 = .ok (.ireturn, 1) := by decide +kernel
theorem dX1_latestYear_0 : decode cX1_latestYear 0 = .ok (.iconst (-1), 1) := by decide +kernel
theorem dX1_latestYear_1 : decode cX1_latestYear 1 = .ok (.istore_n 1, 1) := by decide +kernel
theorem dX1_latestYear_2 : decode cX1_latestYear 2 = .ok (.iconst 0, 1) := by decide +kernel
theorem dX1_latestYear_3 : decode cX1_latestYear 3 = .ok (.istore_n 2, 1) := by decide +kernel
theorem dX1_latestYear_4 : decode cX1_latestYear 4 = .ok (.iload_n 2, 1) := by decide +kernel
theorem dX1_latestYear_5 : decode cX1_latestYear 5 = .ok (.aload_n 0, 1) := by decide +kernel
theorem dX1_latestYear_6 : decode cX1_latestYear 6 = .ok (.getfield 25, 3) := by decide +kernel
theorem dX1_latestYear_9 : decode cX1_latestYear 9 = .ok (.if_icmp .ge 20, 3) := by decide +kernel
theorem dX1_latestYear_12 : decode cX1_latestYear 12 = .ok (.iload_n 1, 1) := by decide +kernel
theorem dX1_latestYear_13 : decode cX1_latestYear 13 = .ok (.aload_n 0, 1) := by decide +kernel
theorem dX1_latestYear_14 : decode cX1_latestYear 14 = .ok (.getfield 18, 3) := by decide +kernel
theorem dX1_latestYear_17 : decode cX1_latestYear 17 = .ok (.iload_n 2, 1) := by decide +kernel
theorem dX1_latestYear_18 : decode cX1_latestYear 18 = .ok (.iaload, 1) := by decide +kernel
theorem dX1_latestYear_19 : decode cX1_latestYear 19 = .ok (.invokestatic 28, 3) := by decide +kernel
theorem dX1_latestYear_22 : decode cX1_latestYear 22 = .ok (.istore_n 1, 1) := by decide +kernel
theorem dX1_latestYear_23 : decode cX1_latestYear 23 = .ok (.iinc 2 1, 3) := by decide +kernel
theorem dX1_latestYear_26 : decode cX1_latestYear 26 = .ok (.goto (-22), 3) := by decide +kernel
theorem dX1_latestYear_29 : decode cX1_latestYear 29 = .ok (.iload_n 1, 1) := by decide +kernel
theorem dX1_latestYear_30 : decode cX1_latestYear 30 = .ok (.ireturn, 1) := by decide +kernel
set_option maxRecDepth 20000 in
theorem ggX1_agree_X3_hasPointNear : GoodIn wsX1_agree wsX3_hasPointNear := goodIn_r _ [10, 11, 12, 13, 14, 9, 15, 16, 17, 18, 19, 20, 21, 27, 28, 29] (by decide +kernel) (by decide +kernel)
set_option maxRecDepth 20000 in
theorem gX1_agree_X3_hasPointNear : GoodIn wsX1_agree (wsV RX1 34 RX3 yX3_hasPointNear wsX3_hasPointNear) := goodIn_app (goodIn_of _ (by decide +kernel)) ggX1_agree_X3_hasPointNear
theorem dX1_agree_0 : decode cX1_agree 0 = .ok (.iconst 0, 1) := by decide +kernel
theorem dX1_agree_1 : decode cX1_agree 1 = .ok (.istore_n 3, 1) := by decide +kernel
theorem dX1_agree_2 : decode cX1_agree 2 = .ok (.iload_n 3, 1) := by decide +kernel
theorem dX1_agree_3 : decode cX1_agree 3 = .ok (.aload_n 0, 1) := by decide +kernel
theorem dX1_agree_4 : decode cX1_agree 4 = .ok (.getfield 25, 3) := by decide +kernel
theorem dX1_agree_7 : decode cX1_agree 7 = .ok (.if_icmp .ge 44, 3) := by decide +kernel
theorem dX1_agree_10 : decode cX1_agree 10 = .ok (.aload_n 0, 1) := by decide +kernel
theorem dX1_agree_11 : decode cX1_agree 11 = .ok (.getfield 18, 3) := by decide +kernel
theorem dX1_agree_14 : decode cX1_agree 14 = .ok (.iload_n 3, 1) := by decide +kernel
theorem dX1_agree_15 : decode cX1_agree 15 = .ok (.iaload, 1) := by decide +kernel
theorem dX1_agree_16 : decode cX1_agree 16 = .ok (.iload_n 2, 1) := by decide +kernel
theorem dX1_agree_17 : decode cX1_agree 17 = .ok (.if_icmp .ne 28, 3) := by decide +kernel
theorem dX1_agree_20 : decode cX1_agree 20 = .ok (.aload_n 1, 1) := by decide +kernel
theorem dX1_agree_21 : decode cX1_agree 21 = .ok (.aload_n 0, 1) := by decide +kernel
theorem dX1_agree_22 : decode cX1_agree 22 = .ok (.getfield 9, 3) := by decide +kernel
theorem dX1_agree_25 : decode cX1_agree 25 = .ok (.iload_n 3, 1) := by decide +kernel
theorem dX1_agree_26 : decode cX1_agree 26 = .ok (.iaload, 1) := by decide +kernel
theorem dX1_agree_27 : decode cX1_agree 27 = .ok (.aload_n 0, 1) := by decide +kernel
theorem dX1_agree_28 : decode cX1_agree 28 = .ok (.getfield 15, 3) := by decide +kernel
theorem dX1_agree_31 : decode cX1_agree 31 = .ok (.iload_n 3, 1) := by decide +kernel
theorem dX1_agree_32 : decode cX1_agree 32 = .ok (.iaload, 1) := by decide +kernel
theorem dX1_agree_33 : decode cX1_agree 33 = .ok (.aload_n 0, 1) := by decide +kernel
theorem dX1_agree_34 : decode cX1_agree 34 = .ok (.getfield 21, 3) := by decide +kernel
theorem dX1_agree_37 : decode cX1_agree 37 = .ok (.invokevirtual 34, 3) := by decide +kernel
theorem dX1_agree_40 : decode cX1_agree 40 = .ok (.ifCond .ne 5, 3) := by decide +kernel
theorem dX1_agree_43 : decode cX1_agree 43 = .ok (.iconst 0, 1) := by decide +kernel
theorem dX1_agree_44 : decode cX1_agree 44 = .ok (.ireturn, 1) := by decide +kernel
theorem dX1_agree_45 : decode cX1_agree 45 = .ok (.iinc 3 1, 3) := by decide +kernel
theorem dX1_agree_48 : decode cX1_agree 48 = .ok (.goto (-46), 3) := by decide +kernel
theorem dX1_agree_51 : decode cX1_agree 51 = .ok (.iconst 1, 1) := by decide +kernel
theorem dX1_agree_52 : decode cX1_agree 52 = .ok (.ireturn, 1) := by decide +kernel
theorem dX2_init_0 : decode cX2_init 0 = .ok (.aload_n 0, 1) := by decide +kernel
theorem dX2_init_1 : decode cX2_init 1 = .ok (.invokespecial 3, 3) := by decide +kernel
theorem dX2_init_4 : decode cX2_init 4 = .ok (.aload_n 0, 1) := by decide +kernel
theorem dX2_init_5 : decode cX2_init 5 = .ok (.bipush 20, 2) := by decide +kernel
theorem dX2_init_7 : decode cX2_init 7 = .ok (.newarray .int, 2) := by decide +kernel
theorem dX2_init_9 : decode cX2_init 9 = .ok (.putfield 9, 3) := by decide +kernel
theorem dX2_init_12 : decode cX2_init 12 = .ok (.aload_n 0, 1) := by decide +kernel
theorem dX2_init_13 : decode cX2_init 13 = .ok (.bipush 20, 2) := by decide +kernel
theorem dX2_init_15 : decode cX2_init 15 = .ok (.newarray .int, 2) := by decide +kernel
theorem dX2_init_17 : decode cX2_init 17 = .ok (.putfield 15, 3) := by decide +kernel
theorem dX2_init_20 : decode cX2_init 20 = .ok (.aload_n 0, 1) := by decide +kernel
theorem dX2_init_21 : decode cX2_init 21 = .ok (.bipush 20, 2) := by decide +kernel
theorem dX2_init_23 : decode cX2_init 23 = .ok (.newarray .int, 2) := by decide +kernel
theorem dX2_init_25 : decode cX2_init 25 = .ok (.putfield 18, 3) := by decide +kernel
theorem dX2_init_28 : decode cX2_init 28 = .ok (.aload_n 0, 1) := by decide +kernel
theorem dX2_init_29 : decode cX2_init 29 = .ok (.bipush 20, 2) := by decide +kernel
theorem dX2_init_31 : decode cX2_init 31 = .ok (.newarray .int, 2) := by decide +kernel
theorem dX2_init_33 : decode cX2_init 33 = .ok (.putfield 21, 3) := by decide +kernel
theorem dX2_init_36 : decode cX2_init 36 = .ok (.aload_n 0, 1) := by decide +kernel
theorem dX2_init_37 : decode cX2_init 37 = .ok (.bipush 20, 2) := by decide +kernel
theorem dX2_init_39 : decode cX2_init 39 = .ok (.newarray .int, 2) := by decide +kernel
theorem dX2_init_41 : decode cX2_init 41 = .ok (.putfield 24, 3) := by decide +kernel
theorem dX2_init_44 : decode cX2_init 44 = .ok (.return_, 1) := by decide +kernel
theorem dX2_add_0 : decode cX2_add 0 = .ok (.aload_n 0, 1) := by decide +kernel
theorem dX2_add_1 : decode cX2_add 1 = .ok (.getfield 27, 3) := by decide +kernel
theorem dX2_add_4 : decode cX2_add 4 = .ok (.bipush 20, 2) := by decide +kernel
theorem dX2_add_6 : decode cX2_add 6 = .ok (.if_icmp .lt 5, 3) := by decide +kernel
theorem dX2_add_9 : decode cX2_add 9 = .ok (.iconst (-1), 1) := by decide +kernel
theorem dX2_add_10 : decode cX2_add 10 = .ok (.ireturn, 1) := by decide +kernel
theorem dX2_add_11 : decode cX2_add 11 = .ok (.aload_n 0, 1) := by decide +kernel
theorem dX2_add_12 : decode cX2_add 12 = .ok (.getfield 9, 3) := by decide +kernel
theorem dX2_add_15 : decode cX2_add 15 = .ok (.aload_n 0, 1) := by decide +kernel
theorem dX2_add_16 : decode cX2_add 16 = .ok (.getfield 27, 3) := by decide +kernel
theorem dX2_add_19 : decode cX2_add 19 = .ok (.iload_n 1, 1) := by decide +kernel
theorem dX2_add_20 : decode cX2_add 20 = .ok (.iastore, 1) := by decide +kernel
theorem dX2_add_21 : decode cX2_add 21 = .ok (.aload_n 0, 1) := by decide +kernel
theorem dX2_add_22 : decode cX2_add 22 = .ok (.getfield 15, 3) := by decide +kernel
theorem dX2_add_25 : decode cX2_add 25 = .ok (.aload_n 0, 1) := by decide +kernel
theorem dX2_add_26 : decode cX2_add 26 = .ok (.getfield 27, 3) := by decide +kernel
theorem dX2_add_29 : decode cX2_add 29 = .ok (.iload_n 2, 1) := by decide +kernel
theorem dX2_add_30 : decode cX2_add 30 = .ok (.iastore, 1) := by decide +kernel
theorem dX2_add_31 : decode cX2_add 31 = .ok (.aload_n 0, 1) := by decide +kernel
theorem dX2_add_32 : decode cX2_add 32 = .ok (.getfield 18, 3) := by decide +kernel
theorem dX2_add_35 : decode cX2_add 35 = .ok (.aload_n 0, 1) := by decide +kernel
theorem dX2_add_36 : decode cX2_add 36 = .ok (.getfield 27, 3) := by decide +kernel
theorem dX2_add_39 : decode cX2_add 39 = .ok (.iload_n 3, 1) := by decide +kernel
theorem dX2_add_40 : decode cX2_add 40 = .ok (.iastore, 1) := by decide +kernel
theorem dX2_add_41 : decode cX2_add 41 = .ok (.aload_n 0, 1) := by decide +kernel
theorem dX2_add_42 : decode cX2_add 42 = .ok (.getfield 21, 3) := by decide +kernel
theorem dX2_add_45 : decode cX2_add 45 = .ok (.aload_n 0, 1) := by decide +kernel
theorem dX2_add_46 : decode cX2_add 46 = .ok (.getfield 27, 3) := by decide +kernel
theorem dX2_add_49 : decode cX2_add 49 = .ok (.iconst 0, 1) := by decide +kernel
theorem dX2_add_50 : decode cX2_add 50 = .ok (.iastore, 1) := by decide +kernel
theorem dX2_add_51 : decode cX2_add 51 = .ok (.aload_n 0, 1) := by decide +kernel
theorem dX2_add_52 : decode cX2_add 52 = .ok (.dup, 1) := by decide +kernel
theorem dX2_add_53 : decode cX2_add 53 = .ok (.getfield 27, 3) := by decide +kernel
theorem dX2_add_56 : decode cX2_add 56 = .ok (.iconst 1, 1) := by decide +kernel
theorem dX2_add_57 : decode cX2_add 57 = .ok (.iadd, 1) := by decide +kernel
theorem dX2_add_58 : decode cX2_add 58 = .ok (.putfield 27, 3) := by decide +kernel
theorem dX2_add_61 : decode cX2_add 61 = .ok (.aload_n 0, 1) := by decide +kernel
theorem dX2_add_62 : decode cX2_add 62 = .ok (.getfield 27, 3) := by decide +kernel
theorem dX2_add_65 : decode cX2_add 65 = .ok (.iconst 1, 1) := by decide +kernel
theorem dX2_add_66 : decode cX2_add 66 = .ok (.isub, 1) := by decide +kernel
theorem dX2_add_67 : decode cX2_add 67 = .ok (.ireturn, 1) := by decide +kernel
set_option maxRecDepth 20000 in
theorem ggX2_settle_X3_sideOf : GoodIn wsX2_settle wsX3_sideOf := goodIn_r _ [10, 11, 12, 13, 14, 15, 9, 16, 17, 24, 25, 26] (by decide +kernel) (by decide +kernel)
set_option maxRecDepth 20000 in
theorem gX2_settle_X3_sideOf : GoodIn wsX2_settle (wsV RX2 31 RX3 yX3_sideOf wsX3_sideOf) := goodIn_app (goodIn_of _ (by decide +kernel)) ggX2_settle_X3_sideOf
theorem dX2_settle_0 : decode cX2_settle 0 = .ok (.iconst 0, 1) := by decide +kernel
theorem dX2_settle_1 : decode cX2_settle 1 = .ok (.istore_n 2, 1) := by decide +kernel
theorem dX2_settle_2 : decode cX2_settle 2 = .ok (.iload_n 2, 1) := by decide +kernel
theorem dX2_settle_3 : decode cX2_settle 3 = .ok (.aload_n 0, 1) := by decide +kernel
theorem dX2_settle_4 : decode cX2_settle 4 = .ok (.getfield 27, 3) := by decide +kernel
theorem dX2_settle_7 : decode cX2_settle 7 = .ok (.if_icmp .ge 38, 3) := by decide +kernel
theorem dX2_settle_10 : decode cX2_settle 10 = .ok (.aload_n 0, 1) := by decide +kernel
theorem dX2_settle_11 : decode cX2_settle 11 = .ok (.getfield 18, 3) := by decide +kernel
theorem dX2_settle_14 : decode cX2_settle 14 = .ok (.iload_n 2, 1) := by decide +kernel
theorem dX2_settle_15 : decode cX2_settle 15 = .ok (.aload_n 1, 1) := by decide +kernel
theorem dX2_settle_16 : decode cX2_settle 16 = .ok (.aload_n 0, 1) := by decide +kernel
theorem dX2_settle_17 : decode cX2_settle 17 = .ok (.getfield 9, 3) := by decide +kernel
theorem dX2_settle_20 : decode cX2_settle 20 = .ok (.iload_n 2, 1) := by decide +kernel
theorem dX2_settle_21 : decode cX2_settle 21 = .ok (.iaload, 1) := by decide +kernel
theorem dX2_settle_22 : decode cX2_settle 22 = .ok (.aload_n 0, 1) := by decide +kernel
theorem dX2_settle_23 : decode cX2_settle 23 = .ok (.getfield 15, 3) := by decide +kernel
theorem dX2_settle_26 : decode cX2_settle 26 = .ok (.iload_n 2, 1) := by decide +kernel
theorem dX2_settle_27 : decode cX2_settle 27 = .ok (.iaload, 1) := by decide +kernel
theorem dX2_settle_28 : decode cX2_settle 28 = .ok (.invokevirtual 31, 3) := by decide +kernel
theorem dX2_settle_31 : decode cX2_settle 31 = .ok (.iastore, 1) := by decide +kernel
theorem dX2_settle_32 : decode cX2_settle 32 = .ok (.aload_n 0, 1) := by decide +kernel
theorem dX2_settle_33 : decode cX2_settle 33 = .ok (.getfield 21, 3) := by decide +kernel
theorem dX2_settle_36 : decode cX2_settle 36 = .ok (.iload_n 2, 1) := by decide +kernel
theorem dX2_settle_37 : decode cX2_settle 37 = .ok (.iconst 0, 1) := by decide +kernel
theorem dX2_settle_38 : decode cX2_settle 38 = .ok (.iastore, 1) := by decide +kernel
theorem dX2_settle_39 : decode cX2_settle 39 = .ok (.iinc 2 1, 3) := by decide +kernel
theorem dX2_settle_42 : decode cX2_settle 42 = .ok (.goto (-40), 3) := by decide +kernel
theorem dX2_settle_45 : decode cX2_settle 45 = .ok (.return_, 1) := by decide +kernel
set_option maxRecDepth 20000 in
theorem ggX2_rememberSides_X3_sideOf : GoodIn wsX2_rememberSides wsX3_sideOf := goodIn_r _ [9, 10, 11, 12, 13, 14, 8, 15, 16, 23, 24, 25] (by decide +kernel) (by decide +kernel)
set_option maxRecDepth 20000 in
theorem gX2_rememberSides_X3_sideOf : GoodIn wsX2_rememberSides (wsV RX2 31 RX3 yX3_sideOf wsX3_sideOf) := goodIn_app (goodIn_of _ (by decide +kernel)) ggX2_rememberSides_X3_sideOf
theorem dX2_rememberSides_0 : decode cX2_rememberSides 0 = .ok (.iconst 0, 1) := by decide +kernel
theorem dX2_rememberSides_1 : decode cX2_rememberSides 1 = .ok (.istore_n 2, 1) := by decide +kernel
theorem dX2_rememberSides_2 : decode cX2_rememberSides 2 = .ok (.iload_n 2, 1) := by decide +kernel
theorem dX2_rememberSides_3 : decode cX2_rememberSides 3 = .ok (.aload_n 0, 1) := by decide +kernel
theorem dX2_rememberSides_4 : decode cX2_rememberSides 4 = .ok (.getfield 27, 3) := by decide +kernel
theorem dX2_rememberSides_7 : decode cX2_rememberSides 7 = .ok (.if_icmp .ge 31, 3) := by decide +kernel
theorem dX2_rememberSides_10 : decode cX2_rememberSides 10 = .ok (.aload_n 0, 1) := by decide +kernel
theorem dX2_rememberSides_11 : decode cX2_rememberSides 11 = .ok (.getfield 24, 3) := by decide +kernel
theorem dX2_rememberSides_14 : decode cX2_rememberSides 14 = .ok (.iload_n 2, 1) := by decide +kernel
theorem dX2_rememberSides_15 : decode cX2_rememberSides 15 = .ok (.aload_n 1, 1) := by decide +kernel
theorem dX2_rememberSides_16 : decode cX2_rememberSides 16 = .ok (.aload_n 0, 1) := by decide +kernel
theorem dX2_rememberSides_17 : decode cX2_rememberSides 17 = .ok (.getfield 9, 3) := by decide +kernel
theorem dX2_rememberSides_20 : decode cX2_rememberSides 20 = .ok (.iload_n 2, 1) := by decide +kernel
theorem dX2_rememberSides_21 : decode cX2_rememberSides 21 = .ok (.iaload, 1) := by decide +kernel
theorem dX2_rememberSides_22 : decode cX2_rememberSides 22 = .ok (.aload_n 0, 1) := by decide +kernel
theorem dX2_rememberSides_23 : decode cX2_rememberSides 23 = .ok (.getfield 15, 3) := by decide +kernel
theorem dX2_rememberSides_26 : decode cX2_rememberSides 26 = .ok (.iload_n 2, 1) := by decide +kernel
theorem dX2_rememberSides_27 : decode cX2_rememberSides 27 = .ok (.iaload, 1) := by decide +kernel
theorem dX2_rememberSides_28 : decode cX2_rememberSides 28 = .ok (.invokevirtual 31, 3) := by decide +kernel
theorem dX2_rememberSides_31 : decode cX2_rememberSides 31 = .ok (.iastore, 1) := by decide +kernel
theorem dX2_rememberSides_32 : decode cX2_rememberSides 32 = .ok (.iinc 2 1, 3) := by decide +kernel
theorem dX2_rememberSides_35 : decode cX2_rememberSides 35 = .ok (.goto (-33), 3) := by decide +kernel
theorem dX2_rememberSides_38 : decode cX2_rememberSides 38 = .ok (.return_, 1) := by decide +kernel
set_option maxRecDepth 20000 in
theorem ggX2_followSides_X3_sideOf : GoodIn wsX2_followSides wsX3_sideOf := goodIn_r _ [11, 12, 13, 14, 15, 16, 10, 17, 18, 25, 26, 27] (by decide +kernel) (by decide +kernel)
set_option maxRecDepth 20000 in
theorem gX2_followSides_X3_sideOf : GoodIn wsX2_followSides (wsV RX2 31 RX3 yX3_sideOf wsX3_sideOf) := goodIn_app (goodIn_of _ (by decide +kernel)) ggX2_followSides_X3_sideOf
theorem dX2_followSides_0 : decode cX2_followSides 0 = .ok (.iconst 0, 1) := by decide +kernel
theorem dX2_followSides_1 : decode cX2_followSides 1 = .ok (.istore_n 2, 1) := by decide +kernel
theorem dX2_followSides_2 : decode cX2_followSides 2 = .ok (.iload_n 2, 1) := by decide +kernel
theorem dX2_followSides_3 : decode cX2_followSides 3 = .ok (.aload_n 0, 1) := by decide +kernel
theorem dX2_followSides_4 : decode cX2_followSides 4 = .ok (.getfield 27, 3) := by decide +kernel
theorem dX2_followSides_7 : decode cX2_followSides 7 = .ok (.if_icmp .ge 63, 3) := by decide +kernel
theorem dX2_followSides_10 : decode cX2_followSides 10 = .ok (.aload_n 1, 1) := by decide +kernel
theorem dX2_followSides_11 : decode cX2_followSides 11 = .ok (.aload_n 0, 1) := by decide +kernel
theorem dX2_followSides_12 : decode cX2_followSides 12 = .ok (.getfield 9, 3) := by decide +kernel
theorem dX2_followSides_15 : decode cX2_followSides 15 = .ok (.iload_n 2, 1) := by decide +kernel
theorem dX2_followSides_16 : decode cX2_followSides 16 = .ok (.iaload, 1) := by decide +kernel
theorem dX2_followSides_17 : decode cX2_followSides 17 = .ok (.aload_n 0, 1) := by decide +kernel
theorem dX2_followSides_18 : decode cX2_followSides 18 = .ok (.getfield 15, 3) := by decide +kernel
theorem dX2_followSides_21 : decode cX2_followSides 21 = .ok (.iload_n 2, 1) := by decide +kernel
theorem dX2_followSides_22 : decode cX2_followSides 22 = .ok (.iaload, 1) := by decide +kernel
theorem dX2_followSides_23 : decode cX2_followSides 23 = .ok (.invokevirtual 31, 3) := by decide +kernel
theorem dX2_followSides_26 : decode cX2_followSides 26 = .ok (.istore_n 3, 1) := by decide +kernel
theorem dX2_followSides_27 : decode cX2_followSides 27 = .ok (.iload_n 3, 1) := by decide +kernel
theorem dX2_followSides_28 : decode cX2_followSides 28 = .ok (.aload_n 0, 1) := by decide +kernel
theorem dX2_followSides_29 : decode cX2_followSides 29 = .ok (.getfield 24, 3) := by decide +kernel
theorem dX2_followSides_32 : decode cX2_followSides 32 = .ok (.iload_n 2, 1) := by decide +kernel
theorem dX2_followSides_33 : decode cX2_followSides 33 = .ok (.iaload, 1) := by decide +kernel
theorem dX2_followSides_34 : decode cX2_followSides 34 = .ok (.if_icmp .eq 30, 3) := by decide +kernel
theorem dX2_followSides_37 : decode cX2_followSides 37 = .ok (.iload_n 3, 1) := by decide +kernel
theorem dX2_followSides_38 : decode cX2_followSides 38 = .ok (.aload_n 0, 1) := by decide +kernel
theorem dX2_followSides_39 : decode cX2_followSides 39 = .ok (.getfield 18, 3) := by decide +kernel
theorem dX2_followSides_42 : decode cX2_followSides 42 = .ok (.iload_n 2, 1) := by decide +kernel
theorem dX2_followSides_43 : decode cX2_followSides 43 = .ok (.iaload, 1) := by decide +kernel
theorem dX2_followSides_44 : decode cX2_followSides 44 = .ok (.if_icmp .eq 20, 3) := by decide +kernel
theorem dX2_followSides_47 : decode cX2_followSides 47 = .ok (.aload_n 0, 1) := by decide +kernel
theorem dX2_followSides_48 : decode cX2_followSides 48 = .ok (.getfield 18, 3) := by decide +kernel
theorem dX2_followSides_51 : decode cX2_followSides 51 = .ok (.iload_n 2, 1) := by decide +kernel
theorem dX2_followSides_52 : decode cX2_followSides 52 = .ok (.iload_n 3, 1) := by decide +kernel
theorem dX2_followSides_53 : decode cX2_followSides 53 = .ok (.iastore, 1) := by decide +kernel
theorem dX2_followSides_54 : decode cX2_followSides 54 = .ok (.aload_n 0, 1) := by decide +kernel
theorem dX2_followSides_55 : decode cX2_followSides 55 = .ok (.getfield 21, 3) := by decide +kernel
theorem dX2_followSides_58 : decode cX2_followSides 58 = .ok (.iload_n 2, 1) := by decide +kernel
theorem dX2_followSides_59 : decode cX2_followSides 59 = .ok (.dup2, 1) := by decide +kernel
theorem dX2_followSides_60 : decode cX2_followSides 60 = .ok (.iaload, 1) := by decide +kernel
theorem dX2_followSides_61 : decode cX2_followSides 61 = .ok (.iconst 1, 1) := by decide +kernel
theorem dX2_followSides_62 : decode cX2_followSides 62 = .ok (.iadd, 1) := by decide +kernel
theorem dX2_followSides_63 : decode cX2_followSides 63 = .ok (.iastore, 1) := by decide +kernel
theorem dX2_followSides_64 : decode cX2_followSides 64 = .ok (.iinc 2 1, 3) := by decide +kernel
theorem dX2_followSides_67 : decode cX2_followSides 67 = .ok (.goto (-65), 3) := by decide +kernel
theorem dX2_followSides_70 : decode cX2_followSides 70 = .ok (.return_, 1) := by decide +kernel
theorem dX3_init_0 : decode cX3_init 0 = .ok (.aload_n 0, 1) := by decide +kernel
theorem dX3_init_1 : decode cX3_init 1 = .ok (.invokespecial 3, 3) := by decide +kernel
theorem dX3_init_4 : decode cX3_init 4 = .ok (.aload_n 0, 1) := by decide +kernel
theorem dX3_init_5 : decode cX3_init 5 = .ok (.bipush 48, 2) := by decide +kernel
theorem dX3_init_7 : decode cX3_init 7 = .ok (.newarray .int, 2) := by decide +kernel
theorem dX3_init_9 : decode cX3_init 9 = .ok (.putfield 9, 3) := by decide +kernel
theorem dX3_init_12 : decode cX3_init 12 = .ok (.aload_n 0, 1) := by decide +kernel
theorem dX3_init_13 : decode cX3_init 13 = .ok (.bipush 48, 2) := by decide +kernel
theorem dX3_init_15 : decode cX3_init 15 = .ok (.newarray .int, 2) := by decide +kernel
theorem dX3_init_17 : decode cX3_init 17 = .ok (.putfield 15, 3) := by decide +kernel
theorem dX3_init_20 : decode cX3_init 20 = .ok (.return_, 1) := by decide +kernel
theorem dX3_add_0 : decode cX3_add 0 = .ok (.aload_n 0, 1) := by decide +kernel
theorem dX3_add_1 : decode cX3_add 1 = .ok (.getfield 18, 3) := by decide +kernel
theorem dX3_add_4 : decode cX3_add 4 = .ok (.bipush 48, 2) := by decide +kernel
theorem dX3_add_6 : decode cX3_add 6 = .ok (.if_icmp .ge 33, 3) := by decide +kernel
theorem dX3_add_9 : decode cX3_add 9 = .ok (.aload_n 0, 1) := by decide +kernel
theorem dX3_add_10 : decode cX3_add 10 = .ok (.getfield 9, 3) := by decide +kernel
theorem dX3_add_13 : decode cX3_add 13 = .ok (.aload_n 0, 1) := by decide +kernel
theorem dX3_add_14 : decode cX3_add 14 = .ok (.getfield 18, 3) := by decide +kernel
theorem dX3_add_17 : decode cX3_add 17 = .ok (.iload_n 1, 1) := by decide +kernel
theorem dX3_add_18 : decode cX3_add 18 = .ok (.iastore, 1) := by decide +kernel
theorem dX3_add_19 : decode cX3_add 19 = .ok (.aload_n 0, 1) := by decide +kernel
theorem dX3_add_20 : decode cX3_add 20 = .ok (.getfield 15, 3) := by decide +kernel
theorem dX3_add_23 : decode cX3_add 23 = .ok (.aload_n 0, 1) := by decide +kernel
theorem dX3_add_24 : decode cX3_add 24 = .ok (.getfield 18, 3) := by decide +kernel
theorem dX3_add_27 : decode cX3_add 27 = .ok (.iload_n 2, 1) := by decide +kernel
theorem dX3_add_28 : decode cX3_add 28 = .ok (.iastore, 1) := by decide +kernel
theorem dX3_add_29 : decode cX3_add 29 = .ok (.aload_n 0, 1) := by decide +kernel
theorem dX3_add_30 : decode cX3_add 30 = .ok (.dup, 1) := by decide +kernel
theorem dX3_add_31 : decode cX3_add 31 = .ok (.getfield 18, 3) := by decide +kernel
theorem dX3_add_34 : decode cX3_add 34 = .ok (.iconst 1, 1) := by decide +kernel
theorem dX3_add_35 : decode cX3_add 35 = .ok (.iadd, 1) := by decide +kernel
theorem dX3_add_36 : decode cX3_add 36 = .ok (.putfield 18, 3) := by decide +kernel
theorem dX3_add_39 : decode cX3_add 39 = .ok (.return_, 1) := by decide +kernel
set_option maxRecDepth 20000 in
theorem ggX3_copyFrom_X3_add : GoodIn wsX3_copyFrom wsX3_add := goodIn_r _ [8, 1, 2, 3, 9, 10, 11] (by decide +kernel) (by decide +kernel)
set_option maxRecDepth 20000 in
theorem gX3_copyFrom_X3_add : GoodIn wsX3_copyFrom (wsV RX3 22 RX3 yX3_add wsX3_add) := goodIn_app (goodIn_of _ (by decide +kernel)) ggX3_copyFrom_X3_add
theorem dX3_copyFrom_0 : decode cX3_copyFrom 0 = .ok (.aload_n 0, 1) := by decide +kernel
theorem dX3_copyFrom_1 : decode cX3_copyFrom 1 = .ok (.iconst 0, 1) := by decide +kernel
theorem dX3_copyFrom_2 : decode cX3_copyFrom 2 = .ok (.putfield 18, 3) := by decide +kernel
theorem dX3_copyFrom_5 : decode cX3_copyFrom 5 = .ok (.iconst 0, 1) := by decide +kernel
theorem dX3_copyFrom_6 : decode cX3_copyFrom 6 = .ok (.istore_n 2, 1) := by decide +kernel
theorem dX3_copyFrom_7 : decode cX3_copyFrom 7 = .ok (.iload_n 2, 1) := by decide +kernel
theorem dX3_copyFrom_8 : decode cX3_copyFrom 8 = .ok (.aload_n 1, 1) := by decide +kernel
theorem dX3_copyFrom_9 : decode cX3_copyFrom 9 = .ok (.getfield 18, 3) := by decide +kernel
theorem dX3_copyFrom_12 : decode cX3_copyFrom 12 = .ok (.if_icmp .ge 25, 3) := by decide +kernel
theorem dX3_copyFrom_15 : decode cX3_copyFrom 15 = .ok (.aload_n 0, 1) := by decide +kernel
theorem dX3_copyFrom_16 : decode cX3_copyFrom 16 = .ok (.aload_n 1, 1) := by decide +kernel
theorem dX3_copyFrom_17 : decode cX3_copyFrom 17 = .ok (.getfield 9, 3) := by decide +kernel
theorem dX3_copyFrom_20 : decode cX3_copyFrom 20 = .ok (.iload_n 2, 1) := by decide +kernel
theorem dX3_copyFrom_21 : decode cX3_copyFrom 21 = .ok (.iaload, 1) := by decide +kernel
theorem dX3_copyFrom_22 : decode cX3_copyFrom 22 = .ok (.aload_n 1, 1) := by decide +kernel
theorem dX3_copyFrom_23 : decode cX3_copyFrom 23 = .ok (.getfield 15, 3) := by decide +kernel
theorem dX3_copyFrom_26 : decode cX3_copyFrom 26 = .ok (.iload_n 2, 1) := by decide +kernel
theorem dX3_copyFrom_27 : decode cX3_copyFrom 27 = .ok (.iaload, 1) := by decide +kernel
theorem dX3_copyFrom_28 : decode cX3_copyFrom 28 = .ok (.invokevirtual 22, 3) := by decide +kernel
theorem dX3_copyFrom_31 : decode cX3_copyFrom 31 = .ok (.iinc 2 1, 3) := by decide +kernel
theorem dX3_copyFrom_34 : decode cX3_copyFrom 34 = .ok (.goto (-27), 3) := by decide +kernel
theorem dX3_copyFrom_37 : decode cX3_copyFrom 37 = .ok (.return_, 1) := by decide +kernel
theorem dX3_leaveOutBetween_0 : decode cX3_leaveOutBetween 0 = .ok (.iload_n 1, 1) := by decide +kernel
theorem dX3_leaveOutBetween_1 : decode cX3_leaveOutBetween 1 = .ok (.iconst 1, 1) := by decide +kernel
theorem dX3_leaveOutBetween_2 : decode cX3_leaveOutBetween 2 = .ok (.iadd, 1) := by decide +kernel
theorem dX3_leaveOutBetween_3 : decode cX3_leaveOutBetween 3 = .ok (.istore_n 3, 1) := by decide +kernel
theorem dX3_leaveOutBetween_4 : decode cX3_leaveOutBetween 4 = .ok (.iload_n 2, 1) := by decide +kernel
theorem dX3_leaveOutBetween_5 : decode cX3_leaveOutBetween 5 = .ok (.istore 4, 2) := by decide +kernel
theorem dX3_leaveOutBetween_7 : decode cX3_leaveOutBetween 7 = .ok (.iload 4, 2) := by decide +kernel
theorem dX3_leaveOutBetween_9 : decode cX3_leaveOutBetween 9 = .ok (.aload_n 0, 1) := by decide +kernel
theorem dX3_leaveOutBetween_10 : decode cX3_leaveOutBetween 10 = .ok (.getfield 18, 3) := by decide +kernel
theorem dX3_leaveOutBetween_13 : decode cX3_leaveOutBetween 13 = .ok (.if_icmp .ge 38, 3) := by decide +kernel
theorem dX3_leaveOutBetween_16 : decode cX3_leaveOutBetween 16 = .ok (.aload_n 0, 1) := by decide +kernel
theorem dX3_leaveOutBetween_17 : decode cX3_leaveOutBetween 17 = .ok (.getfield 9, 3) := by decide +kernel
theorem dX3_leaveOutBetween_20 : decode cX3_leaveOutBetween 20 = .ok (.iload_n 3, 1) := by decide +kernel
theorem dX3_leaveOutBetween_21 : decode cX3_leaveOutBetween 21 = .ok (.aload_n 0, 1) := by decide +kernel
theorem dX3_leaveOutBetween_22 : decode cX3_leaveOutBetween 22 = .ok (.getfield 9, 3) := by decide +kernel
theorem dX3_leaveOutBetween_25 : decode cX3_leaveOutBetween 25 = .ok (.iload 4, 2) := by decide +kernel
theorem dX3_leaveOutBetween_27 : decode cX3_leaveOutBetween 27 = .ok (.iaload, 1) := by decide +kernel
theorem dX3_leaveOutBetween_28 : decode cX3_leaveOutBetween 28 = .ok (.iastore, 1) := by decide +kernel
theorem dX3_leaveOutBetween_29 : decode cX3_leaveOutBetween 29 = .ok (.aload_n 0, 1) := by decide +kernel
theorem dX3_leaveOutBetween_30 : decode cX3_leaveOutBetween 30 = .ok (.getfield 15, 3) := by decide +kernel
theorem dX3_leaveOutBetween_33 : decode cX3_leaveOutBetween 33 = .ok (.iload_n 3, 1) := by decide +kernel
theorem dX3_leaveOutBetween_34 : decode cX3_leaveOutBetween 34 = .ok (.aload_n 0, 1) := by decide +kernel
theorem dX3_leaveOutBetween_35 : decode cX3_leaveOutBetween 35 = .ok (.getfield 15, 3) := by decide +kernel
theorem dX3_leaveOutBetween_38 : decode cX3_leaveOutBetween 38 = .ok (.iload 4, 2) := by decide +kernel
theorem dX3_leaveOutBetween_40 : decode cX3_leaveOutBetween 40 = .ok (.iaload, 1) := by decide +kernel
theorem dX3_leaveOutBetween_41 : decode cX3_leaveOutBetween 41 = .ok (.iastore, 1) := by decide +kernel
theorem dX3_leaveOutBetween_42 : decode cX3_leaveOutBetween 42 = .ok (.iinc 3 1, 3) := by decide +kernel
theorem dX3_leaveOutBetween_45 : decode cX3_leaveOutBetween 45 = .ok (.iinc 4 1, 3) := by decide +kernel
theorem dX3_leaveOutBetween_48 : decode cX3_leaveOutBetween 48 = .ok (.goto (-41), 3) := by decide +kernel
theorem dX3_leaveOutBetween_51 : decode cX3_leaveOutBetween 51 = .ok (.aload_n 0, 1) := by decide +kernel
theorem dX3_leaveOutBetween_52 : decode cX3_leaveOutBetween 52 = .ok (.iload_n 3, 1) := by decide +kernel
theorem dX3_leaveOutBetween_53 : decode cX3_leaveOutBetween 53 = .ok (.putfield 18, 3) := by decide +kernel
theorem dX3_leaveOutBetween_56 : decode cX3_leaveOutBetween 56 = .ok (.return_, 1) := by decide +kernel
theorem dX3_isNear_0 : decode cX3_isNear 0 = .ok (.aload_n 0, 1) := by decide +kernel
theorem dX3_isNear_1 : decode cX3_isNear 1 = .ok (.getfield 9, 3) := by decide +kernel
theorem dX3_isNear_4 : decode cX3_isNear 4 = .ok (.iload_n 1, 1) := by decide +kernel
theorem dX3_isNear_5 : decode cX3_isNear 5 = .ok (.iaload, 1) := by decide +kernel
theorem dX3_isNear_6 : decode cX3_isNear 6 = .ok (.iload_n 2, 1) := by decide +kernel
theorem dX3_isNear_7 : decode cX3_isNear 7 = .ok (.isub, 1) := by decide +kernel
theorem dX3_isNear_8 : decode cX3_isNear 8 = .ok (.invokestatic 26, 3) := by decide +kernel
theorem dX3_isNear_11 : decode cX3_isNear 11 = .ok (.iload 4, 2) := by decide +kernel
theorem dX3_isNear_13 : decode cX3_isNear 13 = .ok (.if_icmp .gt 23, 3) := by decide +kernel
theorem dX3_isNear_16 : decode cX3_isNear 16 = .ok (.aload_n 0, 1) := by decide +kernel
theorem dX3_isNear_17 : decode cX3_isNear 17 = .ok (.getfield 15, 3) := by decide +kernel
theorem dX3_isNear_20 : decode cX3_isNear 20 = .ok (.iload_n 1, 1) := by decide +kernel
theorem dX3_isNear_21 : decode cX3_isNear 21 = .ok (.iaload, 1) := by decide +kernel
theorem dX3_isNear_22 : decode cX3_isNear 22 = .ok (.iload_n 3, 1) := by decide +kernel
theorem dX3_isNear_23 : decode cX3_isNear 23 = .ok (.isub, 1) := by decide +kernel
theorem dX3_isNear_24 : decode cX3_isNear 24 = .ok (.invokestatic 26, 3) := by decide +kernel
theorem dX3_isNear_27 : decode cX3_isNear 27 = .ok (.iload 4, 2) := by decide +kernel
theorem dX3_isNear_29 : decode cX3_isNear 29 = .ok (.if_icmp .gt 7, 3) := by decide +kernel
theorem dX3_isNear_32 : decode cX3_isNear 32 = .ok (.iconst 1, 1) := by decide +kernel
theorem dX3_isNear_33 : decode cX3_isNear 33 = .ok (.goto 4, 3) := by decide +kernel
theorem dX3_isNear_36 : decode cX3_isNear 36 = .ok (.iconst 0, 1) := by decide +kernel
theorem dX3_isNear_37 : decode cX3_isNear 37 = .ok (.ireturn, 1) := by decide +kernel
set_option maxRecDepth 20000 in
theorem ggX3_hasPointNear_X3_isNear : GoodIn wsX3_hasPointNear wsX3_isNear := goodIn_r _ [6, 7, 8, 9, 10, 11, 12, 13, 14, 15] (by decide +kernel) (by decide +kernel)
set_option maxRecDepth 20000 in
theorem gX3_hasPointNear_X3_isNear : GoodIn wsX3_hasPointNear (wsV RX3 32 RX3 yX3_isNear wsX3_isNear) := goodIn_app (goodIn_of _ (by decide +kernel)) ggX3_hasPointNear_X3_isNear
theorem dX3_hasPointNear_0 : decode cX3_hasPointNear 0 = .ok (.iconst 0, 1) := by decide +kernel
theorem dX3_hasPointNear_1 : decode cX3_hasPointNear 1 = .ok (.istore 4, 2) := by decide +kernel
theorem dX3_hasPointNear_3 : decode cX3_hasPointNear 3 = .ok (.iload 4, 2) := by decide +kernel
theorem dX3_hasPointNear_5 : decode cX3_hasPointNear 5 = .ok (.aload_n 0, 1) := by decide +kernel
theorem dX3_hasPointNear_6 : decode cX3_hasPointNear 6 = .ok (.getfield 18, 3) := by decide +kernel
theorem dX3_hasPointNear_9 : decode cX3_hasPointNear 9 = .ok (.if_icmp .ge 23, 3) := by decide +kernel
theorem dX3_hasPointNear_12 : decode cX3_hasPointNear 12 = .ok (.aload_n 0, 1) := by decide +kernel
theorem dX3_hasPointNear_13 : decode cX3_hasPointNear 13 = .ok (.iload 4, 2) := by decide +kernel
theorem dX3_hasPointNear_15 : decode cX3_hasPointNear 15 = .ok (.iload_n 1, 1) := by decide +kernel
theorem dX3_hasPointNear_16 : decode cX3_hasPointNear 16 = .ok (.iload_n 2, 1) := by decide +kernel
theorem dX3_hasPointNear_17 : decode cX3_hasPointNear 17 = .ok (.iload_n 3, 1) := by decide +kernel
theorem dX3_hasPointNear_18 : decode cX3_hasPointNear 18 = .ok (.invokevirtual 32, 3) := by decide +kernel
theorem dX3_hasPointNear_21 : decode cX3_hasPointNear 21 = .ok (.ifCond .eq 5, 3) := by decide +kernel
theorem dX3_hasPointNear_24 : decode cX3_hasPointNear 24 = .ok (.iconst 1, 1) := by decide +kernel
theorem dX3_hasPointNear_25 : decode cX3_hasPointNear 25 = .ok (.ireturn, 1) := by decide +kernel
theorem dX3_hasPointNear_26 : decode cX3_hasPointNear 26 = .ok (.iinc 4 1, 3) := by decide +kernel
theorem dX3_hasPointNear_29 : decode cX3_hasPointNear 29 = .ok (.goto (-26), 3) := by decide +kernel
theorem dX3_hasPointNear_32 : decode cX3_hasPointNear 32 = .ok (.iconst 0, 1) := by decide +kernel
theorem dX3_hasPointNear_33 : decode cX3_hasPointNear 33 = .ok (.ireturn, 1) := by decide +kernel
theorem dX3_sumOfPieces_0 : decode cX3_sumOfPieces 0 = .ok (.iconst 0, 1) := by decide +kernel
theorem dX3_sumOfPieces_1 : decode cX3_sumOfPieces 1 = .ok (.istore_n 1, 1) := by decide +kernel
theorem dX3_sumOfPieces_2 : decode cX3_sumOfPieces 2 = .ok (.iconst 1, 1) := by decide +kernel
theorem dX3_sumOfPieces_3 : decode cX3_sumOfPieces 3 = .ok (.istore_n 2, 1) := by decide +kernel
theorem dX3_sumOfPieces_4 : decode cX3_sumOfPieces 4 = .ok (.iload_n 2, 1) := by decide +kernel
theorem dX3_sumOfPieces_5 : decode cX3_sumOfPieces 5 = .ok (.aload_n 0, 1) := by decide +kernel
theorem dX3_sumOfPieces_6 : decode cX3_sumOfPieces 6 = .ok (.getfield 18, 3) := by decide +kernel
theorem dX3_sumOfPieces_9 : decode cX3_sumOfPieces 9 = .ok (.if_icmp .ge 49, 3) := by decide +kernel
theorem dX3_sumOfPieces_12 : decode cX3_sumOfPieces 12 = .ok (.iload_n 1, 1) := by decide +kernel
theorem dX3_sumOfPieces_13 : decode cX3_sumOfPieces 13 = .ok (.aload_n 0, 1) := by decide +kernel
theorem dX3_sumOfPieces_14 : decode cX3_sumOfPieces 14 = .ok (.getfield 9, 3) := by decide +kernel
theorem dX3_sumOfPieces_17 : decode cX3_sumOfPieces 17 = .ok (.iload_n 2, 1) := by decide +kernel
theorem dX3_sumOfPieces_18 : decode cX3_sumOfPieces 18 = .ok (.iaload, 1) := by decide +kernel
theorem dX3_sumOfPieces_19 : decode cX3_sumOfPieces 19 = .ok (.aload_n 0, 1) := by decide +kernel
theorem dX3_sumOfPieces_20 : decode cX3_sumOfPieces 20 = .ok (.getfield 9, 3) := by decide +kernel
theorem dX3_sumOfPieces_23 : decode cX3_sumOfPieces 23 = .ok (.iload_n 2, 1) := by decide +kernel
theorem dX3_sumOfPieces_24 : decode cX3_sumOfPieces 24 = .ok (.iconst 1, 1) := by decide +kernel
theorem dX3_sumOfPieces_25 : decode cX3_sumOfPieces 25 = .ok (.isub, 1) := by decide +kernel
theorem dX3_sumOfPieces_26 : decode cX3_sumOfPieces 26 = .ok (.iaload, 1) := by decide +kernel
theorem dX3_sumOfPieces_27 : decode cX3_sumOfPieces 27 = .ok (.isub, 1) := by decide +kernel
theorem dX3_sumOfPieces_28 : decode cX3_sumOfPieces 28 = .ok (.invokestatic 26, 3) := by decide +kernel
theorem dX3_sumOfPieces_31 : decode cX3_sumOfPieces 31 = .ok (.aload_n 0, 1) := by decide +kernel
theorem dX3_sumOfPieces_32 : decode cX3_sumOfPieces 32 = .ok (.getfield 15, 3) := by decide +kernel
theorem dX3_sumOfPieces_35 : decode cX3_sumOfPieces 35 = .ok (.iload_n 2, 1) := by decide +kernel
theorem dX3_sumOfPieces_36 : decode cX3_sumOfPieces 36 = .ok (.iaload, 1) := by decide +kernel
theorem dX3_sumOfPieces_37 : decode cX3_sumOfPieces 37 = .ok (.aload_n 0, 1) := by decide +kernel
theorem dX3_sumOfPieces_38 : decode cX3_sumOfPieces 38 = .ok (.getfield 15, 3) := by decide +kernel
theorem dX3_sumOfPieces_41 : decode cX3_sumOfPieces 41 = .ok (.iload_n 2, 1) := by decide +kernel
theorem dX3_sumOfPieces_42 : decode cX3_sumOfPieces 42 = .ok (.iconst 1, 1) := by decide +kernel
theorem dX3_sumOfPieces_43 : decode cX3_sumOfPieces 43 = .ok (.isub, 1) := by decide +kernel
theorem dX3_sumOfPieces_44 : decode cX3_sumOfPieces 44 = .ok (.iaload, 1) := by decide +kernel
theorem dX3_sumOfPieces_45 : decode cX3_sumOfPieces 45 = .ok (.isub, 1) := by decide +kernel
theorem dX3_sumOfPieces_46 : decode cX3_sumOfPieces 46 = .ok (.invokestatic 26, 3) := by decide +kernel
theorem dX3_sumOfPieces_49 : decode cX3_sumOfPieces 49 = .ok (.iadd, 1) := by decide +kernel
theorem dX3_sumOfPieces_50 : decode cX3_sumOfPieces 50 = .ok (.iadd, 1) := by decide +kernel
theorem dX3_sumOfPieces_51 : decode cX3_sumOfPieces 51 = .ok (.istore_n 1, 1) := by decide +kernel
theorem dX3_sumOfPieces_52 : decode cX3_sumOfPieces 52 = .ok (.iinc 2 1, 3) := by decide +kernel
theorem dX3_sumOfPieces_55 : decode cX3_sumOfPieces 55 = .ok (.goto (-51), 3) := by decide +kernel
theorem dX3_sumOfPieces_58 : decode cX3_sumOfPieces 58 = .ok (.iload_n 1, 1) := by decide +kernel
theorem dX3_sumOfPieces_59 : decode cX3_sumOfPieces 59 = .ok (.ireturn, 1) := by decide +kernel
theorem dX3_twiceArea_0 : decode cX3_twiceArea 0 = .ok (.aload_n 0, 1) := by decide +kernel
theorem dX3_twiceArea_1 : decode cX3_twiceArea 1 = .ok (.getfield 9, 3) := by decide +kernel
theorem dX3_twiceArea_4 : decode cX3_twiceArea 4 = .ok (.iload_n 2, 1) := by decide +kernel
theorem dX3_twiceArea_5 : decode cX3_twiceArea 5 = .ok (.iaload, 1) := by decide +kernel
theorem dX3_twiceArea_6 : decode cX3_twiceArea 6 = .ok (.aload_n 0, 1) := by decide +kernel
theorem dX3_twiceArea_7 : decode cX3_twiceArea 7 = .ok (.getfield 15, 3) := by decide +kernel
theorem dX3_twiceArea_10 : decode cX3_twiceArea 10 = .ok (.iload_n 1, 1) := by decide +kernel
theorem dX3_twiceArea_11 : decode cX3_twiceArea 11 = .ok (.iaload, 1) := by decide +kernel
theorem dX3_twiceArea_12 : decode cX3_twiceArea 12 = .ok (.imul, 1) := by decide +kernel
theorem dX3_twiceArea_13 : decode cX3_twiceArea 13 = .ok (.aload_n 0, 1) := by decide +kernel
theorem dX3_twiceArea_14 : decode cX3_twiceArea 14 = .ok (.getfield 9, 3) := by decide +kernel
theorem dX3_twiceArea_17 : decode cX3_twiceArea 17 = .ok (.iload_n 1, 1) := by decide +kernel
theorem dX3_twiceArea_18 : decode cX3_twiceArea 18 = .ok (.iaload, 1) := by decide +kernel
theorem dX3_twiceArea_19 : decode cX3_twiceArea 19 = .ok (.aload_n 0, 1) := by decide +kernel
theorem dX3_twiceArea_20 : decode cX3_twiceArea 20 = .ok (.getfield 15, 3) := by decide +kernel
theorem dX3_twiceArea_23 : decode cX3_twiceArea 23 = .ok (.iload_n 2, 1) := by decide +kernel
theorem dX3_twiceArea_24 : decode cX3_twiceArea 24 = .ok (.iaload, 1) := by decide +kernel
theorem dX3_twiceArea_25 : decode cX3_twiceArea 25 = .ok (.imul, 1) := by decide +kernel
theorem dX3_twiceArea_26 : decode cX3_twiceArea 26 = .ok (.isub, 1) := by decide +kernel
theorem dX3_twiceArea_27 : decode cX3_twiceArea 27 = .ok (.istore_n 3, 1) := by decide +kernel
theorem dX3_twiceArea_28 : decode cX3_twiceArea 28 = .ok (.iload_n 1, 1) := by decide +kernel
theorem dX3_twiceArea_29 : decode cX3_twiceArea 29 = .ok (.istore 4, 2) := by decide +kernel
theorem dX3_twiceArea_31 : decode cX3_twiceArea 31 = .ok (.iload 4, 2) := by decide +kernel
theorem dX3_twiceArea_33 : decode cX3_twiceArea 33 = .ok (.iload_n 2, 1) := by decide +kernel
theorem dX3_twiceArea_34 : decode cX3_twiceArea 34 = .ok (.if_icmp .ge 47, 3) := by decide +kernel
theorem dX3_twiceArea_37 : decode cX3_twiceArea 37 = .ok (.iload_n 3, 1) := by decide +kernel
theorem dX3_twiceArea_38 : decode cX3_twiceArea 38 = .ok (.aload_n 0, 1) := by decide +kernel
theorem dX3_twiceArea_39 : decode cX3_twiceArea 39 = .ok (.getfield 9, 3) := by decide +kernel
theorem dX3_twiceArea_42 : decode cX3_twiceArea 42 = .ok (.iload 4, 2) := by decide +kernel
theorem dX3_twiceArea_44 : decode cX3_twiceArea 44 = .ok (.iaload, 1) := by decide +kernel
theorem dX3_twiceArea_45 : decode cX3_twiceArea 45 = .ok (.aload_n 0, 1) := by decide +kernel
theorem dX3_twiceArea_46 : decode cX3_twiceArea 46 = .ok (.getfield 15, 3) := by decide +kernel
theorem dX3_twiceArea_49 : decode cX3_twiceArea 49 = .ok (.iload 4, 2) := by decide +kernel
theorem dX3_twiceArea_51 : decode cX3_twiceArea 51 = .ok (.iconst 1, 1) := by decide +kernel
theorem dX3_twiceArea_52 : decode cX3_twiceArea 52 = .ok (.iadd, 1) := by decide +kernel
theorem dX3_twiceArea_53 : decode cX3_twiceArea 53 = .ok (.iaload, 1) := by decide +kernel
theorem dX3_twiceArea_54 : decode cX3_twiceArea 54 = .ok (.imul, 1) := by decide +kernel
theorem dX3_twiceArea_55 : decode cX3_twiceArea 55 = .ok (.aload_n 0, 1) := by decide +kernel
theorem dX3_twiceArea_56 : decode cX3_twiceArea 56 = .ok (.getfield 9, 3) := by decide +kernel
theorem dX3_twiceArea_59 : decode cX3_twiceArea 59 = .ok (.iload 4, 2) := by decide +kernel
theorem dX3_twiceArea_61 : decode cX3_twiceArea 61 = .ok (.iconst 1, 1) := by decide +kernel
theorem dX3_twiceArea_62 : decode cX3_twiceArea 62 = .ok (.iadd, 1) := by decide +kernel
theorem dX3_twiceArea_63 : decode cX3_twiceArea 63 = .ok (.iaload, 1) := by decide +kernel
theorem dX3_twiceArea_64 : decode cX3_twiceArea 64 = .ok (.aload_n 0, 1) := by decide +kernel
theorem dX3_twiceArea_65 : decode cX3_twiceArea 65 = .ok (.getfield 15, 3) := by decide +kernel
theorem dX3_twiceArea_68 : decode cX3_twiceArea 68 = .ok (.iload 4, 2) := by decide +kernel
theorem dX3_twiceArea_70 : decode cX3_twiceArea 70 = .ok (.iaload, 1) := by decide +kernel
theorem dX3_twiceArea_71 : decode cX3_twiceArea 71 = .ok (.imul, 1) := by decide +kernel
theorem dX3_twiceArea_72 : decode cX3_twiceArea 72 = .ok (.isub, 1) := by decide +kernel
theorem dX3_twiceArea_73 : decode cX3_twiceArea 73 = .ok (.iadd, 1) := by decide +kernel
theorem dX3_twiceArea_74 : decode cX3_twiceArea 74 = .ok (.istore_n 3, 1) := by decide +kernel
theorem dX3_twiceArea_75 : decode cX3_twiceArea 75 = .ok (.iinc 4 1, 3) := by decide +kernel
theorem dX3_twiceArea_78 : decode cX3_twiceArea 78 = .ok (.goto (-47), 3) := by decide +kernel
theorem dX3_twiceArea_81 : decode cX3_twiceArea 81 = .ok (.iload_n 3, 1) := by decide +kernel
theorem dX3_twiceArea_82 : decode cX3_twiceArea 82 = .ok (.invokestatic 26, 3) := by decide +kernel
theorem dX3_twiceArea_85 : decode cX3_twiceArea 85 = .ok (.ireturn, 1) := by decide +kernel
set_option maxRecDepth 20000 in
theorem ggX3_sideOf_X3_isAbove : GoodIn wsX3_sideOf wsX3_isAbove := goodIn_r _ [7, 2, 8, 9, 10, 11] (by decide +kernel) (by decide +kernel)
set_option maxRecDepth 20000 in
theorem gX3_sideOf_X3_isAbove : GoodIn wsX3_sideOf (wsV RX3 36 RX3 yX3_isAbove wsX3_isAbove) := goodIn_app (goodIn_of _ (by decide +kernel)) ggX3_sideOf_X3_isAbove
theorem dX3_sideOf_0 : decode cX3_sideOf 0 = .ok (.iconst 0, 1) := by decide +kernel
theorem dX3_sideOf_1 : decode cX3_sideOf 1 = .ok (.istore_n 3, 1) := by decide +kernel
theorem dX3_sideOf_2 : decode cX3_sideOf 2 = .ok (.iconst 1, 1) := by decide +kernel
theorem dX3_sideOf_3 : decode cX3_sideOf 3 = .ok (.istore 4, 2) := by decide +kernel
theorem dX3_sideOf_5 : decode cX3_sideOf 5 = .ok (.iload 4, 2) := by decide +kernel
theorem dX3_sideOf_7 : decode cX3_sideOf 7 = .ok (.aload_n 0, 1) := by decide +kernel
theorem dX3_sideOf_8 : decode cX3_sideOf 8 = .ok (.getfield 18, 3) := by decide +kernel
theorem dX3_sideOf_11 : decode cX3_sideOf 11 = .ok (.if_icmp .ge 76, 3) := by decide +kernel
theorem dX3_sideOf_14 : decode cX3_sideOf 14 = .ok (.aload_n 0, 1) := by decide +kernel
theorem dX3_sideOf_15 : decode cX3_sideOf 15 = .ok (.getfield 9, 3) := by decide +kernel
theorem dX3_sideOf_18 : decode cX3_sideOf 18 = .ok (.iload 4, 2) := by decide +kernel
theorem dX3_sideOf_20 : decode cX3_sideOf 20 = .ok (.iconst 1, 1) := by decide +kernel
theorem dX3_sideOf_21 : decode cX3_sideOf 21 = .ok (.isub, 1) := by decide +kernel
theorem dX3_sideOf_22 : decode cX3_sideOf 22 = .ok (.iaload, 1) := by decide +kernel
theorem dX3_sideOf_23 : decode cX3_sideOf 23 = .ok (.aload_n 0, 1) := by decide +kernel
theorem dX3_sideOf_24 : decode cX3_sideOf 24 = .ok (.getfield 9, 3) := by decide +kernel
theorem dX3_sideOf_27 : decode cX3_sideOf 27 = .ok (.iload 4, 2) := by decide +kernel
theorem dX3_sideOf_29 : decode cX3_sideOf 29 = .ok (.iaload, 1) := by decide +kernel
theorem dX3_sideOf_30 : decode cX3_sideOf 30 = .ok (.if_icmp .gt 7, 3) := by decide +kernel
theorem dX3_sideOf_33 : decode cX3_sideOf 33 = .ok (.iconst 1, 1) := by decide +kernel
theorem dX3_sideOf_34 : decode cX3_sideOf 34 = .ok (.goto 4, 3) := by decide +kernel
theorem dX3_sideOf_37 : decode cX3_sideOf 37 = .ok (.iconst 0, 1) := by decide +kernel
theorem dX3_sideOf_38 : decode cX3_sideOf 38 = .ok (.istore 5, 2) := by decide +kernel
theorem dX3_sideOf_40 : decode cX3_sideOf 40 = .ok (.iload 5, 2) := by decide +kernel
theorem dX3_sideOf_42 : decode cX3_sideOf 42 = .ok (.ifCond .eq 21, 3) := by decide +kernel
theorem dX3_sideOf_45 : decode cX3_sideOf 45 = .ok (.aload_n 0, 1) := by decide +kernel
theorem dX3_sideOf_46 : decode cX3_sideOf 46 = .ok (.iload 4, 2) := by decide +kernel
theorem dX3_sideOf_48 : decode cX3_sideOf 48 = .ok (.iconst 1, 1) := by decide +kernel
theorem dX3_sideOf_49 : decode cX3_sideOf 49 = .ok (.isub, 1) := by decide +kernel
theorem dX3_sideOf_50 : decode cX3_sideOf 50 = .ok (.iload 4, 2) := by decide +kernel
theorem dX3_sideOf_52 : decode cX3_sideOf 52 = .ok (.iload_n 1, 1) := by decide +kernel
theorem dX3_sideOf_53 : decode cX3_sideOf 53 = .ok (.iload_n 2, 1) := by decide +kernel
theorem dX3_sideOf_54 : decode cX3_sideOf 54 = .ok (.invokevirtual 36, 3) := by decide +kernel
theorem dX3_sideOf_57 : decode cX3_sideOf 57 = .ok (.ifCond .eq 24, 3) := by decide +kernel
theorem dX3_sideOf_60 : decode cX3_sideOf 60 = .ok (.goto 18, 3) := by decide +kernel
theorem dX3_sideOf_63 : decode cX3_sideOf 63 = .ok (.aload_n 0, 1) := by decide +kernel
theorem dX3_sideOf_64 : decode cX3_sideOf 64 = .ok (.iload 4, 2) := by decide +kernel
theorem dX3_sideOf_66 : decode cX3_sideOf 66 = .ok (.iload 4, 2) := by decide +kernel
theorem dX3_sideOf_68 : decode cX3_sideOf 68 = .ok (.iconst 1, 1) := by decide +kernel
theorem dX3_sideOf_69 : decode cX3_sideOf 69 = .ok (.isub, 1) := by decide +kernel
theorem dX3_sideOf_70 : decode cX3_sideOf 70 = .ok (.iload_n 1, 1) := by decide +kernel
theorem dX3_sideOf_71 : decode cX3_sideOf 71 = .ok (.iload_n 2, 1) := by decide +kernel
theorem dX3_sideOf_72 : decode cX3_sideOf 72 = .ok (.invokevirtual 36, 3) := by decide +kernel
theorem dX3_sideOf_75 : decode cX3_sideOf 75 = .ok (.ifCond .eq 6, 3) := by decide +kernel
theorem dX3_sideOf_78 : decode cX3_sideOf 78 = .ok (.iinc 3 1, 3) := by decide +kernel
theorem dX3_sideOf_81 : decode cX3_sideOf 81 = .ok (.iinc 4 1, 3) := by decide +kernel
theorem dX3_sideOf_84 : decode cX3_sideOf 84 = .ok (.goto (-79), 3) := by decide +kernel
theorem dX3_sideOf_87 : decode cX3_sideOf 87 = .ok (.iload_n 3, 1) := by decide +kernel
theorem dX3_sideOf_88 : decode cX3_sideOf 88 = .ok (.iconst 2, 1) := by decide +kernel
theorem dX3_sideOf_89 : decode cX3_sideOf 89 = .ok (.irem, 1) := by decide +kernel
theorem dX3_sideOf_90 : decode cX3_sideOf 90 = .ok (.ireturn, 1) := by decide +kernel
theorem dX3_isAbove_0 : decode cX3_isAbove 0 = .ok (.iload_n 3, 1) := by decide +kernel
theorem dX3_isAbove_1 : decode cX3_isAbove 1 = .ok (.aload_n 0, 1) := by decide +kernel
theorem dX3_isAbove_2 : decode cX3_isAbove 2 = .ok (.getfield 9, 3) := by decide +kernel
theorem dX3_isAbove_5 : decode cX3_isAbove 5 = .ok (.iload_n 1, 1) := by decide +kernel
theorem dX3_isAbove_6 : decode cX3_isAbove 6 = .ok (.iaload, 1) := by decide +kernel
theorem dX3_isAbove_7 : decode cX3_isAbove 7 = .ok (.if_icmp .lt 13, 3) := by decide +kernel
theorem dX3_isAbove_10 : decode cX3_isAbove 10 = .ok (.iload_n 3, 1) := by decide +kernel
theorem dX3_isAbove_11 : decode cX3_isAbove 11 = .ok (.aload_n 0, 1) := by decide +kernel
theorem dX3_isAbove_12 : decode cX3_isAbove 12 = .ok (.getfield 9, 3) := by decide +kernel
theorem dX3_isAbove_15 : decode cX3_isAbove 15 = .ok (.iload_n 2, 1) := by decide +kernel
theorem dX3_isAbove_16 : decode cX3_isAbove 16 = .ok (.iaload, 1) := by decide +kernel
theorem dX3_isAbove_17 : decode cX3_isAbove 17 = .ok (.if_icmp .lt 5, 3) := by decide +kernel
theorem dX3_isAbove_20 : decode cX3_isAbove 20 = .ok (.iconst 0, 1) := by decide +kernel
theorem dX3_isAbove_21 : decode cX3_isAbove 21 = .ok (.ireturn, 1) := by decide +kernel
theorem dX3_isAbove_22 : decode cX3_isAbove 22 = .ok (.aload_n 0, 1) := by decide +kernel
theorem dX3_isAbove_23 : decode cX3_isAbove 23 = .ok (.getfield 9, 3) := by decide +kernel
theorem dX3_isAbove_26 : decode cX3_isAbove 26 = .ok (.iload_n 2, 1) := by decide +kernel
theorem dX3_isAbove_27 : decode cX3_isAbove 27 = .ok (.iaload, 1) := by decide +kernel
theorem dX3_isAbove_28 : decode cX3_isAbove 28 = .ok (.aload_n 0, 1) := by decide +kernel
theorem dX3_isAbove_29 : decode cX3_isAbove 29 = .ok (.getfield 9, 3) := by decide +kernel
theorem dX3_isAbove_32 : decode cX3_isAbove 32 = .ok (.iload_n 1, 1) := by decide +kernel
theorem dX3_isAbove_33 : decode cX3_isAbove 33 = .ok (.iaload, 1) := by decide +kernel
theorem dX3_isAbove_34 : decode cX3_isAbove 34 = .ok (.isub, 1) := by decide +kernel
theorem dX3_isAbove_35 : decode cX3_isAbove 35 = .ok (.istore 5, 2) := by decide +kernel
theorem dX3_isAbove_37 : decode cX3_isAbove 37 = .ok (.aload_n 0, 1) := by decide +kernel
theorem dX3_isAbove_38 : decode cX3_isAbove 38 = .ok (.getfield 15, 3) := by decide +kernel
theorem dX3_isAbove_41 : decode cX3_isAbove 41 = .ok (.iload_n 2, 1) := by decide +kernel
theorem dX3_isAbove_42 : decode cX3_isAbove 42 = .ok (.iaload, 1) := by decide +kernel
theorem dX3_isAbove_43 : decode cX3_isAbove 43 = .ok (.aload_n 0, 1) := by decide +kernel
theorem dX3_isAbove_44 : decode cX3_isAbove 44 = .ok (.getfield 15, 3) := by decide +kernel
theorem dX3_isAbove_47 : decode cX3_isAbove 47 = .ok (.iload_n 1, 1) := by decide +kernel
theorem dX3_isAbove_48 : decode cX3_isAbove 48 = .ok (.iaload, 1) := by decide +kernel
theorem dX3_isAbove_49 : decode cX3_isAbove 49 = .ok (.isub, 1) := by decide +kernel
theorem dX3_isAbove_50 : decode cX3_isAbove 50 = .ok (.iload_n 3, 1) := by decide +kernel
theorem dX3_isAbove_51 : decode cX3_isAbove 51 = .ok (.aload_n 0, 1) := by decide +kernel
theorem dX3_isAbove_52 : decode cX3_isAbove 52 = .ok (.getfield 9, 3) := by decide +kernel
theorem dX3_isAbove_55 : decode cX3_isAbove 55 = .ok (.iload_n 1, 1) := by decide +kernel
theorem dX3_isAbove_56 : decode cX3_isAbove 56 = .ok (.iaload, 1) := by decide +kernel
theorem dX3_isAbove_57 : decode cX3_isAbove 57 = .ok (.isub, 1) := by decide +kernel
theorem dX3_isAbove_58 : decode cX3_isAbove 58 = .ok (.imul, 1) := by decide +kernel
theorem dX3_isAbove_59 : decode cX3_isAbove 59 = .ok (.iload 4, 2) := by decide +kernel
theorem dX3_isAbove_61 : decode cX3_isAbove 61 = .ok (.aload_n 0, 1) := by decide +kernel
theorem dX3_isAbove_62 : decode cX3_isAbove 62 = .ok (.getfield 15, 3) := by decide +kernel
theorem dX3_isAbove_65 : decode cX3_isAbove 65 = .ok (.iload_n 1, 1) := by decide +kernel
theorem dX3_isAbove_66 : decode cX3_isAbove 66 = .ok (.iaload, 1) := by decide +kernel
theorem dX3_isAbove_67 : decode cX3_isAbove 67 = .ok (.isub, 1) := by decide +kernel
theorem dX3_isAbove_68 : decode cX3_isAbove 68 = .ok (.iload 5, 2) := by decide +kernel
theorem dX3_isAbove_70 : decode cX3_isAbove 70 = .ok (.imul, 1) := by decide +kernel
theorem dX3_isAbove_71 : decode cX3_isAbove 71 = .ok (.if_icmp .le 7, 3) := by decide +kernel
theorem dX3_isAbove_74 : decode cX3_isAbove 74 = .ok (.iconst 1, 1) := by decide +kernel
theorem dX3_isAbove_75 : decode cX3_isAbove 75 = .ok (.goto 4, 3) := by decide +kernel
theorem dX3_isAbove_78 : decode cX3_isAbove 78 = .ok (.iconst 0, 1) := by decide +kernel
theorem dX3_isAbove_79 : decode cX3_isAbove 79 = .ok (.ireturn, 1) := by decide +kernel
set_option maxRecDepth 20000 in
theorem ggX3_countCrossings_X3_piecesMeet : GoodIn wsX3_countCrossings wsX3_piecesMeet := goodIn_r _ [6, 7, 8, 9, 10, 5, 11, 12, 13, 14, 15, 16, 17, 18, 19, 20, 21, 22, 23, 24, 25, 26, 27, 28, 29, 30, 31, 32, 33] (by decide +kernel) (by decide +kernel)
set_option maxRecDepth 20000 in
theorem gX3_countCrossings_X3_piecesMeet : GoodIn wsX3_countCrossings (wsV RX3 39 RX3 yX3_piecesMeet wsX3_piecesMeet) := goodIn_app (goodIn_of _ (by decide +kernel)) ggX3_countCrossings_X3_piecesMeet
theorem dX3_countCrossings_0 : decode cX3_countCrossings 0 = .ok (.iconst 0, 1) := by decide +kernel
theorem dX3_countCrossings_1 : decode cX3_countCrossings 1 = .ok (.istore_n 1, 1) := by decide +kernel
theorem dX3_countCrossings_2 : decode cX3_countCrossings 2 = .ok (.iconst 0, 1) := by decide +kernel
theorem dX3_countCrossings_3 : decode cX3_countCrossings 3 = .ok (.istore_n 2, 1) := by decide +kernel
theorem dX3_countCrossings_4 : decode cX3_countCrossings 4 = .ok (.iload_n 2, 1) := by decide +kernel
theorem dX3_countCrossings_5 : decode cX3_countCrossings 5 = .ok (.iconst 1, 1) := by decide +kernel
theorem dX3_countCrossings_6 : decode cX3_countCrossings 6 = .ok (.iadd, 1) := by decide +kernel
theorem dX3_countCrossings_7 : decode cX3_countCrossings 7 = .ok (.aload_n 0, 1) := by decide +kernel
theorem dX3_countCrossings_8 : decode cX3_countCrossings 8 = .ok (.getfield 18, 3) := by decide +kernel
theorem dX3_countCrossings_11 : decode cX3_countCrossings 11 = .ok (.if_icmp .ge 41, 3) := by decide +kernel
theorem dX3_countCrossings_14 : decode cX3_countCrossings 14 = .ok (.iload_n 2, 1) := by decide +kernel
theorem dX3_countCrossings_15 : decode cX3_countCrossings 15 = .ok (.iconst 2, 1) := by decide +kernel
theorem dX3_countCrossings_16 : decode cX3_countCrossings 16 = .ok (.iadd, 1) := by decide +kernel
theorem dX3_countCrossings_17 : decode cX3_countCrossings 17 = .ok (.istore_n 3, 1) := by decide +kernel
theorem dX3_countCrossings_18 : decode cX3_countCrossings 18 = .ok (.iload_n 3, 1) := by decide +kernel
theorem dX3_countCrossings_19 : decode cX3_countCrossings 19 = .ok (.iconst 1, 1) := by decide +kernel
theorem dX3_countCrossings_20 : decode cX3_countCrossings 20 = .ok (.iadd, 1) := by decide +kernel
theorem dX3_countCrossings_21 : decode cX3_countCrossings 21 = .ok (.aload_n 0, 1) := by decide +kernel
theorem dX3_countCrossings_22 : decode cX3_countCrossings 22 = .ok (.getfield 18, 3) := by decide +kernel
theorem dX3_countCrossings_25 : decode cX3_countCrossings 25 = .ok (.if_icmp .ge 21, 3) := by decide +kernel
theorem dX3_countCrossings_28 : decode cX3_countCrossings 28 = .ok (.aload_n 0, 1) := by decide +kernel
theorem dX3_countCrossings_29 : decode cX3_countCrossings 29 = .ok (.iload_n 2, 1) := by decide +kernel
theorem dX3_countCrossings_30 : decode cX3_countCrossings 30 = .ok (.iload_n 3, 1) := by decide +kernel
theorem dX3_countCrossings_31 : decode cX3_countCrossings 31 = .ok (.invokevirtual 39, 3) := by decide +kernel
theorem dX3_countCrossings_34 : decode cX3_countCrossings 34 = .ok (.ifCond .eq 6, 3) := by decide +kernel
theorem dX3_countCrossings_37 : decode cX3_countCrossings 37 = .ok (.iinc 1 1, 3) := by decide +kernel
theorem dX3_countCrossings_40 : decode cX3_countCrossings 40 = .ok (.iinc 3 1, 3) := by decide +kernel
theorem dX3_countCrossings_43 : decode cX3_countCrossings 43 = .ok (.goto (-25), 3) := by decide +kernel
theorem dX3_countCrossings_46 : decode cX3_countCrossings 46 = .ok (.iinc 2 1, 3) := by decide +kernel
theorem dX3_countCrossings_49 : decode cX3_countCrossings 49 = .ok (.goto (-45), 3) := by decide +kernel
theorem dX3_countCrossings_52 : decode cX3_countCrossings 52 = .ok (.iload_n 1, 1) := by decide +kernel
theorem dX3_countCrossings_53 : decode cX3_countCrossings 53 = .ok (.ireturn, 1) := by decide +kernel
set_option maxRecDepth 20000 in
theorem ggX3_piecesMeet_X3_spansMeet : GoodIn wsX3_piecesMeet wsX3_spansMeet := goodIn_r _ [6, 7, 8, 9, 10, 11, 12, 13] (by decide +kernel) (by decide +kernel)
set_option maxRecDepth 20000 in
theorem gX3_piecesMeet_X3_spansMeet : GoodIn wsX3_piecesMeet (va_wsS RX3 43 yX3_spansMeet wsX3_spansMeet) := goodIn_app (goodIn_of _ (by decide +kernel)) ggX3_piecesMeet_X3_spansMeet
set_option maxRecDepth 20000 in
theorem ggX3_piecesMeet_X3_straddles : GoodIn wsX3_piecesMeet wsX3_straddles := goodIn_r _ [17, 18, 19, 20, 5, 21, 1, 2, 22, 23, 24, 25, 26, 27, 28] (by decide +kernel) (by decide +kernel)
set_option maxRecDepth 20000 in
theorem gX3_piecesMeet_X3_straddles : GoodIn wsX3_piecesMeet (wsV RX3 47 RX3 yX3_straddles wsX3_straddles) := goodIn_app (goodIn_of _ (by decide +kernel)) ggX3_piecesMeet_X3_straddles
theorem dX3_piecesMeet_0 : decode cX3_piecesMeet 0 = .ok (.aload_n 0, 1) := by decide +kernel
theorem dX3_piecesMeet_1 : decode cX3_piecesMeet 1 = .ok (.getfield 9, 3) := by decide +kernel
theorem dX3_piecesMeet_4 : decode cX3_piecesMeet 4 = .ok (.iload_n 1, 1) := by decide +kernel
theorem dX3_piecesMeet_5 : decode cX3_piecesMeet 5 = .ok (.iload_n 2, 1) := by decide +kernel
theorem dX3_piecesMeet_6 : decode cX3_piecesMeet 6 = .ok (.invokestatic 43, 3) := by decide +kernel
theorem dX3_piecesMeet_9 : decode cX3_piecesMeet 9 = .ok (.ifCond .eq 37, 3) := by decide +kernel
theorem dX3_piecesMeet_12 : decode cX3_piecesMeet 12 = .ok (.aload_n 0, 1) := by decide +kernel
theorem dX3_piecesMeet_13 : decode cX3_piecesMeet 13 = .ok (.getfield 15, 3) := by decide +kernel
theorem dX3_piecesMeet_16 : decode cX3_piecesMeet 16 = .ok (.iload_n 1, 1) := by decide +kernel
theorem dX3_piecesMeet_17 : decode cX3_piecesMeet 17 = .ok (.iload_n 2, 1) := by decide +kernel
theorem dX3_piecesMeet_18 : decode cX3_piecesMeet 18 = .ok (.invokestatic 43, 3) := by decide +kernel
theorem dX3_piecesMeet_21 : decode cX3_piecesMeet 21 = .ok (.ifCond .eq 25, 3) := by decide +kernel
theorem dX3_piecesMeet_24 : decode cX3_piecesMeet 24 = .ok (.aload_n 0, 1) := by decide +kernel
theorem dX3_piecesMeet_25 : decode cX3_piecesMeet 25 = .ok (.iload_n 1, 1) := by decide +kernel
theorem dX3_piecesMeet_26 : decode cX3_piecesMeet 26 = .ok (.iload_n 2, 1) := by decide +kernel
theorem dX3_piecesMeet_27 : decode cX3_piecesMeet 27 = .ok (.invokevirtual 47, 3) := by decide +kernel
theorem dX3_piecesMeet_30 : decode cX3_piecesMeet 30 = .ok (.ifCond .eq 16, 3) := by decide +kernel
theorem dX3_piecesMeet_33 : decode cX3_piecesMeet 33 = .ok (.aload_n 0, 1) := by decide +kernel
theorem dX3_piecesMeet_34 : decode cX3_piecesMeet 34 = .ok (.iload_n 2, 1) := by decide +kernel
theorem dX3_piecesMeet_35 : decode cX3_piecesMeet 35 = .ok (.iload_n 1, 1) := by decide +kernel
theorem dX3_piecesMeet_36 : decode cX3_piecesMeet 36 = .ok (.invokevirtual 47, 3) := by decide +kernel
theorem dX3_piecesMeet_39 : decode cX3_piecesMeet 39 = .ok (.ifCond .eq 7, 3) := by decide +kernel
theorem dX3_piecesMeet_42 : decode cX3_piecesMeet 42 = .ok (.iconst 1, 1) := by decide +kernel
theorem dX3_piecesMeet_43 : decode cX3_piecesMeet 43 = .ok (.goto 4, 3) := by decide +kernel
theorem dX3_piecesMeet_46 : decode cX3_piecesMeet 46 = .ok (.iconst 0, 1) := by decide +kernel
theorem dX3_piecesMeet_47 : decode cX3_piecesMeet 47 = .ok (.ireturn, 1) := by decide +kernel
theorem dX3_spansMeet_0 : decode cX3_spansMeet 0 = .ok (.aload_n 0, 1) := by decide +kernel
theorem dX3_spansMeet_1 : decode cX3_spansMeet 1 = .ok (.iload_n 1, 1) := by decide +kernel
theorem dX3_spansMeet_2 : decode cX3_spansMeet 2 = .ok (.iaload, 1) := by decide +kernel
theorem dX3_spansMeet_3 : decode cX3_spansMeet 3 = .ok (.aload_n 0, 1) := by decide +kernel
theorem dX3_spansMeet_4 : decode cX3_spansMeet 4 = .ok (.iload_n 1, 1) := by decide +kernel
theorem dX3_spansMeet_5 : decode cX3_spansMeet 5 = .ok (.iconst 1, 1) := by decide +kernel
theorem dX3_spansMeet_6 : decode cX3_spansMeet 6 = .ok (.iadd, 1) := by decide +kernel
theorem dX3_spansMeet_7 : decode cX3_spansMeet 7 = .ok (.iaload, 1) := by decide +kernel
theorem dX3_spansMeet_8 : decode cX3_spansMeet 8 = .ok (.invokestatic 50, 3) := by decide +kernel
theorem dX3_spansMeet_11 : decode cX3_spansMeet 11 = .ok (.aload_n 0, 1) := by decide +kernel
theorem dX3_spansMeet_12 : decode cX3_spansMeet 12 = .ok (.iload_n 2, 1) := by decide +kernel
theorem dX3_spansMeet_13 : decode cX3_spansMeet 13 = .ok (.iaload, 1) := by decide +kernel
theorem dX3_spansMeet_14 : decode cX3_spansMeet 14 = .ok (.aload_n 0, 1) := by decide +kernel
theorem dX3_spansMeet_15 : decode cX3_spansMeet 15 = .ok (.iload_n 2, 1) := by decide +kernel
theorem dX3_spansMeet_16 : decode cX3_spansMeet 16 = .ok (.iconst 1, 1) := by decide +kernel
theorem dX3_spansMeet_17 : decode cX3_spansMeet 17 = .ok (.iadd, 1) := by decide +kernel
theorem dX3_spansMeet_18 : decode cX3_spansMeet 18 = .ok (.iaload, 1) := by decide +kernel
theorem dX3_spansMeet_19 : decode cX3_spansMeet 19 = .ok (.invokestatic 54, 3) := by decide +kernel
theorem dX3_spansMeet_22 : decode cX3_spansMeet 22 = .ok (.if_icmp .lt 32, 3) := by decide +kernel
theorem dX3_spansMeet_25 : decode cX3_spansMeet 25 = .ok (.aload_n 0, 1) := by decide +kernel
theorem dX3_spansMeet_26 : decode cX3_spansMeet 26 = .ok (.iload_n 2, 1) := by decide +kernel
theorem dX3_spansMeet_27 : decode cX3_spansMeet 27 = .ok (.iaload, 1) := by decide +kernel
theorem dX3_spansMeet_28 : decode cX3_spansMeet 28 = .ok (.aload_n 0, 1) := by decide +kernel
theorem dX3_spansMeet_29 : decode cX3_spansMeet 29 = .ok (.iload_n 2, 1) := by decide +kernel
theorem dX3_spansMeet_30 : decode cX3_spansMeet 30 = .ok (.iconst 1, 1) := by decide +kernel
theorem dX3_spansMeet_31 : decode cX3_spansMeet 31 = .ok (.iadd, 1) := by decide +kernel
theorem dX3_spansMeet_32 : decode cX3_spansMeet 32 = .ok (.iaload, 1) := by decide +kernel
theorem dX3_spansMeet_33 : decode cX3_spansMeet 33 = .ok (.invokestatic 50, 3) := by decide +kernel
theorem dX3_spansMeet_36 : decode cX3_spansMeet 36 = .ok (.aload_n 0, 1) := by decide +kernel
theorem dX3_spansMeet_37 : decode cX3_spansMeet 37 = .ok (.iload_n 1, 1) := by decide +kernel
theorem dX3_spansMeet_38 : decode cX3_spansMeet 38 = .ok (.iaload, 1) := by decide +kernel
theorem dX3_spansMeet_39 : decode cX3_spansMeet 39 = .ok (.aload_n 0, 1) := by decide +kernel
theorem dX3_spansMeet_40 : decode cX3_spansMeet 40 = .ok (.iload_n 1, 1) := by decide +kernel
theorem dX3_spansMeet_41 : decode cX3_spansMeet 41 = .ok (.iconst 1, 1) := by decide +kernel
theorem dX3_spansMeet_42 : decode cX3_spansMeet 42 = .ok (.iadd, 1) := by decide +kernel
theorem dX3_spansMeet_43 : decode cX3_spansMeet 43 = .ok (.iaload, 1) := by decide +kernel
theorem dX3_spansMeet_44 : decode cX3_spansMeet 44 = .ok (.invokestatic 54, 3) := by decide +kernel
theorem dX3_spansMeet_47 : decode cX3_spansMeet 47 = .ok (.if_icmp .lt 7, 3) := by decide +kernel
theorem dX3_spansMeet_50 : decode cX3_spansMeet 50 = .ok (.iconst 1, 1) := by decide +kernel
theorem dX3_spansMeet_51 : decode cX3_spansMeet 51 = .ok (.goto 4, 3) := by decide +kernel
theorem dX3_spansMeet_54 : decode cX3_spansMeet 54 = .ok (.iconst 0, 1) := by decide +kernel
theorem dX3_spansMeet_55 : decode cX3_spansMeet 55 = .ok (.ireturn, 1) := by decide +kernel
set_option maxRecDepth 20000 in
theorem ggX3_straddles_X3_turn : GoodIn wsX3_straddles wsX3_turn := goodIn_r _ [5, 6, 7, 8, 9, 10, 11, 12, 13, 14] (by decide +kernel) (by decide +kernel)
set_option maxRecDepth 20000 in
theorem gX3_straddles_X3_turn : GoodIn wsX3_straddles (wsV RX3 57 RX3 yX3_turn wsX3_turn) := goodIn_app (goodIn_of _ (by decide +kernel)) ggX3_straddles_X3_turn
theorem dX3_straddles_0 : decode cX3_straddles 0 = .ok (.aload_n 0, 1) := by decide +kernel
theorem dX3_straddles_1 : decode cX3_straddles 1 = .ok (.iload_n 1, 1) := by decide +kernel
theorem dX3_straddles_2 : decode cX3_straddles 2 = .ok (.iload_n 2, 1) := by decide +kernel
theorem dX3_straddles_3 : decode cX3_straddles 3 = .ok (.invokevirtual 57, 3) := by decide +kernel
theorem dX3_straddles_6 : decode cX3_straddles 6 = .ok (.aload_n 0, 1) := by decide +kernel
theorem dX3_straddles_7 : decode cX3_straddles 7 = .ok (.iload_n 1, 1) := by decide +kernel
theorem dX3_straddles_8 : decode cX3_straddles 8 = .ok (.iload_n 2, 1) := by decide +kernel
theorem dX3_straddles_9 : decode cX3_straddles 9 = .ok (.iconst 1, 1) := by decide +kernel
theorem dX3_straddles_10 : decode cX3_straddles 10 = .ok (.iadd, 1) := by decide +kernel
theorem dX3_straddles_11 : decode cX3_straddles 11 = .ok (.invokevirtual 57, 3) := by decide +kernel
theorem dX3_straddles_14 : decode cX3_straddles 14 = .ok (.imul, 1) := by decide +kernel
theorem dX3_straddles_15 : decode cX3_straddles 15 = .ok (.ifCond .gt 7, 3) := by decide +kernel
theorem dX3_straddles_18 : decode cX3_straddles 18 = .ok (.iconst 1, 1) := by decide +kernel
theorem dX3_straddles_19 : decode cX3_straddles 19 = .ok (.goto 4, 3) := by decide +kernel
theorem dX3_straddles_22 : decode cX3_straddles 22 = .ok (.iconst 0, 1) := by decide +kernel
theorem dX3_straddles_23 : decode cX3_straddles 23 = .ok (.ireturn, 1) := by decide +kernel
set_option maxRecDepth 20000 in
theorem ggX3_turn_J6_compare_7cf53 : GoodIn wsX3_turn wsJ6_compare_7cf53 := goodIn_r _ [6] (by decide +kernel) (by decide +kernel)
set_option maxRecDepth 20000 in
theorem gX3_turn_J6_compare_7cf53 : GoodIn wsX3_turn (va_wsS RX3 60 yJ6_compare_7cf53 wsJ6_compare_7cf53) := goodIn_app (goodIn_of _ (by decide +kernel)) ggX3_turn_J6_compare_7cf53
theorem dX3_turn_0 : decode cX3_turn 0 = .ok (.aload_n 0, 1) := by decide +kernel
theorem dX3_turn_1 : decode cX3_turn 1 = .ok (.getfield 9, 3) := by decide +kernel
theorem dX3_turn_4 : decode cX3_turn 4 = .ok (.iload_n 1, 1) := by decide +kernel
theorem dX3_turn_5 : decode cX3_turn 5 = .ok (.iconst 1, 1) := by decide +kernel
theorem dX3_turn_6 : decode cX3_turn 6 = .ok (.iadd, 1) := by decide +kernel
theorem dX3_turn_7 : decode cX3_turn 7 = .ok (.iaload, 1) := by decide +kernel
theorem dX3_turn_8 : decode cX3_turn 8 = .ok (.aload_n 0, 1) := by decide +kernel
theorem dX3_turn_9 : decode cX3_turn 9 = .ok (.getfield 9, 3) := by decide +kernel
theorem dX3_turn_12 : decode cX3_turn 12 = .ok (.iload_n 1, 1) := by decide +kernel
theorem dX3_turn_13 : decode cX3_turn 13 = .ok (.iaload, 1) := by decide +kernel
theorem dX3_turn_14 : decode cX3_turn 14 = .ok (.isub, 1) := by decide +kernel
theorem dX3_turn_15 : decode cX3_turn 15 = .ok (.aload_n 0, 1) := by decide +kernel
theorem dX3_turn_16 : decode cX3_turn 16 = .ok (.getfield 15, 3) := by decide +kernel
theorem dX3_turn_19 : decode cX3_turn 19 = .ok (.iload_n 2, 1) := by decide +kernel
theorem dX3_turn_20 : decode cX3_turn 20 = .ok (.iaload, 1) := by decide +kernel
theorem dX3_turn_21 : decode cX3_turn 21 = .ok (.aload_n 0, 1) := by decide +kernel
theorem dX3_turn_22 : decode cX3_turn 22 = .ok (.getfield 15, 3) := by decide +kernel
theorem dX3_turn_25 : decode cX3_turn 25 = .ok (.iload_n 1, 1) := by decide +kernel
theorem dX3_turn_26 : decode cX3_turn 26 = .ok (.iaload, 1) := by decide +kernel
theorem dX3_turn_27 : decode cX3_turn 27 = .ok (.isub, 1) := by decide +kernel
theorem dX3_turn_28 : decode cX3_turn 28 = .ok (.imul, 1) := by decide +kernel
theorem dX3_turn_29 : decode cX3_turn 29 = .ok (.istore_n 3, 1) := by decide +kernel
theorem dX3_turn_30 : decode cX3_turn 30 = .ok (.aload_n 0, 1) := by decide +kernel
theorem dX3_turn_31 : decode cX3_turn 31 = .ok (.getfield 15, 3) := by decide +kernel
theorem dX3_turn_34 : decode cX3_turn 34 = .ok (.iload_n 1, 1) := by decide +kernel
theorem dX3_turn_35 : decode cX3_turn 35 = .ok (.iconst 1, 1) := by decide +kernel
theorem dX3_turn_36 : decode cX3_turn 36 = .ok (.iadd, 1) := by decide +kernel
theorem dX3_turn_37 : decode cX3_turn 37 = .ok (.iaload, 1) := by decide +kernel
theorem dX3_turn_38 : decode cX3_turn 38 = .ok (.aload_n 0, 1) := by decide +kernel
theorem dX3_turn_39 : decode cX3_turn 39 = .ok (.getfield 15, 3) := by decide +kernel
theorem dX3_turn_42 : decode cX3_turn 42 = .ok (.iload_n 1, 1) := by decide +kernel
theorem dX3_turn_43 : decode cX3_turn 43 = .ok (.iaload, 1) := by decide +kernel
theorem dX3_turn_44 : decode cX3_turn 44 = .ok (.isub, 1) := by decide +kernel
theorem dX3_turn_45 : decode cX3_turn 45 = .ok (.aload_n 0, 1) := by decide +kernel
theorem dX3_turn_46 : decode cX3_turn 46 = .ok (.getfield 9, 3) := by decide +kernel
theorem dX3_turn_49 : decode cX3_turn 49 = .ok (.iload_n 2, 1) := by decide +kernel
theorem dX3_turn_50 : decode cX3_turn 50 = .ok (.iaload, 1) := by decide +kernel
theorem dX3_turn_51 : decode cX3_turn 51 = .ok (.aload_n 0, 1) := by decide +kernel
theorem dX3_turn_52 : decode cX3_turn 52 = .ok (.getfield 9, 3) := by decide +kernel
theorem dX3_turn_55 : decode cX3_turn 55 = .ok (.iload_n 1, 1) := by decide +kernel
theorem dX3_turn_56 : decode cX3_turn 56 = .ok (.iaload, 1) := by decide +kernel
theorem dX3_turn_57 : decode cX3_turn 57 = .ok (.isub, 1) := by decide +kernel
theorem dX3_turn_58 : decode cX3_turn 58 = .ok (.imul, 1) := by decide +kernel
theorem dX3_turn_59 : decode cX3_turn 59 = .ok (.istore 4, 2) := by decide +kernel
theorem dX3_turn_61 : decode cX3_turn 61 = .ok (.iload_n 3, 1) := by decide +kernel
theorem dX3_turn_62 : decode cX3_turn 62 = .ok (.iload 4, 2) := by decide +kernel
theorem dX3_turn_64 : decode cX3_turn 64 = .ok (.invokestatic 60, 3) := by decide +kernel
theorem dX3_turn_67 : decode cX3_turn 67 = .ok (.ireturn, 1) := by decide +kernel
theorem dX4_init_0 : decode cX4_init 0 = .ok (.aload_n 0, 1) := by decide +kernel
theorem dX4_init_1 : decode cX4_init 1 = .ok (.invokespecial 3, 3) := by decide +kernel
theorem dX4_init_4 : decode cX4_init 4 = .ok (.aload_n 0, 1) := by decide +kernel
theorem dX4_init_5 : decode cX4_init 5 = .ok (.bipush 20, 2) := by decide +kernel
theorem dX4_init_7 : decode cX4_init 7 = .ok (.newarray .int, 2) := by decide +kernel
theorem dX4_init_9 : decode cX4_init 9 = .ok (.putfield 9, 3) := by decide +kernel
theorem dX4_init_12 : decode cX4_init 12 = .ok (.return_, 1) := by decide +kernel
theorem dX4_add_0 : decode cX4_add 0 = .ok (.aload_n 0, 1) := by decide +kernel
theorem dX4_add_1 : decode cX4_add 1 = .ok (.getfield 15, 3) := by decide +kernel
theorem dX4_add_4 : decode cX4_add 4 = .ok (.bipush 20, 2) := by decide +kernel
theorem dX4_add_6 : decode cX4_add 6 = .ok (.if_icmp .ge 23, 3) := by decide +kernel
theorem dX4_add_9 : decode cX4_add 9 = .ok (.aload_n 0, 1) := by decide +kernel
theorem dX4_add_10 : decode cX4_add 10 = .ok (.getfield 9, 3) := by decide +kernel
theorem dX4_add_13 : decode cX4_add 13 = .ok (.aload_n 0, 1) := by decide +kernel
theorem dX4_add_14 : decode cX4_add 14 = .ok (.getfield 15, 3) := by decide +kernel
theorem dX4_add_17 : decode cX4_add 17 = .ok (.iload_n 1, 1) := by decide +kernel
theorem dX4_add_18 : decode cX4_add 18 = .ok (.iastore, 1) := by decide +kernel
theorem dX4_add_19 : decode cX4_add 19 = .ok (.aload_n 0, 1) := by decide +kernel
theorem dX4_add_20 : decode cX4_add 20 = .ok (.dup, 1) := by decide +kernel
theorem dX4_add_21 : decode cX4_add 21 = .ok (.getfield 15, 3) := by decide +kernel
theorem dX4_add_24 : decode cX4_add 24 = .ok (.iconst 1, 1) := by decide +kernel
theorem dX4_add_25 : decode cX4_add 25 = .ok (.iadd, 1) := by decide +kernel
theorem dX4_add_26 : decode cX4_add 26 = .ok (.putfield 15, 3) := by decide +kernel
theorem dX4_add_29 : decode cX4_add 29 = .ok (.return_, 1) := by decide +kernel
set_option maxRecDepth 20000 in
theorem ggX5_init_X0_init : GoodIn wsX5_init wsX0_init := goodIn_r _ [14, 15, 2, 3, 16, 17, 18, 19, 25, 26, 27, 28] (by decide +kernel) (by decide +kernel)
set_option maxRecDepth 20000 in
theorem gX5_init_X0_init_n11 : GoodIn wsX5_init (wsX0_init) := ggX5_init_X0_init
set_option maxRecDepth 20000 in
theorem ggX5_init_X3_init : GoodIn wsX5_init wsX3_init := goodIn_r _ [21, 22, 2, 3, 16, 23, 24, 33, 34, 35] (by decide +kernel) (by decide +kernel)
set_option maxRecDepth 20000 in
theorem gX5_init_X3_init_n20 : GoodIn wsX5_init (wsX3_init) := ggX5_init_X3_init
theorem dX5_init_0 : decode cX5_init 0 = .ok (.aload_n 0, 1) := by decide +kernel
theorem dX5_init_1 : decode cX5_init 1 = .ok (.invokespecial 3, 3) := by decide +kernel
theorem dX5_init_4 : decode cX5_init 4 = .ok (.aload_n 0, 1) := by decide +kernel
theorem dX5_init_5 : decode cX5_init 5 = .ok (.new 9, 3) := by decide +kernel
theorem dX5_init_8 : decode cX5_init 8 = .ok (.dup, 1) := by decide +kernel
theorem dX5_init_9 : decode cX5_init 9 = .ok (.invokespecial 11, 3) := by decide +kernel
theorem dX5_init_12 : decode cX5_init 12 = .ok (.putfield 12, 3) := by decide +kernel
theorem dX5_init_15 : decode cX5_init 15 = .ok (.aload_n 0, 1) := by decide +kernel
theorem dX5_init_16 : decode cX5_init 16 = .ok (.new 18, 3) := by decide +kernel
theorem dX5_init_19 : decode cX5_init 19 = .ok (.dup, 1) := by decide +kernel
theorem dX5_init_20 : decode cX5_init 20 = .ok (.invokespecial 20, 3) := by decide +kernel
theorem dX5_init_23 : decode cX5_init 23 = .ok (.putfield 21, 3) := by decide +kernel
theorem dX5_init_26 : decode cX5_init 26 = .ok (.aload_n 0, 1) := by decide +kernel
theorem dX5_init_27 : decode cX5_init 27 = .ok (.new 18, 3) := by decide +kernel
theorem dX5_init_30 : decode cX5_init 30 = .ok (.dup, 1) := by decide +kernel
theorem dX5_init_31 : decode cX5_init 31 = .ok (.invokespecial 20, 3) := by decide +kernel
theorem dX5_init_34 : decode cX5_init 34 = .ok (.putfield 25, 3) := by decide +kernel
theorem dX5_init_37 : decode cX5_init 37 = .ok (.return_, 1) := by decide +kernel
set_option maxRecDepth 20000 in
theorem ggX5_restart_X3_copyFrom : GoodIn wsX5_restart wsX3_copyFrom := goodIn_r _ [9, 10, 11, 12, 13, 14, 15, 8, 16, 25, 26, 27] (by decide +kernel) (by decide +kernel)
set_option maxRecDepth 20000 in
theorem gX5_restart_X3_copyFrom : GoodIn wsX5_restart (wsV RX5 28 RX3 yX3_copyFrom wsX3_copyFrom) := goodIn_app (goodIn_of _ (by decide +kernel)) ggX5_restart_X3_copyFrom
theorem dX5_restart_0 : decode cX5_restart 0 = .ok (.aload_n 0, 1) := by decide +kernel
theorem dX5_restart_1 : decode cX5_restart 1 = .ok (.getfield 21, 3) := by decide +kernel
theorem dX5_restart_4 : decode cX5_restart 4 = .ok (.aload_n 1, 1) := by decide +kernel
theorem dX5_restart_5 : decode cX5_restart 5 = .ok (.invokevirtual 28, 3) := by decide +kernel
theorem dX5_restart_8 : decode cX5_restart 8 = .ok (.aload_n 0, 1) := by decide +kernel
theorem dX5_restart_9 : decode cX5_restart 9 = .ok (.getfield 12, 3) := by decide +kernel
theorem dX5_restart_12 : decode cX5_restart 12 = .ok (.iconst 0, 1) := by decide +kernel
theorem dX5_restart_13 : decode cX5_restart 13 = .ok (.putfield 32, 3) := by decide +kernel
theorem dX5_restart_16 : decode cX5_restart 16 = .ok (.aload_n 0, 1) := by decide +kernel
theorem dX5_restart_17 : decode cX5_restart 17 = .ok (.iconst 0, 1) := by decide +kernel
theorem dX5_restart_18 : decode cX5_restart 18 = .ok (.putfield 36, 3) := by decide +kernel
theorem dX5_restart_21 : decode cX5_restart 21 = .ok (.return_, 1) := by decide +kernel
set_option maxRecDepth 20000 in
theorem ggX5_windOn_X5_move : GoodIn wsX5_windOn wsX5_move := goodIn_r _ [7, 8, 9, 10, 11, 12, 13, 14, 15, 16, 17, 18, 19, 20, 21, 6, 22, 23, 24, 25, 26, 27, 28, 29, 30, 31, 32, 33, 34, 35, 36, 37, 38, 39, 40, 41, 42, 43, 44, 45, 46, 47, 48, 49, 50, 51, 71, 72, 73, 74, 82, 83, 84, 75, 76, 77, 78, 79, 80, 81] (by decide +kernel) (by decide +kernel)
set_option maxRecDepth 20000 in
theorem gX5_windOn_X5_move : GoodIn wsX5_windOn (wsV RX5 39 RX5 yX5_move wsX5_move) := goodIn_app (goodIn_of _ (by decide +kernel)) ggX5_windOn_X5_move
set_option maxRecDepth 20000 in
theorem ggX5_windOn_X5_leaveOutClose : GoodIn wsX5_windOn wsX5_leaveOutClose := goodIn_r _ [55, 8, 9, 10, 11, 12, 56, 57, 58, 6, 59, 60, 61, 62, 43, 63, 46, 64, 65, 35, 66, 47, 40, 41, 42, 44, 45, 48, 49, 50, 51, 71, 72, 73, 74, 82, 83, 84] (by decide +kernel) (by decide +kernel)
set_option maxRecDepth 20000 in
theorem gX5_windOn_X5_leaveOutClose : GoodIn wsX5_windOn (wsV RX5 43 RX5 yX5_leaveOutClose wsX5_leaveOutClose) := goodIn_app (goodIn_of _ (by decide +kernel)) ggX5_windOn_X5_leaveOutClose
set_option maxRecDepth 20000 in
theorem ggX5_windOn_X5_fillLong : GoodIn wsX5_windOn wsX5_fillLong := goodIn_r _ [70, 8, 9, 10, 11, 12, 60, 61, 62, 43, 63, 46, 64, 65, 35, 66, 47, 40, 41, 42, 44, 45, 48, 49, 50, 6, 51, 71, 72, 73, 74, 82, 83, 84] (by decide +kernel) (by decide +kernel)
set_option maxRecDepth 20000 in
theorem gX5_windOn_X5_fillLong : GoodIn wsX5_windOn (wsV RX5 51 RX5 yX5_fillLong wsX5_fillLong) := goodIn_app (goodIn_of _ (by decide +kernel)) ggX5_windOn_X5_fillLong
theorem dX5_windOn_0 : decode cX5_windOn 0 = .ok (.aload_n 0, 1) := by decide +kernel
theorem dX5_windOn_1 : decode cX5_windOn 1 = .ok (.dup, 1) := by decide +kernel
theorem dX5_windOn_2 : decode cX5_windOn 2 = .ok (.getfield 36, 3) := by decide +kernel
theorem dX5_windOn_5 : decode cX5_windOn 5 = .ok (.iconst 1, 1) := by decide +kernel
theorem dX5_windOn_6 : decode cX5_windOn 6 = .ok (.iadd, 1) := by decide +kernel
theorem dX5_windOn_7 : decode cX5_windOn 7 = .ok (.putfield 36, 3) := by decide +kernel
theorem dX5_windOn_10 : decode cX5_windOn 10 = .ok (.aload_n 0, 1) := by decide +kernel
theorem dX5_windOn_11 : decode cX5_windOn 11 = .ok (.aload_n 1, 1) := by decide +kernel
theorem dX5_windOn_12 : decode cX5_windOn 12 = .ok (.iload_n 2, 1) := by decide +kernel
theorem dX5_windOn_13 : decode cX5_windOn 13 = .ok (.invokevirtual 39, 3) := by decide +kernel
theorem dX5_windOn_16 : decode cX5_windOn 16 = .ok (.aload_n 0, 1) := by decide +kernel
theorem dX5_windOn_17 : decode cX5_windOn 17 = .ok (.invokevirtual 43, 3) := by decide +kernel
theorem dX5_windOn_20 : decode cX5_windOn 20 = .ok (.aload_n 0, 1) := by decide +kernel
theorem dX5_windOn_21 : decode cX5_windOn 21 = .ok (.aload_n 1, 1) := by decide +kernel
theorem dX5_windOn_22 : decode cX5_windOn 22 = .ok (.getfield 46, 3) := by decide +kernel
theorem dX5_windOn_25 : decode cX5_windOn 25 = .ok (.invokevirtual 51, 3) := by decide +kernel
theorem dX5_windOn_28 : decode cX5_windOn 28 = .ok (.return_, 1) := by decide +kernel
set_option maxRecDepth 20000 in
theorem ggX5_cutNecks_X5_farthestNeck : GoodIn wsX5_cutNecks wsX5_farthestNeck := goodIn_r _ [9, 1, 2, 10, 11, 12, 13, 14, 15, 16, 17, 18, 19, 20, 21, 22, 23, 24, 25, 44, 45, 46, 47, 48, 49, 50] (by decide +kernel) (by decide +kernel)
set_option maxRecDepth 20000 in
theorem gX5_cutNecks_X5_farthestNeck : GoodIn wsX5_cutNecks (wsV RX5 56 RX5 yX5_farthestNeck wsX5_farthestNeck) := goodIn_app (goodIn_of _ (by decide +kernel)) ggX5_cutNecks_X5_farthestNeck
set_option maxRecDepth 20000 in
theorem ggX5_cutNecks_X3_twiceArea : GoodIn wsX5_cutNecks wsX3_twiceArea := goodIn_r _ [29, 21, 25, 22, 23, 12, 24, 48, 49, 50] (by decide +kernel) (by decide +kernel)
set_option maxRecDepth 20000 in
theorem gX5_cutNecks_X3_twiceArea : GoodIn wsX5_cutNecks (wsV RX5 60 RX3 yX3_twiceArea wsX3_twiceArea) := goodIn_app (goodIn_of _ (by decide +kernel)) ggX5_cutNecks_X3_twiceArea
set_option maxRecDepth 20000 in
theorem ggX5_cutNecks_X0_note : GoodIn wsX5_cutNecks wsX0_note := goodIn_r _ [34, 35, 36, 37, 38, 51, 52, 53, 54] (by decide +kernel) (by decide +kernel)
set_option maxRecDepth 20000 in
theorem gX5_cutNecks_X0_note : GoodIn wsX5_cutNecks (wsV RX5 63 RX0 yX0_note wsX0_note) := goodIn_app (goodIn_of _ (by decide +kernel)) ggX5_cutNecks_X0_note
set_option maxRecDepth 20000 in
theorem ggX5_cutNecks_X3_leaveOutBetween : GoodIn wsX5_cutNecks wsX3_leaveOutBetween := goodIn_r _ [42, 43, 21, 25, 48, 49, 50] (by decide +kernel) (by decide +kernel)
set_option maxRecDepth 20000 in
theorem gX5_cutNecks_X3_leaveOutBetween : GoodIn wsX5_cutNecks (wsV RX5 67 RX3 yX3_leaveOutBetween wsX3_leaveOutBetween) := goodIn_app (goodIn_of _ (by decide +kernel)) ggX5_cutNecks_X3_leaveOutBetween
theorem dX5_cutNecks_0 : decode cX5_cutNecks 0 = .ok (.iconst 0, 1) := by decide +kernel
theorem dX5_cutNecks_1 : decode cX5_cutNecks 1 = .ok (.istore_n 2, 1) := by decide +kernel
theorem dX5_cutNecks_2 : decode cX5_cutNecks 2 = .ok (.iload_n 2, 1) := by decide +kernel
theorem dX5_cutNecks_3 : decode cX5_cutNecks 3 = .ok (.iconst 3, 1) := by decide +kernel
theorem dX5_cutNecks_4 : decode cX5_cutNecks 4 = .ok (.iadd, 1) := by decide +kernel
theorem dX5_cutNecks_5 : decode cX5_cutNecks 5 = .ok (.aload_n 0, 1) := by decide +kernel
theorem dX5_cutNecks_6 : decode cX5_cutNecks 6 = .ok (.getfield 21, 3) := by decide +kernel
theorem dX5_cutNecks_9 : decode cX5_cutNecks 9 = .ok (.getfield 55, 3) := by decide +kernel
theorem dX5_cutNecks_12 : decode cX5_cutNecks 12 = .ok (.if_icmp .ge 55, 3) := by decide +kernel
theorem dX5_cutNecks_15 : decode cX5_cutNecks 15 = .ok (.aload_n 0, 1) := by decide +kernel
theorem dX5_cutNecks_16 : decode cX5_cutNecks 16 = .ok (.iload_n 2, 1) := by decide +kernel
theorem dX5_cutNecks_17 : decode cX5_cutNecks 17 = .ok (.iload_n 1, 1) := by decide +kernel
theorem dX5_cutNecks_18 : decode cX5_cutNecks 18 = .ok (.invokevirtual 56, 3) := by decide +kernel
theorem dX5_cutNecks_21 : decode cX5_cutNecks 21 = .ok (.istore_n 3, 1) := by decide +kernel
theorem dX5_cutNecks_22 : decode cX5_cutNecks 22 = .ok (.iload_n 3, 1) := by decide +kernel
theorem dX5_cutNecks_23 : decode cX5_cutNecks 23 = .ok (.iconst (-1), 1) := by decide +kernel
theorem dX5_cutNecks_24 : decode cX5_cutNecks 24 = .ok (.if_icmp .eq 37, 3) := by decide +kernel
theorem dX5_cutNecks_27 : decode cX5_cutNecks 27 = .ok (.aload_n 0, 1) := by decide +kernel
theorem dX5_cutNecks_28 : decode cX5_cutNecks 28 = .ok (.getfield 12, 3) := by decide +kernel
theorem dX5_cutNecks_31 : decode cX5_cutNecks 31 = .ok (.aload_n 0, 1) := by decide +kernel
theorem dX5_cutNecks_32 : decode cX5_cutNecks 32 = .ok (.getfield 36, 3) := by decide +kernel
theorem dX5_cutNecks_35 : decode cX5_cutNecks 35 = .ok (.iload_n 3, 1) := by decide +kernel
theorem dX5_cutNecks_36 : decode cX5_cutNecks 36 = .ok (.iload_n 2, 1) := by decide +kernel
theorem dX5_cutNecks_37 : decode cX5_cutNecks 37 = .ok (.isub, 1) := by decide +kernel
theorem dX5_cutNecks_38 : decode cX5_cutNecks 38 = .ok (.iconst 1, 1) := by decide +kernel
theorem dX5_cutNecks_39 : decode cX5_cutNecks 39 = .ok (.isub, 1) := by decide +kernel
theorem dX5_cutNecks_40 : decode cX5_cutNecks 40 = .ok (.aload_n 0, 1) := by decide +kernel
theorem dX5_cutNecks_41 : decode cX5_cutNecks 41 = .ok (.getfield 21, 3) := by decide +kernel
theorem dX5_cutNecks_44 : decode cX5_cutNecks 44 = .ok (.iload_n 2, 1) := by decide +kernel
theorem dX5_cutNecks_45 : decode cX5_cutNecks 45 = .ok (.iload_n 3, 1) := by decide +kernel
theorem dX5_cutNecks_46 : decode cX5_cutNecks 46 = .ok (.invokevirtual 60, 3) := by decide +kernel
theorem dX5_cutNecks_49 : decode cX5_cutNecks 49 = .ok (.invokevirtual 63, 3) := by decide +kernel
theorem dX5_cutNecks_52 : decode cX5_cutNecks 52 = .ok (.aload_n 0, 1) := by decide +kernel
theorem dX5_cutNecks_53 : decode cX5_cutNecks 53 = .ok (.getfield 21, 3) := by decide +kernel
theorem dX5_cutNecks_56 : decode cX5_cutNecks 56 = .ok (.iload_n 2, 1) := by decide +kernel
theorem dX5_cutNecks_57 : decode cX5_cutNecks 57 = .ok (.iload_n 3, 1) := by decide +kernel
theorem dX5_cutNecks_58 : decode cX5_cutNecks 58 = .ok (.invokevirtual 67, 3) := by decide +kernel
theorem dX5_cutNecks_61 : decode cX5_cutNecks 61 = .ok (.iinc 2 1, 3) := by decide +kernel
theorem dX5_cutNecks_64 : decode cX5_cutNecks 64 = .ok (.goto (-62), 3) := by decide +kernel
theorem dX5_cutNecks_67 : decode cX5_cutNecks 67 = .ok (.return_, 1) := by decide +kernel
set_option maxRecDepth 20000 in
theorem ggX5_farthestNeck_X3_isNear : GoodIn wsX5_farthestNeck wsX3_isNear := goodIn_r _ [13, 14, 15, 16, 5, 17, 18, 23, 24, 25] (by decide +kernel) (by decide +kernel)
set_option maxRecDepth 20000 in
theorem gX5_farthestNeck_X3_isNear : GoodIn wsX5_farthestNeck (wsV RX5 83 RX3 yX3_isNear wsX3_isNear) := goodIn_app (goodIn_of _ (by decide +kernel)) ggX5_farthestNeck_X3_isNear
theorem dX5_farthestNeck_0 : decode cX5_farthestNeck 0 = .ok (.aload_n 0, 1) := by decide +kernel
theorem dX5_farthestNeck_1 : decode cX5_farthestNeck 1 = .ok (.getfield 21, 3) := by decide +kernel
theorem dX5_farthestNeck_4 : decode cX5_farthestNeck 4 = .ok (.getfield 55, 3) := by decide +kernel
theorem dX5_farthestNeck_7 : decode cX5_farthestNeck 7 = .ok (.iconst 1, 1) := by decide +kernel
theorem dX5_farthestNeck_8 : decode cX5_farthestNeck 8 = .ok (.isub, 1) := by decide +kernel
theorem dX5_farthestNeck_9 : decode cX5_farthestNeck 9 = .ok (.aload_n 0, 1) := by decide +kernel
theorem dX5_farthestNeck_10 : decode cX5_farthestNeck 10 = .ok (.getfield 21, 3) := by decide +kernel
theorem dX5_farthestNeck_13 : decode cX5_farthestNeck 13 = .ok (.getfield 55, 3) := by decide +kernel
theorem dX5_farthestNeck_16 : decode cX5_farthestNeck 16 = .ok (.iconst 4, 1) := by decide +kernel
theorem dX5_farthestNeck_17 : decode cX5_farthestNeck 17 = .ok (.isub, 1) := by decide +kernel
theorem dX5_farthestNeck_18 : decode cX5_farthestNeck 18 = .ok (.iload_n 1, 1) := by decide +kernel
theorem dX5_farthestNeck_19 : decode cX5_farthestNeck 19 = .ok (.iadd, 1) := by decide +kernel
theorem dX5_farthestNeck_20 : decode cX5_farthestNeck 20 = .ok (.iconst 1, 1) := by decide +kernel
theorem dX5_farthestNeck_21 : decode cX5_farthestNeck 21 = .ok (.iadd, 1) := by decide +kernel
theorem dX5_farthestNeck_22 : decode cX5_farthestNeck 22 = .ok (.invokestatic 71, 3) := by decide +kernel
theorem dX5_farthestNeck_25 : decode cX5_farthestNeck 25 = .ok (.istore_n 3, 1) := by decide +kernel
theorem dX5_farthestNeck_26 : decode cX5_farthestNeck 26 = .ok (.iload_n 3, 1) := by decide +kernel
theorem dX5_farthestNeck_27 : decode cX5_farthestNeck 27 = .ok (.istore 4, 2) := by decide +kernel
theorem dX5_farthestNeck_29 : decode cX5_farthestNeck 29 = .ok (.iload 4, 2) := by decide +kernel
theorem dX5_farthestNeck_31 : decode cX5_farthestNeck 31 = .ok (.iload_n 1, 1) := by decide +kernel
theorem dX5_farthestNeck_32 : decode cX5_farthestNeck 32 = .ok (.iconst 3, 1) := by decide +kernel
theorem dX5_farthestNeck_33 : decode cX5_farthestNeck 33 = .ok (.iadd, 1) := by decide +kernel
theorem dX5_farthestNeck_34 : decode cX5_farthestNeck 34 = .ok (.if_icmp .lt 43, 3) := by decide +kernel
theorem dX5_farthestNeck_37 : decode cX5_farthestNeck 37 = .ok (.aload_n 0, 1) := by decide +kernel
theorem dX5_farthestNeck_38 : decode cX5_farthestNeck 38 = .ok (.getfield 21, 3) := by decide +kernel
theorem dX5_farthestNeck_41 : decode cX5_farthestNeck 41 = .ok (.iload 4, 2) := by decide +kernel
theorem dX5_farthestNeck_43 : decode cX5_farthestNeck 43 = .ok (.aload_n 0, 1) := by decide +kernel
theorem dX5_farthestNeck_44 : decode cX5_farthestNeck 44 = .ok (.getfield 21, 3) := by decide +kernel
theorem dX5_farthestNeck_47 : decode cX5_farthestNeck 47 = .ok (.getfield 76, 3) := by decide +kernel
theorem dX5_farthestNeck_50 : decode cX5_farthestNeck 50 = .ok (.iload_n 1, 1) := by decide +kernel
theorem dX5_farthestNeck_51 : decode cX5_farthestNeck 51 = .ok (.iaload, 1) := by decide +kernel
theorem dX5_farthestNeck_52 : decode cX5_farthestNeck 52 = .ok (.aload_n 0, 1) := by decide +kernel
theorem dX5_farthestNeck_53 : decode cX5_farthestNeck 53 = .ok (.getfield 21, 3) := by decide +kernel
theorem dX5_farthestNeck_56 : decode cX5_farthestNeck 56 = .ok (.getfield 80, 3) := by decide +kernel
theorem dX5_farthestNeck_59 : decode cX5_farthestNeck 59 = .ok (.iload_n 1, 1) := by decide +kernel
theorem dX5_farthestNeck_60 : decode cX5_farthestNeck 60 = .ok (.iaload, 1) := by decide +kernel
theorem dX5_farthestNeck_61 : decode cX5_farthestNeck 61 = .ok (.iload_n 2, 1) := by decide +kernel
theorem dX5_farthestNeck_62 : decode cX5_farthestNeck 62 = .ok (.invokevirtual 83, 3) := by decide +kernel
theorem dX5_farthestNeck_65 : decode cX5_farthestNeck 65 = .ok (.ifCond .eq 6, 3) := by decide +kernel
theorem dX5_farthestNeck_68 : decode cX5_farthestNeck 68 = .ok (.iload 4, 2) := by decide +kernel
theorem dX5_farthestNeck_70 : decode cX5_farthestNeck 70 = .ok (.ireturn, 1) := by decide +kernel
theorem dX5_farthestNeck_71 : decode cX5_farthestNeck 71 = .ok (.iinc 4 (-1), 3) := by decide +kernel
theorem dX5_farthestNeck_74 : decode cX5_farthestNeck 74 = .ok (.goto (-45), 3) := by decide +kernel
theorem dX5_farthestNeck_77 : decode cX5_farthestNeck 77 = .ok (.iconst (-1), 1) := by decide +kernel
theorem dX5_farthestNeck_78 : decode cX5_farthestNeck 78 = .ok (.ireturn, 1) := by decide +kernel
set_option maxRecDepth 20000 in
theorem ggX5_move_X6_bankAt : GoodIn wsX5_move wsX6_bankAt := goodIn_r _ [10, 11, 53, 54, 55, 56, 57, 58, 59] (by decide +kernel) (by decide +kernel)
set_option maxRecDepth 20000 in
theorem gX5_move_X6_bankAt : GoodIn wsX5_move (wsV RX5 87 RX6 yX6_bankAt wsX6_bankAt) := goodIn_app (goodIn_of _ (by decide +kernel)) ggX5_move_X6_bankAt
set_option maxRecDepth 20000 in
theorem ggX5_move_X5_moved : GoodIn wsX5_move wsX5_moved := goodIn_r _ [16, 17, 18, 19, 20, 21, 22, 15, 23, 1, 2, 24, 25, 26, 27, 28, 29, 30, 31, 32, 33, 53, 54, 55, 56, 57, 58, 59, 46, 47, 48, 49, 50, 51, 52] (by decide +kernel) (by decide +kernel)
set_option maxRecDepth 20000 in
theorem gX5_move_X5_moved : GoodIn wsX5_move (wsV RX5 90 RX5 yX5_moved wsX5_moved) := goodIn_app (goodIn_of _ (by decide +kernel)) ggX5_move_X5_moved
set_option maxRecDepth 20000 in
theorem ggX5_move_X3_add : GoodIn wsX5_move wsX3_add := goodIn_r _ [38, 39, 40, 41, 50, 51, 52] (by decide +kernel) (by decide +kernel)
set_option maxRecDepth 20000 in
theorem gX5_move_X3_add : GoodIn wsX5_move (wsV RX5 94 RX3 yX3_add wsX3_add) := goodIn_app (goodIn_of _ (by decide +kernel)) ggX5_move_X3_add
set_option maxRecDepth 20000 in
theorem ggX5_move_X5_takeSpare : GoodIn wsX5_move wsX5_takeSpare := goodIn_r _ [45, 1, 3, 46, 47, 48, 49] (by decide +kernel) (by decide +kernel)
set_option maxRecDepth 20000 in
theorem gX5_move_X5_takeSpare : GoodIn wsX5_move (wsV RX5 97 RX5 yX5_takeSpare wsX5_takeSpare) := goodIn_app (goodIn_of _ (by decide +kernel)) ggX5_move_X5_takeSpare
theorem dX5_move_0 : decode cX5_move 0 = .ok (.aload_n 0, 1) := by decide +kernel
theorem dX5_move_1 : decode cX5_move 1 = .ok (.getfield 21, 3) := by decide +kernel
theorem dX5_move_4 : decode cX5_move 4 = .ok (.getfield 55, 3) := by decide +kernel
theorem dX5_move_7 : decode cX5_move 7 = .ok (.iconst 1, 1) := by decide +kernel
theorem dX5_move_8 : decode cX5_move 8 = .ok (.isub, 1) := by decide +kernel
theorem dX5_move_9 : decode cX5_move 9 = .ok (.istore_n 3, 1) := by decide +kernel
theorem dX5_move_10 : decode cX5_move 10 = .ok (.aload_n 0, 1) := by decide +kernel
theorem dX5_move_11 : decode cX5_move 11 = .ok (.getfield 25, 3) := by decide +kernel
theorem dX5_move_14 : decode cX5_move 14 = .ok (.iconst 0, 1) := by decide +kernel
theorem dX5_move_15 : decode cX5_move 15 = .ok (.putfield 55, 3) := by decide +kernel
theorem dX5_move_18 : decode cX5_move 18 = .ok (.iconst 0, 1) := by decide +kernel
theorem dX5_move_19 : decode cX5_move 19 = .ok (.istore 4, 2) := by decide +kernel
theorem dX5_move_21 : decode cX5_move 21 = .ok (.iload 4, 2) := by decide +kernel
theorem dX5_move_23 : decode cX5_move 23 = .ok (.iload_n 3, 1) := by decide +kernel
theorem dX5_move_24 : decode cX5_move 24 = .ok (.if_icmp .gt 103, 3) := by decide +kernel
theorem dX5_move_27 : decode cX5_move 27 = .ok (.aload_n 0, 1) := by decide +kernel
theorem dX5_move_28 : decode cX5_move 28 = .ok (.getfield 21, 3) := by decide +kernel
theorem dX5_move_31 : decode cX5_move 31 = .ok (.getfield 76, 3) := by decide +kernel
theorem dX5_move_34 : decode cX5_move 34 = .ok (.iload 4, 2) := by decide +kernel
theorem dX5_move_36 : decode cX5_move 36 = .ok (.iaload, 1) := by decide +kernel
theorem dX5_move_37 : decode cX5_move 37 = .ok (.istore 5, 2) := by decide +kernel
theorem dX5_move_39 : decode cX5_move 39 = .ok (.aload_n 0, 1) := by decide +kernel
theorem dX5_move_40 : decode cX5_move 40 = .ok (.getfield 21, 3) := by decide +kernel
theorem dX5_move_43 : decode cX5_move 43 = .ok (.getfield 80, 3) := by decide +kernel
theorem dX5_move_46 : decode cX5_move 46 = .ok (.iload 4, 2) := by decide +kernel
theorem dX5_move_48 : decode cX5_move 48 = .ok (.iaload, 1) := by decide +kernel
theorem dX5_move_49 : decode cX5_move 49 = .ok (.istore 6, 2) := by decide +kernel
theorem dX5_move_51 : decode cX5_move 51 = .ok (.iload 4, 2) := by decide +kernel
theorem dX5_move_53 : decode cX5_move 53 = .ok (.ifCond .le 57, 3) := by decide +kernel
theorem dX5_move_56 : decode cX5_move 56 = .ok (.iload 4, 2) := by decide +kernel
theorem dX5_move_58 : decode cX5_move 58 = .ok (.iload_n 3, 1) := by decide +kernel
theorem dX5_move_59 : decode cX5_move 59 = .ok (.if_icmp .ge 51, 3) := by decide +kernel
theorem dX5_move_62 : decode cX5_move 62 = .ok (.iload_n 2, 1) := by decide +kernel
theorem dX5_move_63 : decode cX5_move 63 = .ok (.aload_n 1, 1) := by decide +kernel
theorem dX5_move_64 : decode cX5_move 64 = .ok (.iload 5, 2) := by decide +kernel
theorem dX5_move_66 : decode cX5_move 66 = .ok (.iload 6, 2) := by decide +kernel
theorem dX5_move_68 : decode cX5_move 68 = .ok (.invokevirtual 87, 3) := by decide +kernel
theorem dX5_move_71 : decode cX5_move 71 = .ok (.imul, 1) := by decide +kernel
theorem dX5_move_72 : decode cX5_move 72 = .ok (.istore 7, 2) := by decide +kernel
theorem dX5_move_74 : decode cX5_move 74 = .ok (.aload_n 0, 1) := by decide +kernel
theorem dX5_move_75 : decode cX5_move 75 = .ok (.aload_n 0, 1) := by decide +kernel
theorem dX5_move_76 : decode cX5_move 76 = .ok (.getfield 21, 3) := by decide +kernel
theorem dX5_move_79 : decode cX5_move 79 = .ok (.getfield 76, 3) := by decide +kernel
theorem dX5_move_82 : decode cX5_move 82 = .ok (.iload 4, 2) := by decide +kernel
theorem dX5_move_84 : decode cX5_move 84 = .ok (.aload_n 1, 1) := by decide +kernel
theorem dX5_move_85 : decode cX5_move 85 = .ok (.iload 7, 2) := by decide +kernel
theorem dX5_move_87 : decode cX5_move 87 = .ok (.invokevirtual 90, 3) := by decide +kernel
theorem dX5_move_90 : decode cX5_move 90 = .ok (.istore 5, 2) := by decide +kernel
theorem dX5_move_92 : decode cX5_move 92 = .ok (.aload_n 0, 1) := by decide +kernel
theorem dX5_move_93 : decode cX5_move 93 = .ok (.aload_n 0, 1) := by decide +kernel
theorem dX5_move_94 : decode cX5_move 94 = .ok (.getfield 21, 3) := by decide +kernel
theorem dX5_move_97 : decode cX5_move 97 = .ok (.getfield 80, 3) := by decide +kernel
theorem dX5_move_100 : decode cX5_move 100 = .ok (.iload 4, 2) := by decide +kernel
theorem dX5_move_102 : decode cX5_move 102 = .ok (.aload_n 1, 1) := by decide +kernel
theorem dX5_move_103 : decode cX5_move 103 = .ok (.iload 7, 2) := by decide +kernel
theorem dX5_move_105 : decode cX5_move 105 = .ok (.invokevirtual 90, 3) := by decide +kernel
theorem dX5_move_108 : decode cX5_move 108 = .ok (.istore 6, 2) := by decide +kernel
theorem dX5_move_110 : decode cX5_move 110 = .ok (.aload_n 0, 1) := by decide +kernel
theorem dX5_move_111 : decode cX5_move 111 = .ok (.getfield 25, 3) := by decide +kernel
theorem dX5_move_114 : decode cX5_move 114 = .ok (.iload 5, 2) := by decide +kernel
theorem dX5_move_116 : decode cX5_move 116 = .ok (.iload 6, 2) := by decide +kernel
theorem dX5_move_118 : decode cX5_move 118 = .ok (.invokevirtual 94, 3) := by decide +kernel
theorem dX5_move_121 : decode cX5_move 121 = .ok (.iinc 4 1, 3) := by decide +kernel
theorem dX5_move_124 : decode cX5_move 124 = .ok (.goto (-103), 3) := by decide +kernel
theorem dX5_move_127 : decode cX5_move 127 = .ok (.aload_n 0, 1) := by decide +kernel
theorem dX5_move_128 : decode cX5_move 128 = .ok (.invokevirtual 97, 3) := by decide +kernel
theorem dX5_move_131 : decode cX5_move 131 = .ok (.return_, 1) := by decide +kernel
set_option maxRecDepth 20000 in
theorem ggX5_moved_X5_bend : GoodIn wsX5_moved wsX5_bend := goodIn_r _ [8, 9, 10, 28, 29, 30, 31, 32, 33, 34] (by decide +kernel) (by decide +kernel)
set_option maxRecDepth 20000 in
theorem gX5_moved_X5_bend : GoodIn wsX5_moved (wsV RX5 103 RX5 yX5_bend wsX5_bend) := goodIn_app (goodIn_of _ (by decide +kernel)) ggX5_moved_X5_bend
set_option maxRecDepth 20000 in
theorem ggX5_moved_X8_clamp : GoodIn wsX5_moved wsX8_clamp := goodIn_r _ [13, 14, 15, 16, 17, 18, 19, 20] (by decide +kernel) (by decide +kernel)
set_option maxRecDepth 20000 in
theorem gX5_moved_X8_clamp_n113 : GoodIn wsX5_moved (wsX8_clamp) := ggX5_moved_X8_clamp
theorem dX5_moved_0 : decode cX5_moved 0 = .ok (.aload_n 3, 1) := by decide +kernel
theorem dX5_moved_1 : decode cX5_moved 1 = .ok (.getfield 100, 3) := by decide +kernel
theorem dX5_moved_4 : decode cX5_moved 4 = .ok (.aload_n 0, 1) := by decide +kernel
theorem dX5_moved_5 : decode cX5_moved 5 = .ok (.aload_n 1, 1) := by decide +kernel
theorem dX5_moved_6 : decode cX5_moved 6 = .ok (.iload_n 2, 1) := by decide +kernel
theorem dX5_moved_7 : decode cX5_moved 7 = .ok (.invokevirtual 103, 3) := by decide +kernel
theorem dX5_moved_10 : decode cX5_moved 10 = .ok (.imul, 1) := by decide +kernel
theorem dX5_moved_11 : decode cX5_moved 11 = .ok (.aload_n 3, 1) := by decide +kernel
theorem dX5_moved_12 : decode cX5_moved 12 = .ok (.getfield 107, 3) := by decide +kernel
theorem dX5_moved_15 : decode cX5_moved 15 = .ok (.aload_n 0, 1) := by decide +kernel
theorem dX5_moved_16 : decode cX5_moved 16 = .ok (.aload_n 1, 1) := by decide +kernel
theorem dX5_moved_17 : decode cX5_moved 17 = .ok (.iload_n 2, 1) := by decide +kernel
theorem dX5_moved_18 : decode cX5_moved 18 = .ok (.iconst 1, 1) := by decide +kernel
theorem dX5_moved_19 : decode cX5_moved 19 = .ok (.isub, 1) := by decide +kernel
theorem dX5_moved_20 : decode cX5_moved 20 = .ok (.invokevirtual 103, 3) := by decide +kernel
theorem dX5_moved_23 : decode cX5_moved 23 = .ok (.imul, 1) := by decide +kernel
theorem dX5_moved_24 : decode cX5_moved 24 = .ok (.iadd, 1) := by decide +kernel
theorem dX5_moved_25 : decode cX5_moved 25 = .ok (.aload_n 3, 1) := by decide +kernel
theorem dX5_moved_26 : decode cX5_moved 26 = .ok (.getfield 110, 3) := by decide +kernel
theorem dX5_moved_29 : decode cX5_moved 29 = .ok (.aload_n 0, 1) := by decide +kernel
theorem dX5_moved_30 : decode cX5_moved 30 = .ok (.aload_n 1, 1) := by decide +kernel
theorem dX5_moved_31 : decode cX5_moved 31 = .ok (.iload_n 2, 1) := by decide +kernel
theorem dX5_moved_32 : decode cX5_moved 32 = .ok (.iconst 2, 1) := by decide +kernel
theorem dX5_moved_33 : decode cX5_moved 33 = .ok (.isub, 1) := by decide +kernel
theorem dX5_moved_34 : decode cX5_moved 34 = .ok (.invokevirtual 103, 3) := by decide +kernel
theorem dX5_moved_37 : decode cX5_moved 37 = .ok (.imul, 1) := by decide +kernel
theorem dX5_moved_38 : decode cX5_moved 38 = .ok (.iadd, 1) := by decide +kernel
theorem dX5_moved_39 : decode cX5_moved 39 = .ok (.istore 5, 2) := by decide +kernel
theorem dX5_moved_41 : decode cX5_moved 41 = .ok (.iload 5, 2) := by decide +kernel
theorem dX5_moved_43 : decode cX5_moved 43 = .ok (.iload 4, 2) := by decide +kernel
theorem dX5_moved_45 : decode cX5_moved 45 = .ok (.imul, 1) := by decide +kernel
theorem dX5_moved_46 : decode cX5_moved 46 = .ok (.sipush 10000, 3) := by decide +kernel
theorem dX5_moved_49 : decode cX5_moved 49 = .ok (.idiv, 1) := by decide +kernel
theorem dX5_moved_50 : decode cX5_moved 50 = .ok (.bipush (-8), 2) := by decide +kernel
theorem dX5_moved_52 : decode cX5_moved 52 = .ok (.bipush 8, 2) := by decide +kernel
theorem dX5_moved_54 : decode cX5_moved 54 = .ok (.invokestatic 113, 3) := by decide +kernel
theorem dX5_moved_57 : decode cX5_moved 57 = .ok (.istore 6, 2) := by decide +kernel
theorem dX5_moved_59 : decode cX5_moved 59 = .ok (.aload_n 1, 1) := by decide +kernel
theorem dX5_moved_60 : decode cX5_moved 60 = .ok (.iload_n 2, 1) := by decide +kernel
theorem dX5_moved_61 : decode cX5_moved 61 = .ok (.iaload, 1) := by decide +kernel
theorem dX5_moved_62 : decode cX5_moved 62 = .ok (.iload 6, 2) := by decide +kernel
theorem dX5_moved_64 : decode cX5_moved 64 = .ok (.isub, 1) := by decide +kernel
theorem dX5_moved_65 : decode cX5_moved 65 = .ok (.iconst 0, 1) := by decide +kernel
theorem dX5_moved_66 : decode cX5_moved 66 = .ok (.sipush 511, 3) := by decide +kernel
theorem dX5_moved_69 : decode cX5_moved 69 = .ok (.invokestatic 113, 3) := by decide +kernel
theorem dX5_moved_72 : decode cX5_moved 72 = .ok (.ireturn, 1) := by decide +kernel
theorem dX5_bend_0 : decode cX5_bend 0 = .ok (.iload_n 2, 1) := by decide +kernel
theorem dX5_bend_1 : decode cX5_bend 1 = .ok (.iconst 1, 1) := by decide +kernel
theorem dX5_bend_2 : decode cX5_bend 2 = .ok (.if_icmp .lt 16, 3) := by decide +kernel
theorem dX5_bend_5 : decode cX5_bend 5 = .ok (.iload_n 2, 1) := by decide +kernel
theorem dX5_bend_6 : decode cX5_bend 6 = .ok (.aload_n 0, 1) := by decide +kernel
theorem dX5_bend_7 : decode cX5_bend 7 = .ok (.getfield 21, 3) := by decide +kernel
theorem dX5_bend_10 : decode cX5_bend 10 = .ok (.getfield 55, 3) := by decide +kernel
theorem dX5_bend_13 : decode cX5_bend 13 = .ok (.iconst 2, 1) := by decide +kernel
theorem dX5_bend_14 : decode cX5_bend 14 = .ok (.isub, 1) := by decide +kernel
theorem dX5_bend_15 : decode cX5_bend 15 = .ok (.if_icmp .le 5, 3) := by decide +kernel
theorem dX5_bend_18 : decode cX5_bend 18 = .ok (.iconst 0, 1) := by decide +kernel
theorem dX5_bend_19 : decode cX5_bend 19 = .ok (.ireturn, 1) := by decide +kernel
theorem dX5_bend_20 : decode cX5_bend 20 = .ok (.aload_n 1, 1) := by decide +kernel
theorem dX5_bend_21 : decode cX5_bend 21 = .ok (.iload_n 2, 1) := by decide +kernel
theorem dX5_bend_22 : decode cX5_bend 22 = .ok (.iconst 1, 1) := by decide +kernel
theorem dX5_bend_23 : decode cX5_bend 23 = .ok (.isub, 1) := by decide +kernel
theorem dX5_bend_24 : decode cX5_bend 24 = .ok (.iaload, 1) := by decide +kernel
theorem dX5_bend_25 : decode cX5_bend 25 = .ok (.aload_n 1, 1) := by decide +kernel
theorem dX5_bend_26 : decode cX5_bend 26 = .ok (.iload_n 2, 1) := by decide +kernel
theorem dX5_bend_27 : decode cX5_bend 27 = .ok (.iconst 1, 1) := by decide +kernel
theorem dX5_bend_28 : decode cX5_bend 28 = .ok (.iadd, 1) := by decide +kernel
theorem dX5_bend_29 : decode cX5_bend 29 = .ok (.iaload, 1) := by decide +kernel
theorem dX5_bend_30 : decode cX5_bend 30 = .ok (.iadd, 1) := by decide +kernel
theorem dX5_bend_31 : decode cX5_bend 31 = .ok (.iconst 2, 1) := by decide +kernel
theorem dX5_bend_32 : decode cX5_bend 32 = .ok (.aload_n 1, 1) := by decide +kernel
theorem dX5_bend_33 : decode cX5_bend 33 = .ok (.iload_n 2, 1) := by decide +kernel
theorem dX5_bend_34 : decode cX5_bend 34 = .ok (.iaload, 1) := by decide +kernel
theorem dX5_bend_35 : decode cX5_bend 35 = .ok (.imul, 1) := by decide +kernel
theorem dX5_bend_36 : decode cX5_bend 36 = .ok (.isub, 1) := by decide +kernel
theorem dX5_bend_37 : decode cX5_bend 37 = .ok (.ireturn, 1) := by decide +kernel
set_option maxRecDepth 20000 in
theorem ggX5_leaveOutClose_X5_isCloseToKept : GoodIn wsX5_leaveOutClose wsX5_isCloseToKept := goodIn_r _ [10, 3, 2, 11, 12, 13, 14, 15, 16, 17, 18, 19, 20, 21, 31, 32, 33, 34, 35, 36, 37] (by decide +kernel) (by decide +kernel)
set_option maxRecDepth 20000 in
theorem gX5_leaveOutClose_X5_isCloseToKept : GoodIn wsX5_leaveOutClose (wsV RX5 117 RX5 yX5_isCloseToKept wsX5_isCloseToKept) := goodIn_app (goodIn_of _ (by decide +kernel)) ggX5_leaveOutClose_X5_isCloseToKept
set_option maxRecDepth 20000 in
theorem ggX5_leaveOutClose_X3_add : GoodIn wsX5_leaveOutClose wsX3_add := goodIn_r _ [25, 26, 16, 21, 35, 36, 37] (by decide +kernel) (by decide +kernel)
set_option maxRecDepth 20000 in
theorem gX5_leaveOutClose_X3_add : GoodIn wsX5_leaveOutClose (wsV RX5 94 RX3 yX3_add wsX3_add) := goodIn_app (goodIn_of _ (by decide +kernel)) ggX5_leaveOutClose_X3_add
set_option maxRecDepth 20000 in
theorem ggX5_leaveOutClose_X5_takeSpare : GoodIn wsX5_leaveOutClose wsX5_takeSpare := goodIn_r _ [30, 1, 3, 31, 32, 33, 34] (by decide +kernel) (by decide +kernel)
set_option maxRecDepth 20000 in
theorem gX5_leaveOutClose_X5_takeSpare : GoodIn wsX5_leaveOutClose (wsV RX5 97 RX5 yX5_takeSpare wsX5_takeSpare) := goodIn_app (goodIn_of _ (by decide +kernel)) ggX5_leaveOutClose_X5_takeSpare
theorem dX5_leaveOutClose_0 : decode cX5_leaveOutClose 0 = .ok (.aload_n 0, 1) := by decide +kernel
theorem dX5_leaveOutClose_1 : decode cX5_leaveOutClose 1 = .ok (.getfield 21, 3) := by decide +kernel
theorem dX5_leaveOutClose_4 : decode cX5_leaveOutClose 4 = .ok (.getfield 55, 3) := by decide +kernel
theorem dX5_leaveOutClose_7 : decode cX5_leaveOutClose 7 = .ok (.iconst 1, 1) := by decide +kernel
theorem dX5_leaveOutClose_8 : decode cX5_leaveOutClose 8 = .ok (.isub, 1) := by decide +kernel
theorem dX5_leaveOutClose_9 : decode cX5_leaveOutClose 9 = .ok (.istore_n 1, 1) := by decide +kernel
theorem dX5_leaveOutClose_10 : decode cX5_leaveOutClose 10 = .ok (.aload_n 0, 1) := by decide +kernel
theorem dX5_leaveOutClose_11 : decode cX5_leaveOutClose 11 = .ok (.getfield 21, 3) := by decide +kernel
theorem dX5_leaveOutClose_14 : decode cX5_leaveOutClose 14 = .ok (.getfield 55, 3) := by decide +kernel
theorem dX5_leaveOutClose_17 : decode cX5_leaveOutClose 17 = .ok (.istore_n 2, 1) := by decide +kernel
theorem dX5_leaveOutClose_18 : decode cX5_leaveOutClose 18 = .ok (.aload_n 0, 1) := by decide +kernel
theorem dX5_leaveOutClose_19 : decode cX5_leaveOutClose 19 = .ok (.getfield 25, 3) := by decide +kernel
theorem dX5_leaveOutClose_22 : decode cX5_leaveOutClose 22 = .ok (.iconst 0, 1) := by decide +kernel
theorem dX5_leaveOutClose_23 : decode cX5_leaveOutClose 23 = .ok (.putfield 55, 3) := by decide +kernel
theorem dX5_leaveOutClose_26 : decode cX5_leaveOutClose 26 = .ok (.iconst 0, 1) := by decide +kernel
theorem dX5_leaveOutClose_27 : decode cX5_leaveOutClose 27 = .ok (.istore_n 3, 1) := by decide +kernel
theorem dX5_leaveOutClose_28 : decode cX5_leaveOutClose 28 = .ok (.iload_n 3, 1) := by decide +kernel
theorem dX5_leaveOutClose_29 : decode cX5_leaveOutClose 29 = .ok (.iload_n 1, 1) := by decide +kernel
theorem dX5_leaveOutClose_30 : decode cX5_leaveOutClose 30 = .ok (.if_icmp .gt 91, 3) := by decide +kernel
theorem dX5_leaveOutClose_33 : decode cX5_leaveOutClose 33 = .ok (.iload_n 3, 1) := by decide +kernel
theorem dX5_leaveOutClose_34 : decode cX5_leaveOutClose 34 = .ok (.ifCond .le 12, 3) := by decide +kernel
theorem dX5_leaveOutClose_37 : decode cX5_leaveOutClose 37 = .ok (.iload_n 3, 1) := by decide +kernel
theorem dX5_leaveOutClose_38 : decode cX5_leaveOutClose 38 = .ok (.iload_n 1, 1) := by decide +kernel
theorem dX5_leaveOutClose_39 : decode cX5_leaveOutClose 39 = .ok (.if_icmp .ge 7, 3) := by decide +kernel
theorem dX5_leaveOutClose_42 : decode cX5_leaveOutClose 42 = .ok (.iconst 1, 1) := by decide +kernel
theorem dX5_leaveOutClose_43 : decode cX5_leaveOutClose 43 = .ok (.goto 4, 3) := by decide +kernel
theorem dX5_leaveOutClose_46 : decode cX5_leaveOutClose 46 = .ok (.iconst 0, 1) := by decide +kernel
theorem dX5_leaveOutClose_47 : decode cX5_leaveOutClose 47 = .ok (.istore 4, 2) := by decide +kernel
theorem dX5_leaveOutClose_49 : decode cX5_leaveOutClose 49 = .ok (.iload 4, 2) := by decide +kernel
theorem dX5_leaveOutClose_51 : decode cX5_leaveOutClose 51 = .ok (.ifCond .eq 39, 3) := by decide +kernel
theorem dX5_leaveOutClose_54 : decode cX5_leaveOutClose 54 = .ok (.iload_n 2, 1) := by decide +kernel
theorem dX5_leaveOutClose_55 : decode cX5_leaveOutClose 55 = .ok (.iconst 4, 1) := by decide +kernel
theorem dX5_leaveOutClose_56 : decode cX5_leaveOutClose 56 = .ok (.if_icmp .le 34, 3) := by decide +kernel
theorem dX5_leaveOutClose_59 : decode cX5_leaveOutClose 59 = .ok (.aload_n 0, 1) := by decide +kernel
theorem dX5_leaveOutClose_60 : decode cX5_leaveOutClose 60 = .ok (.aload_n 0, 1) := by decide +kernel
theorem dX5_leaveOutClose_61 : decode cX5_leaveOutClose 61 = .ok (.getfield 21, 3) := by decide +kernel
theorem dX5_leaveOutClose_64 : decode cX5_leaveOutClose 64 = .ok (.getfield 76, 3) := by decide +kernel
theorem dX5_leaveOutClose_67 : decode cX5_leaveOutClose 67 = .ok (.iload_n 3, 1) := by decide +kernel
theorem dX5_leaveOutClose_68 : decode cX5_leaveOutClose 68 = .ok (.iaload, 1) := by decide +kernel
theorem dX5_leaveOutClose_69 : decode cX5_leaveOutClose 69 = .ok (.aload_n 0, 1) := by decide +kernel
theorem dX5_leaveOutClose_70 : decode cX5_leaveOutClose 70 = .ok (.getfield 21, 3) := by decide +kernel
theorem dX5_leaveOutClose_73 : decode cX5_leaveOutClose 73 = .ok (.getfield 80, 3) := by decide +kernel
theorem dX5_leaveOutClose_76 : decode cX5_leaveOutClose 76 = .ok (.iload_n 3, 1) := by decide +kernel
theorem dX5_leaveOutClose_77 : decode cX5_leaveOutClose 77 = .ok (.iaload, 1) := by decide +kernel
theorem dX5_leaveOutClose_78 : decode cX5_leaveOutClose 78 = .ok (.invokevirtual 117, 3) := by decide +kernel
theorem dX5_leaveOutClose_81 : decode cX5_leaveOutClose 81 = .ok (.ifCond .eq 9, 3) := by decide +kernel
theorem dX5_leaveOutClose_84 : decode cX5_leaveOutClose 84 = .ok (.iinc 2 (-1), 3) := by decide +kernel
theorem dX5_leaveOutClose_87 : decode cX5_leaveOutClose 87 = .ok (.goto 28, 3) := by decide +kernel
theorem dX5_leaveOutClose_90 : decode cX5_leaveOutClose 90 = .ok (.aload_n 0, 1) := by decide +kernel
theorem dX5_leaveOutClose_91 : decode cX5_leaveOutClose 91 = .ok (.getfield 25, 3) := by decide +kernel
theorem dX5_leaveOutClose_94 : decode cX5_leaveOutClose 94 = .ok (.aload_n 0, 1) := by decide +kernel
theorem dX5_leaveOutClose_95 : decode cX5_leaveOutClose 95 = .ok (.getfield 21, 3) := by decide +kernel
theorem dX5_leaveOutClose_98 : decode cX5_leaveOutClose 98 = .ok (.getfield 76, 3) := by decide +kernel
theorem dX5_leaveOutClose_101 : decode cX5_leaveOutClose 101 = .ok (.iload_n 3, 1) := by decide +kernel
theorem dX5_leaveOutClose_102 : decode cX5_leaveOutClose 102 = .ok (.iaload, 1) := by decide +kernel
theorem dX5_leaveOutClose_103 : decode cX5_leaveOutClose 103 = .ok (.aload_n 0, 1) := by decide +kernel
theorem dX5_leaveOutClose_104 : decode cX5_leaveOutClose 104 = .ok (.getfield 21, 3) := by decide +kernel
theorem dX5_leaveOutClose_107 : decode cX5_leaveOutClose 107 = .ok (.getfield 80, 3) := by decide +kernel
theorem dX5_leaveOutClose_110 : decode cX5_leaveOutClose 110 = .ok (.iload_n 3, 1) := by decide +kernel
theorem dX5_leaveOutClose_111 : decode cX5_leaveOutClose 111 = .ok (.iaload, 1) := by decide +kernel
theorem dX5_leaveOutClose_112 : decode cX5_leaveOutClose 112 = .ok (.invokevirtual 94, 3) := by decide +kernel
theorem dX5_leaveOutClose_115 : decode cX5_leaveOutClose 115 = .ok (.iinc 3 1, 3) := by decide +kernel
theorem dX5_leaveOutClose_118 : decode cX5_leaveOutClose 118 = .ok (.goto (-90), 3) := by decide +kernel
theorem dX5_leaveOutClose_121 : decode cX5_leaveOutClose 121 = .ok (.aload_n 0, 1) := by decide +kernel
theorem dX5_leaveOutClose_122 : decode cX5_leaveOutClose 122 = .ok (.invokevirtual 97, 3) := by decide +kernel
theorem dX5_leaveOutClose_125 : decode cX5_leaveOutClose 125 = .ok (.return_, 1) := by decide +kernel
set_option maxRecDepth 20000 in
theorem ggX5_isCloseToKept_X3_isNear : GoodIn wsX5_isCloseToKept wsX3_isNear := goodIn_r _ [7, 8, 9, 10, 11, 12, 13, 18, 19, 20] (by decide +kernel) (by decide +kernel)
set_option maxRecDepth 20000 in
theorem gX5_isCloseToKept_X3_isNear : GoodIn wsX5_isCloseToKept (wsV RX5 83 RX3 yX3_isNear wsX3_isNear) := goodIn_app (goodIn_of _ (by decide +kernel)) ggX5_isCloseToKept_X3_isNear
theorem dX5_isCloseToKept_0 : decode cX5_isCloseToKept 0 = .ok (.aload_n 0, 1) := by decide +kernel
theorem dX5_isCloseToKept_1 : decode cX5_isCloseToKept 1 = .ok (.getfield 25, 3) := by decide +kernel
theorem dX5_isCloseToKept_4 : decode cX5_isCloseToKept 4 = .ok (.getfield 55, 3) := by decide +kernel
theorem dX5_isCloseToKept_7 : decode cX5_isCloseToKept 7 = .ok (.ifCond .le 29, 3) := by decide +kernel
theorem dX5_isCloseToKept_10 : decode cX5_isCloseToKept 10 = .ok (.aload_n 0, 1) := by decide +kernel
theorem dX5_isCloseToKept_11 : decode cX5_isCloseToKept 11 = .ok (.getfield 25, 3) := by decide +kernel
theorem dX5_isCloseToKept_14 : decode cX5_isCloseToKept 14 = .ok (.aload_n 0, 1) := by decide +kernel
theorem dX5_isCloseToKept_15 : decode cX5_isCloseToKept 15 = .ok (.getfield 25, 3) := by decide +kernel
theorem dX5_isCloseToKept_18 : decode cX5_isCloseToKept 18 = .ok (.getfield 55, 3) := by decide +kernel
theorem dX5_isCloseToKept_21 : decode cX5_isCloseToKept 21 = .ok (.iconst 1, 1) := by decide +kernel
theorem dX5_isCloseToKept_22 : decode cX5_isCloseToKept 22 = .ok (.isub, 1) := by decide +kernel
theorem dX5_isCloseToKept_23 : decode cX5_isCloseToKept 23 = .ok (.iload_n 1, 1) := by decide +kernel
theorem dX5_isCloseToKept_24 : decode cX5_isCloseToKept 24 = .ok (.iload_n 2, 1) := by decide +kernel
theorem dX5_isCloseToKept_25 : decode cX5_isCloseToKept 25 = .ok (.iconst 3, 1) := by decide +kernel
theorem dX5_isCloseToKept_26 : decode cX5_isCloseToKept 26 = .ok (.invokevirtual 83, 3) := by decide +kernel
theorem dX5_isCloseToKept_29 : decode cX5_isCloseToKept 29 = .ok (.ifCond .eq 7, 3) := by decide +kernel
theorem dX5_isCloseToKept_32 : decode cX5_isCloseToKept 32 = .ok (.iconst 1, 1) := by decide +kernel
theorem dX5_isCloseToKept_33 : decode cX5_isCloseToKept 33 = .ok (.goto 4, 3) := by decide +kernel
theorem dX5_isCloseToKept_36 : decode cX5_isCloseToKept 36 = .ok (.iconst 0, 1) := by decide +kernel
theorem dX5_isCloseToKept_37 : decode cX5_isCloseToKept 37 = .ok (.ireturn, 1) := by decide +kernel
set_option maxRecDepth 20000 in
theorem ggX5_fillLong_X3_isNear : GoodIn wsX5_fillLong wsX3_isNear := goodIn_r _ [10, 11, 12, 13, 14, 15, 16, 31, 32, 33] (by decide +kernel) (by decide +kernel)
set_option maxRecDepth 20000 in
theorem gX5_fillLong_X3_isNear : GoodIn wsX5_fillLong (wsV RX5 83 RX3 yX3_isNear wsX3_isNear) := goodIn_app (goodIn_of _ (by decide +kernel)) ggX5_fillLong_X3_isNear
