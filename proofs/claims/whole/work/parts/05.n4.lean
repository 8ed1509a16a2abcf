theorem dX9_meet_80 : decode cX9_meet 80 = .ok (.imul, 1) := by decide +kernel
theorem dX9_meet_81 : decode cX9_meet 81 = .ok (.ifCond .ge 7, 3) := by decide +kernel
theorem dX9_meet_84 : decode cX9_meet 84 = .ok (.iconst 1, 1) := by decide +kernel
theorem dX9_meet_85 : decode cX9_meet 85 = .ok (.goto 4, 3) := by decide +kernel
theorem dX9_meet_88 : decode cX9_meet 88 = .ok (.iconst 0, 1) := by decide +kernel
theorem dX9_meet_89 : decode cX9_meet 89 = .ok (.ireturn, 1) := by decide +kernel
set_option maxRecDepth 20000 in
theorem ggX9_crossings_X9_meet : GoodIn wsX9_crossings wsX9_meet := goodIn_r _ [7, 8, 9, 10, 6, 11, 12, 13, 14, 15, 16, 17, 18, 19, 20, 21, 22, 23, 24, 25, 26, 27, 28, 29, 30, 31, 32, 33, 34, 35, 36, 37, 38, 39, 40, 41, 42, 43, 44, 45, 46, 47, 48, 49, 50, 51, 52, 53, 54, 55, 56] (by decide +kernel) (by decide +kernel)
set_option maxRecDepth 20000 in
theorem gX9_crossings_X9_meet : GoodIn wsX9_crossings (wsV RX9 179 RX9 yX9_meet wsX9_meet) := goodIn_app (goodIn_of _ (by decide +kernel)) ggX9_crossings_X9_meet
theorem dX9_crossings_0 : decode cX9_crossings 0 = .ok (.aload_n 0, 1) := by decide +kernel
theorem dX9_crossings_1 : decode cX9_crossings 1 = .ok (.iconst 0, 1) := by decide +kernel
theorem dX9_crossings_2 : decode cX9_crossings 2 = .ok (.putfield 1, 3) := by decide +kernel
theorem dX9_crossings_5 : decode cX9_crossings 5 = .ok (.iconst 0, 1) := by decide +kernel
theorem dX9_crossings_6 : decode cX9_crossings 6 = .ok (.istore_n 1, 1) := by decide +kernel
theorem dX9_crossings_7 : decode cX9_crossings 7 = .ok (.iconst 0, 1) := by decide +kernel
theorem dX9_crossings_8 : decode cX9_crossings 8 = .ok (.istore_n 2, 1) := by decide +kernel
theorem dX9_crossings_9 : decode cX9_crossings 9 = .ok (.iload_n 2, 1) := by decide +kernel
theorem dX9_crossings_10 : decode cX9_crossings 10 = .ok (.aload_n 0, 1) := by decide +kernel
theorem dX9_crossings_11 : decode cX9_crossings 11 = .ok (.getfield 34, 3) := by decide +kernel
theorem dX9_crossings_14 : decode cX9_crossings 14 = .ok (.iconst 0, 1) := by decide +kernel
theorem dX9_crossings_15 : decode cX9_crossings 15 = .ok (.iaload, 1) := by decide +kernel
theorem dX9_crossings_16 : decode cX9_crossings 16 = .ok (.iconst 1, 1) := by decide +kernel
theorem dX9_crossings_17 : decode cX9_crossings 17 = .ok (.isub, 1) := by decide +kernel
theorem dX9_crossings_18 : decode cX9_crossings 18 = .ok (.if_icmp .ge 54, 3) := by decide +kernel
theorem dX9_crossings_21 : decode cX9_crossings 21 = .ok (.iload_n 2, 1) := by decide +kernel
theorem dX9_crossings_22 : decode cX9_crossings 22 = .ok (.iconst 2, 1) := by decide +kernel
theorem dX9_crossings_23 : decode cX9_crossings 23 = .ok (.iadd, 1) := by decide +kernel
theorem dX9_crossings_24 : decode cX9_crossings 24 = .ok (.istore_n 3, 1) := by decide +kernel
theorem dX9_crossings_25 : decode cX9_crossings 25 = .ok (.iload_n 3, 1) := by decide +kernel
theorem dX9_crossings_26 : decode cX9_crossings 26 = .ok (.aload_n 0, 1) := by decide +kernel
theorem dX9_crossings_27 : decode cX9_crossings 27 = .ok (.getfield 34, 3) := by decide +kernel
theorem dX9_crossings_30 : decode cX9_crossings 30 = .ok (.iconst 0, 1) := by decide +kernel
theorem dX9_crossings_31 : decode cX9_crossings 31 = .ok (.iaload, 1) := by decide +kernel
theorem dX9_crossings_32 : decode cX9_crossings 32 = .ok (.iconst 1, 1) := by decide +kernel
theorem dX9_crossings_33 : decode cX9_crossings 33 = .ok (.isub, 1) := by decide +kernel
theorem dX9_crossings_34 : decode cX9_crossings 34 = .ok (.if_icmp .ge 32, 3) := by decide +kernel
theorem dX9_crossings_37 : decode cX9_crossings 37 = .ok (.iload_n 1, 1) := by decide +kernel
theorem dX9_crossings_38 : decode cX9_crossings 38 = .ok (.aload_n 0, 1) := by decide +kernel
theorem dX9_crossings_39 : decode cX9_crossings 39 = .ok (.iload_n 2, 1) := by decide +kernel
theorem dX9_crossings_40 : decode cX9_crossings 40 = .ok (.iload_n 2, 1) := by decide +kernel
theorem dX9_crossings_41 : decode cX9_crossings 41 = .ok (.iconst 1, 1) := by decide +kernel
theorem dX9_crossings_42 : decode cX9_crossings 42 = .ok (.iadd, 1) := by decide +kernel
theorem dX9_crossings_43 : decode cX9_crossings 43 = .ok (.iload_n 3, 1) := by decide +kernel
theorem dX9_crossings_44 : decode cX9_crossings 44 = .ok (.iload_n 3, 1) := by decide +kernel
theorem dX9_crossings_45 : decode cX9_crossings 45 = .ok (.iconst 1, 1) := by decide +kernel
theorem dX9_crossings_46 : decode cX9_crossings 46 = .ok (.iadd, 1) := by decide +kernel
theorem dX9_crossings_47 : decode cX9_crossings 47 = .ok (.invokevirtual 179, 3) := by decide +kernel
theorem dX9_crossings_50 : decode cX9_crossings 50 = .ok (.ifCond .eq 7, 3) := by decide +kernel
theorem dX9_crossings_53 : decode cX9_crossings 53 = .ok (.iconst 1, 1) := by decide +kernel
theorem dX9_crossings_54 : decode cX9_crossings 54 = .ok (.goto 4, 3) := by decide +kernel
theorem dX9_crossings_57 : decode cX9_crossings 57 = .ok (.iconst 0, 1) := by decide +kernel
theorem dX9_crossings_58 : decode cX9_crossings 58 = .ok (.iadd, 1) := by decide +kernel
theorem dX9_crossings_59 : decode cX9_crossings 59 = .ok (.istore_n 1, 1) := by decide +kernel
theorem dX9_crossings_60 : decode cX9_crossings 60 = .ok (.iinc 3 1, 3) := by decide +kernel
theorem dX9_crossings_63 : decode cX9_crossings 63 = .ok (.goto (-38), 3) := by decide +kernel
theorem dX9_crossings_66 : decode cX9_crossings 66 = .ok (.iinc 2 1, 3) := by decide +kernel
theorem dX9_crossings_69 : decode cX9_crossings 69 = .ok (.goto (-60), 3) := by decide +kernel
theorem dX9_crossings_72 : decode cX9_crossings 72 = .ok (.iload_n 1, 1) := by decide +kernel
theorem dX9_crossings_73 : decode cX9_crossings 73 = .ok (.ireturn, 1) := by decide +kernel
theorem dX9_sideOf_0 : decode cX9_sideOf 0 = .ok (.iconst 0, 1) := by decide +kernel
theorem dX9_sideOf_1 : decode cX9_sideOf 1 = .ok (.istore 4, 2) := by decide +kernel
theorem dX9_sideOf_3 : decode cX9_sideOf 3 = .ok (.iconst 0, 1) := by decide +kernel
theorem dX9_sideOf_4 : decode cX9_sideOf 4 = .ok (.istore 5, 2) := by decide +kernel
theorem dX9_sideOf_6 : decode cX9_sideOf 6 = .ok (.iload 5, 2) := by decide +kernel
theorem dX9_sideOf_8 : decode cX9_sideOf 8 = .ok (.aload_n 0, 1) := by decide +kernel
theorem dX9_sideOf_9 : decode cX9_sideOf 9 = .ok (.getfield 34, 3) := by decide +kernel
theorem dX9_sideOf_12 : decode cX9_sideOf 12 = .ok (.iload_n 1, 1) := by decide +kernel
theorem dX9_sideOf_13 : decode cX9_sideOf 13 = .ok (.iaload, 1) := by decide +kernel
theorem dX9_sideOf_14 : decode cX9_sideOf 14 = .ok (.iconst 1, 1) := by decide +kernel
theorem dX9_sideOf_15 : decode cX9_sideOf 15 = .ok (.isub, 1) := by decide +kernel
theorem dX9_sideOf_16 : decode cX9_sideOf 16 = .ok (.if_icmp .ge 169, 3) := by decide +kernel
theorem dX9_sideOf_19 : decode cX9_sideOf 19 = .ok (.bipush 48, 2) := by decide +kernel
theorem dX9_sideOf_21 : decode cX9_sideOf 21 = .ok (.iload_n 1, 1) := by decide +kernel
theorem dX9_sideOf_22 : decode cX9_sideOf 22 = .ok (.imul, 1) := by decide +kernel
theorem dX9_sideOf_23 : decode cX9_sideOf 23 = .ok (.iload 5, 2) := by decide +kernel
theorem dX9_sideOf_25 : decode cX9_sideOf 25 = .ok (.iadd, 1) := by decide +kernel
theorem dX9_sideOf_26 : decode cX9_sideOf 26 = .ok (.istore 6, 2) := by decide +kernel
theorem dX9_sideOf_28 : decode cX9_sideOf 28 = .ok (.aload_n 0, 1) := by decide +kernel
theorem dX9_sideOf_29 : decode cX9_sideOf 29 = .ok (.getfield 27, 3) := by decide +kernel
theorem dX9_sideOf_32 : decode cX9_sideOf 32 = .ok (.iload 6, 2) := by decide +kernel
theorem dX9_sideOf_34 : decode cX9_sideOf 34 = .ok (.iaload, 1) := by decide +kernel
theorem dX9_sideOf_35 : decode cX9_sideOf 35 = .ok (.aload_n 0, 1) := by decide +kernel
theorem dX9_sideOf_36 : decode cX9_sideOf 36 = .ok (.getfield 27, 3) := by decide +kernel
theorem dX9_sideOf_39 : decode cX9_sideOf 39 = .ok (.iload 6, 2) := by decide +kernel
theorem dX9_sideOf_41 : decode cX9_sideOf 41 = .ok (.iconst 1, 1) := by decide +kernel
theorem dX9_sideOf_42 : decode cX9_sideOf 42 = .ok (.iadd, 1) := by decide +kernel
theorem dX9_sideOf_43 : decode cX9_sideOf 43 = .ok (.iaload, 1) := by decide +kernel
theorem dX9_sideOf_44 : decode cX9_sideOf 44 = .ok (.if_icmp .le 7, 3) := by decide +kernel
theorem dX9_sideOf_47 : decode cX9_sideOf 47 = .ok (.iconst 1, 1) := by decide +kernel
theorem dX9_sideOf_48 : decode cX9_sideOf 48 = .ok (.goto 4, 3) := by decide +kernel
theorem dX9_sideOf_51 : decode cX9_sideOf 51 = .ok (.iconst 0, 1) := by decide +kernel
theorem dX9_sideOf_52 : decode cX9_sideOf 52 = .ok (.istore 7, 2) := by decide +kernel
theorem dX9_sideOf_54 : decode cX9_sideOf 54 = .ok (.iload 7, 2) := by decide +kernel
theorem dX9_sideOf_56 : decode cX9_sideOf 56 = .ok (.ifCond .eq 10, 3) := by decide +kernel
theorem dX9_sideOf_59 : decode cX9_sideOf 59 = .ok (.iload 6, 2) := by decide +kernel
theorem dX9_sideOf_61 : decode cX9_sideOf 61 = .ok (.iconst 1, 1) := by decide +kernel
theorem dX9_sideOf_62 : decode cX9_sideOf 62 = .ok (.iadd, 1) := by decide +kernel
theorem dX9_sideOf_63 : decode cX9_sideOf 63 = .ok (.goto 5, 3) := by decide +kernel
theorem dX9_sideOf_66 : decode cX9_sideOf 66 = .ok (.iload 6, 2) := by decide +kernel
theorem dX9_sideOf_68 : decode cX9_sideOf 68 = .ok (.istore 8, 2) := by decide +kernel
theorem dX9_sideOf_70 : decode cX9_sideOf 70 = .ok (.iload 7, 2) := by decide +kernel
theorem dX9_sideOf_72 : decode cX9_sideOf 72 = .ok (.ifCond .eq 8, 3) := by decide +kernel
theorem dX9_sideOf_75 : decode cX9_sideOf 75 = .ok (.iload 6, 2) := by decide +kernel
theorem dX9_sideOf_77 : decode cX9_sideOf 77 = .ok (.goto 7, 3) := by decide +kernel
theorem dX9_sideOf_80 : decode cX9_sideOf 80 = .ok (.iload 6, 2) := by decide +kernel
theorem dX9_sideOf_82 : decode cX9_sideOf 82 = .ok (.iconst 1, 1) := by decide +kernel
theorem dX9_sideOf_83 : decode cX9_sideOf 83 = .ok (.iadd, 1) := by decide +kernel
theorem dX9_sideOf_84 : decode cX9_sideOf 84 = .ok (.istore 9, 2) := by decide +kernel
theorem dX9_sideOf_86 : decode cX9_sideOf 86 = .ok (.iload_n 2, 1) := by decide +kernel
theorem dX9_sideOf_87 : decode cX9_sideOf 87 = .ok (.aload_n 0, 1) := by decide +kernel
theorem dX9_sideOf_88 : decode cX9_sideOf 88 = .ok (.getfield 27, 3) := by decide +kernel
theorem dX9_sideOf_91 : decode cX9_sideOf 91 = .ok (.iload 8, 2) := by decide +kernel
theorem dX9_sideOf_93 : decode cX9_sideOf 93 = .ok (.iaload, 1) := by decide +kernel
theorem dX9_sideOf_94 : decode cX9_sideOf 94 = .ok (.if_icmp .lt 85, 3) := by decide +kernel
theorem dX9_sideOf_97 : decode cX9_sideOf 97 = .ok (.iload_n 2, 1) := by decide +kernel
theorem dX9_sideOf_98 : decode cX9_sideOf 98 = .ok (.aload_n 0, 1) := by decide +kernel
theorem dX9_sideOf_99 : decode cX9_sideOf 99 = .ok (.getfield 27, 3) := by decide +kernel
theorem dX9_sideOf_102 : decode cX9_sideOf 102 = .ok (.iload 9, 2) := by decide +kernel
theorem dX9_sideOf_104 : decode cX9_sideOf 104 = .ok (.iaload, 1) := by decide +kernel
theorem dX9_sideOf_105 : decode cX9_sideOf 105 = .ok (.if_icmp .lt 6, 3) := by decide +kernel
theorem dX9_sideOf_108 : decode cX9_sideOf 108 = .ok (.goto 71, 3) := by decide +kernel
theorem dX9_sideOf_111 : decode cX9_sideOf 111 = .ok (.aload_n 0, 1) := by decide +kernel
theorem dX9_sideOf_112 : decode cX9_sideOf 112 = .ok (.getfield 31, 3) := by decide +kernel
theorem dX9_sideOf_115 : decode cX9_sideOf 115 = .ok (.iload 8, 2) := by decide +kernel
theorem dX9_sideOf_117 : decode cX9_sideOf 117 = .ok (.iaload, 1) := by decide +kernel
theorem dX9_sideOf_118 : decode cX9_sideOf 118 = .ok (.iload_n 3, 1) := by decide +kernel
theorem dX9_sideOf_119 : decode cX9_sideOf 119 = .ok (.isub, 1) := by decide +kernel
theorem dX9_sideOf_120 : decode cX9_sideOf 120 = .ok (.aload_n 0, 1) := by decide +kernel
theorem dX9_sideOf_121 : decode cX9_sideOf 121 = .ok (.getfield 27, 3) := by decide +kernel
theorem dX9_sideOf_124 : decode cX9_sideOf 124 = .ok (.iload 9, 2) := by decide +kernel
theorem dX9_sideOf_126 : decode cX9_sideOf 126 = .ok (.iaload, 1) := by decide +kernel
theorem dX9_sideOf_127 : decode cX9_sideOf 127 = .ok (.aload_n 0, 1) := by decide +kernel
theorem dX9_sideOf_128 : decode cX9_sideOf 128 = .ok (.getfield 27, 3) := by decide +kernel
theorem dX9_sideOf_131 : decode cX9_sideOf 131 = .ok (.iload 8, 2) := by decide +kernel
theorem dX9_sideOf_133 : decode cX9_sideOf 133 = .ok (.iaload, 1) := by decide +kernel
theorem dX9_sideOf_134 : decode cX9_sideOf 134 = .ok (.isub, 1) := by decide +kernel
theorem dX9_sideOf_135 : decode cX9_sideOf 135 = .ok (.imul, 1) := by decide +kernel
theorem dX9_sideOf_136 : decode cX9_sideOf 136 = .ok (.aload_n 0, 1) := by decide +kernel
theorem dX9_sideOf_137 : decode cX9_sideOf 137 = .ok (.getfield 31, 3) := by decide +kernel
theorem dX9_sideOf_140 : decode cX9_sideOf 140 = .ok (.iload 9, 2) := by decide +kernel
theorem dX9_sideOf_142 : decode cX9_sideOf 142 = .ok (.iaload, 1) := by decide +kernel
theorem dX9_sideOf_143 : decode cX9_sideOf 143 = .ok (.aload_n 0, 1) := by decide +kernel
theorem dX9_sideOf_144 : decode cX9_sideOf 144 = .ok (.getfield 31, 3) := by decide +kernel
theorem dX9_sideOf_147 : decode cX9_sideOf 147 = .ok (.iload 8, 2) := by decide +kernel
theorem dX9_sideOf_149 : decode cX9_sideOf 149 = .ok (.iaload, 1) := by decide +kernel
theorem dX9_sideOf_150 : decode cX9_sideOf 150 = .ok (.isub, 1) := by decide +kernel
theorem dX9_sideOf_151 : decode cX9_sideOf 151 = .ok (.iload_n 2, 1) := by decide +kernel
theorem dX9_sideOf_152 : decode cX9_sideOf 152 = .ok (.aload_n 0, 1) := by decide +kernel
theorem dX9_sideOf_153 : decode cX9_sideOf 153 = .ok (.getfield 27, 3) := by decide +kernel
theorem dX9_sideOf_156 : decode cX9_sideOf 156 = .ok (.iload 8, 2) := by decide +kernel
theorem dX9_sideOf_158 : decode cX9_sideOf 158 = .ok (.iaload, 1) := by decide +kernel
theorem dX9_sideOf_159 : decode cX9_sideOf 159 = .ok (.isub, 1) := by decide +kernel
theorem dX9_sideOf_160 : decode cX9_sideOf 160 = .ok (.imul, 1) := by decide +kernel
theorem dX9_sideOf_161 : decode cX9_sideOf 161 = .ok (.iadd, 1) := by decide +kernel
theorem dX9_sideOf_162 : decode cX9_sideOf 162 = .ok (.istore 10, 2) := by decide +kernel
theorem dX9_sideOf_164 : decode cX9_sideOf 164 = .ok (.iload 4, 2) := by decide +kernel
theorem dX9_sideOf_166 : decode cX9_sideOf 166 = .ok (.iload 10, 2) := by decide +kernel
theorem dX9_sideOf_168 : decode cX9_sideOf 168 = .ok (.ifCond .le 7, 3) := by decide +kernel
theorem dX9_sideOf_171 : decode cX9_sideOf 171 = .ok (.iconst 1, 1) := by decide +kernel
theorem dX9_sideOf_172 : decode cX9_sideOf 172 = .ok (.goto 4, 3) := by decide +kernel
theorem dX9_sideOf_175 : decode cX9_sideOf 175 = .ok (.iconst 0, 1) := by decide +kernel
theorem dX9_sideOf_176 : decode cX9_sideOf 176 = .ok (.iadd, 1) := by decide +kernel
theorem dX9_sideOf_177 : decode cX9_sideOf 177 = .ok (.istore 4, 2) := by decide +kernel
theorem dX9_sideOf_179 : decode cX9_sideOf 179 = .ok (.iinc 5 1, 3) := by decide +kernel
theorem dX9_sideOf_182 : decode cX9_sideOf 182 = .ok (.goto (-176), 3) := by decide +kernel
theorem dX9_sideOf_185 : decode cX9_sideOf 185 = .ok (.iload 4, 2) := by decide +kernel
theorem dX9_sideOf_187 : decode cX9_sideOf 187 = .ok (.iconst 2, 1) := by decide +kernel
theorem dX9_sideOf_188 : decode cX9_sideOf 188 = .ok (.irem, 1) := by decide +kernel
theorem dX9_sideOf_189 : decode cX9_sideOf 189 = .ok (.ireturn, 1) := by decide +kernel
set_option maxRecDepth 20000 in
theorem ggX9_isPlace_X9_isIn : GoodIn wsX9_isPlace wsX9_isIn := goodIn_r _ [4] (by decide +kernel) (by decide +kernel)
set_option maxRecDepth 20000 in
theorem gX9_isPlace_X9_isIn : GoodIn wsX9_isPlace (va_wsS RX9 133 yX9_isIn wsX9_isIn) := goodIn_app (goodIn_of _ (by decide +kernel)) ggX9_isPlace_X9_isIn
theorem dX9_isPlace_0 : decode cX9_isPlace 0 = .ok (.iload_n 0, 1) := by decide +kernel
theorem dX9_isPlace_1 : decode cX9_isPlace 1 = .ok (.iconst 0, 1) := by decide +kernel
theorem dX9_isPlace_2 : decode cX9_isPlace 2 = .ok (.sipush 510, 3) := by decide +kernel
theorem dX9_isPlace_5 : decode cX9_isPlace 5 = .ok (.invokestatic 133, 3) := by decide +kernel
theorem dX9_isPlace_8 : decode cX9_isPlace 8 = .ok (.ifCond .eq 18, 3) := by decide +kernel
theorem dX9_isPlace_11 : decode cX9_isPlace 11 = .ok (.iload_n 1, 1) := by decide +kernel
theorem dX9_isPlace_12 : decode cX9_isPlace 12 = .ok (.iconst 0, 1) := by decide +kernel
theorem dX9_isPlace_13 : decode cX9_isPlace 13 = .ok (.sipush 511, 3) := by decide +kernel
theorem dX9_isPlace_16 : decode cX9_isPlace 16 = .ok (.invokestatic 133, 3) := by decide +kernel
theorem dX9_isPlace_19 : decode cX9_isPlace 19 = .ok (.ifCond .eq 7, 3) := by decide +kernel
theorem dX9_isPlace_22 : decode cX9_isPlace 22 = .ok (.iconst 1, 1) := by decide +kernel
theorem dX9_isPlace_23 : decode cX9_isPlace 23 = .ok (.goto 4, 3) := by decide +kernel
theorem dX9_isPlace_26 : decode cX9_isPlace 26 = .ok (.iconst 0, 1) := by decide +kernel
theorem dX9_isPlace_27 : decode cX9_isPlace 27 = .ok (.ireturn, 1) := by decide +kernel
set_option maxRecDepth 20000 in
theorem ggX9_side_X9_isPlace : GoodIn wsX9_side wsX9_isPlace := goodIn_r _ [5, 6, 7, 4, 8] (by decide +kernel) (by decide +kernel)
set_option maxRecDepth 20000 in
theorem gX9_side_X9_isPlace : GoodIn wsX9_side (va_wsS RX9 183 yX9_isPlace wsX9_isPlace) := goodIn_app (goodIn_of _ (by decide +kernel)) ggX9_side_X9_isPlace
set_option maxRecDepth 20000 in
theorem ggX9_side_X9_sideOf : GoodIn wsX9_side wsX9_sideOf := goodIn_r _ [12, 13, 14, 15, 16, 17, 18, 19, 20, 21, 22, 23, 24, 25, 26, 27, 28, 29, 30, 31, 32, 33, 34, 35, 36, 37, 38, 39, 40, 41, 42, 43, 44, 45, 46, 47, 48, 49, 50, 51] (by decide +kernel) (by decide +kernel)
set_option maxRecDepth 20000 in
theorem gX9_side_X9_sideOf : GoodIn wsX9_side (wsV RX9 129 RX9 yX9_sideOf wsX9_sideOf) := goodIn_app (goodIn_of _ (by decide +kernel)) ggX9_side_X9_sideOf
theorem dX9_side_0 : decode cX9_side 0 = .ok (.aload_n 0, 1) := by decide +kernel
theorem dX9_side_1 : decode cX9_side 1 = .ok (.iconst 0, 1) := by decide +kernel
theorem dX9_side_2 : decode cX9_side 2 = .ok (.putfield 1, 3) := by decide +kernel
theorem dX9_side_5 : decode cX9_side 5 = .ok (.iload_n 1, 1) := by decide +kernel
theorem dX9_side_6 : decode cX9_side 6 = .ok (.iload_n 2, 1) := by decide +kernel
theorem dX9_side_7 : decode cX9_side 7 = .ok (.invokestatic 183, 3) := by decide +kernel
theorem dX9_side_10 : decode cX9_side 10 = .ok (.ifCond .eq 13, 3) := by decide +kernel
theorem dX9_side_13 : decode cX9_side 13 = .ok (.aload_n 0, 1) := by decide +kernel
theorem dX9_side_14 : decode cX9_side 14 = .ok (.iconst 0, 1) := by decide +kernel
theorem dX9_side_15 : decode cX9_side 15 = .ok (.iload_n 1, 1) := by decide +kernel
theorem dX9_side_16 : decode cX9_side 16 = .ok (.iload_n 2, 1) := by decide +kernel
theorem dX9_side_17 : decode cX9_side 17 = .ok (.invokevirtual 129, 3) := by decide +kernel
theorem dX9_side_20 : decode cX9_side 20 = .ok (.goto 4, 3) := by decide +kernel
theorem dX9_side_23 : decode cX9_side 23 = .ok (.iconst (-1), 1) := by decide +kernel
theorem dX9_side_24 : decode cX9_side 24 = .ok (.ireturn, 1) := by decide +kernel
set_option maxRecDepth 20000 in
theorem ggX9_plot_X9_isPlace : GoodIn wsX9_plot wsX9_isPlace := goodIn_r _ [10, 11, 12, 9, 13] (by decide +kernel) (by decide +kernel)
set_option maxRecDepth 20000 in
theorem gX9_plot_X9_isPlace : GoodIn wsX9_plot (va_wsS RX9 183 yX9_isPlace wsX9_isPlace) := goodIn_app (goodIn_of _ (by decide +kernel)) ggX9_plot_X9_isPlace
set_option maxRecDepth 20000 in
theorem ggX9_plot_X9_sideOf : GoodIn wsX9_plot wsX9_sideOf := goodIn_r _ [17, 18, 19, 20, 21, 22, 23, 24, 25, 26, 27, 28, 29, 30, 31, 32, 33, 34, 35, 36, 37, 38, 39, 40, 41, 42, 43, 44, 45, 46, 47, 48, 49, 50, 51, 52, 53, 54, 55, 56] (by decide +kernel) (by decide +kernel)
set_option maxRecDepth 20000 in
theorem gX9_plot_X9_sideOf : GoodIn wsX9_plot (wsV RX9 129 RX9 yX9_sideOf wsX9_sideOf) := goodIn_app (goodIn_of _ (by decide +kernel)) ggX9_plot_X9_sideOf
theorem dX9_plot_0 : decode cX9_plot 0 = .ok (.aload_n 0, 1) := by decide +kernel
theorem dX9_plot_1 : decode cX9_plot 1 = .ok (.iconst 0, 1) := by decide +kernel
theorem dX9_plot_2 : decode cX9_plot 2 = .ok (.putfield 1, 3) := by decide +kernel
theorem dX9_plot_5 : decode cX9_plot 5 = .ok (.aload_n 0, 1) := by decide +kernel
theorem dX9_plot_6 : decode cX9_plot 6 = .ok (.getfield 126, 3) := by decide +kernel
theorem dX9_plot_9 : decode cX9_plot 9 = .ok (.bipush 20, 2) := by decide +kernel
theorem dX9_plot_11 : decode cX9_plot 11 = .ok (.if_icmp .eq 11, 3) := by decide +kernel
theorem dX9_plot_14 : decode cX9_plot 14 = .ok (.iload_n 1, 1) := by decide +kernel
theorem dX9_plot_15 : decode cX9_plot 15 = .ok (.iload_n 2, 1) := by decide +kernel
theorem dX9_plot_16 : decode cX9_plot 16 = .ok (.invokestatic 183, 3) := by decide +kernel
theorem dX9_plot_19 : decode cX9_plot 19 = .ok (.ifCond .ne 5, 3) := by decide +kernel
theorem dX9_plot_22 : decode cX9_plot 22 = .ok (.iconst (-1), 1) := by decide +kernel
theorem dX9_plot_23 : decode cX9_plot 23 = .ok (.ireturn, 1) := by decide +kernel
theorem dX9_plot_24 : decode cX9_plot 24 = .ok (.aload_n 0, 1) := by decide +kernel
theorem dX9_plot_25 : decode cX9_plot 25 = .ok (.getfield 79, 3) := by decide +kernel
theorem dX9_plot_28 : decode cX9_plot 28 = .ok (.aload_n 0, 1) := by decide +kernel
theorem dX9_plot_29 : decode cX9_plot 29 = .ok (.getfield 126, 3) := by decide +kernel
theorem dX9_plot_32 : decode cX9_plot 32 = .ok (.iload_n 1, 1) := by decide +kernel
theorem dX9_plot_33 : decode cX9_plot 33 = .ok (.iastore, 1) := by decide +kernel
theorem dX9_plot_34 : decode cX9_plot 34 = .ok (.aload_n 0, 1) := by decide +kernel
theorem dX9_plot_35 : decode cX9_plot 35 = .ok (.getfield 82, 3) := by decide +kernel
theorem dX9_plot_38 : decode cX9_plot 38 = .ok (.aload_n 0, 1) := by decide +kernel
theorem dX9_plot_39 : decode cX9_plot 39 = .ok (.getfield 126, 3) := by decide +kernel
theorem dX9_plot_42 : decode cX9_plot 42 = .ok (.iload_n 2, 1) := by decide +kernel
theorem dX9_plot_43 : decode cX9_plot 43 = .ok (.iastore, 1) := by decide +kernel
theorem dX9_plot_44 : decode cX9_plot 44 = .ok (.aload_n 0, 1) := by decide +kernel
theorem dX9_plot_45 : decode cX9_plot 45 = .ok (.getfield 85, 3) := by decide +kernel
theorem dX9_plot_48 : decode cX9_plot 48 = .ok (.aload_n 0, 1) := by decide +kernel
theorem dX9_plot_49 : decode cX9_plot 49 = .ok (.getfield 126, 3) := by decide +kernel
theorem dX9_plot_52 : decode cX9_plot 52 = .ok (.aload_n 0, 1) := by decide +kernel
theorem dX9_plot_53 : decode cX9_plot 53 = .ok (.iconst 0, 1) := by decide +kernel
theorem dX9_plot_54 : decode cX9_plot 54 = .ok (.iload_n 1, 1) := by decide +kernel
theorem dX9_plot_55 : decode cX9_plot 55 = .ok (.iload_n 2, 1) := by decide +kernel
theorem dX9_plot_56 : decode cX9_plot 56 = .ok (.invokevirtual 129, 3) := by decide +kernel
theorem dX9_plot_59 : decode cX9_plot 59 = .ok (.iastore, 1) := by decide +kernel
theorem dX9_plot_60 : decode cX9_plot 60 = .ok (.aload_n 0, 1) := by decide +kernel
theorem dX9_plot_61 : decode cX9_plot 61 = .ok (.getfield 88, 3) := by decide +kernel
theorem dX9_plot_64 : decode cX9_plot 64 = .ok (.aload_n 0, 1) := by decide +kernel
theorem dX9_plot_65 : decode cX9_plot 65 = .ok (.getfield 126, 3) := by decide +kernel
theorem dX9_plot_68 : decode cX9_plot 68 = .ok (.iconst 0, 1) := by decide +kernel
theorem dX9_plot_69 : decode cX9_plot 69 = .ok (.iastore, 1) := by decide +kernel
theorem dX9_plot_70 : decode cX9_plot 70 = .ok (.aload_n 0, 1) := by decide +kernel
theorem dX9_plot_71 : decode cX9_plot 71 = .ok (.dup, 1) := by decide +kernel
theorem dX9_plot_72 : decode cX9_plot 72 = .ok (.getfield 126, 3) := by decide +kernel
theorem dX9_plot_75 : decode cX9_plot 75 = .ok (.iconst 1, 1) := by decide +kernel
theorem dX9_plot_76 : decode cX9_plot 76 = .ok (.iadd, 1) := by decide +kernel
theorem dX9_plot_77 : decode cX9_plot 77 = .ok (.putfield 126, 3) := by decide +kernel
theorem dX9_plot_80 : decode cX9_plot 80 = .ok (.aload_n 0, 1) := by decide +kernel
theorem dX9_plot_81 : decode cX9_plot 81 = .ok (.getfield 126, 3) := by decide +kernel
theorem dX9_plot_84 : decode cX9_plot 84 = .ok (.iconst 1, 1) := by decide +kernel
theorem dX9_plot_85 : decode cX9_plot 85 = .ok (.isub, 1) := by decide +kernel
theorem dX9_plot_86 : decode cX9_plot 86 = .ok (.ireturn, 1) := by decide +kernel
set_option maxRecDepth 20000 in
theorem ggX9_owner_X9_throwsIf : GoodIn wsX9_owner wsX9_throwsIf := goodIn_r _ [10, 11, 19, 20, 21, 22, 23, 24, 25, 26, 27, 28, 29, 30, 31, 32, 33, 34, 35, 36, 37, 38, 39, 40, 41, 42, 43, 44, 45, 46, 47, 48, 49, 50, 51, 52, 53, 54] (by decide +kernel) (by decide +kernel)
set_option maxRecDepth 20000 in
theorem gX9_owner_X9_throwsIf : GoodIn wsX9_owner (wsV RX9 166 RX9 yX9_throwsIf wsX9_throwsIf) := goodIn_app (goodIn_of _ (by decide +kernel)) ggX9_owner_X9_throwsIf
set_option maxRecDepth 20000 in
theorem ggX9_owner_X9_sideOf : GoodIn wsX9_owner wsX9_sideOf := goodIn_r _ [15, 16, 17, 18, 19, 20, 21, 22, 23, 24, 25, 26, 27, 28, 29, 30, 31, 32, 33, 34, 35, 36, 37, 38, 39, 40, 41, 42, 43, 44, 45, 46, 47, 48, 49, 50, 51, 52, 53, 54] (by decide +kernel) (by decide +kernel)
set_option maxRecDepth 20000 in
theorem gX9_owner_X9_sideOf : GoodIn wsX9_owner (wsV RX9 129 RX9 yX9_sideOf wsX9_sideOf) := goodIn_app (goodIn_of _ (by decide +kernel)) ggX9_owner_X9_sideOf
theorem dX9_owner_0 : decode cX9_owner 0 = .ok (.aload_n 0, 1) := by decide +kernel
theorem dX9_owner_1 : decode cX9_owner 1 = .ok (.iload_n 1, 1) := by decide +kernel
theorem dX9_owner_2 : decode cX9_owner 2 = .ok (.ifCond .lt 20, 3) := by decide +kernel
theorem dX9_owner_5 : decode cX9_owner 5 = .ok (.iload_n 1, 1) := by decide +kernel
theorem dX9_owner_6 : decode cX9_owner 6 = .ok (.aload_n 0, 1) := by decide +kernel
theorem dX9_owner_7 : decode cX9_owner 7 = .ok (.getfield 126, 3) := by decide +kernel
theorem dX9_owner_10 : decode cX9_owner 10 = .ok (.if_icmp .ge 12, 3) := by decide +kernel
theorem dX9_owner_13 : decode cX9_owner 13 = .ok (.iload_n 2, 1) := by decide +kernel
theorem dX9_owner_14 : decode cX9_owner 14 = .ok (.ifCond .lt 8, 3) := by decide +kernel
theorem dX9_owner_17 : decode cX9_owner 17 = .ok (.iload_n 2, 1) := by decide +kernel
theorem dX9_owner_18 : decode cX9_owner 18 = .ok (.iconst 2, 1) := by decide +kernel
theorem dX9_owner_19 : decode cX9_owner 19 = .ok (.if_icmp .le 7, 3) := by decide +kernel
theorem dX9_owner_22 : decode cX9_owner 22 = .ok (.iconst 1, 1) := by decide +kernel
theorem dX9_owner_23 : decode cX9_owner 23 = .ok (.goto 4, 3) := by decide +kernel
theorem dX9_owner_26 : decode cX9_owner 26 = .ok (.iconst 0, 1) := by decide +kernel
theorem dX9_owner_27 : decode cX9_owner 27 = .ok (.invokevirtual 166, 3) := by decide +kernel
theorem dX9_owner_30 : decode cX9_owner 30 = .ok (.ifCond .eq 5, 3) := by decide +kernel
theorem dX9_owner_33 : decode cX9_owner 33 = .ok (.iconst 0, 1) := by decide +kernel
theorem dX9_owner_34 : decode cX9_owner 34 = .ok (.ireturn, 1) := by decide +kernel
theorem dX9_owner_35 : decode cX9_owner 35 = .ok (.iload_n 2, 1) := by decide +kernel
theorem dX9_owner_36 : decode cX9_owner 36 = .ok (.ifCond .ne 12, 3) := by decide +kernel
theorem dX9_owner_39 : decode cX9_owner 39 = .ok (.aload_n 0, 1) := by decide +kernel
theorem dX9_owner_40 : decode cX9_owner 40 = .ok (.getfield 85, 3) := by decide +kernel
theorem dX9_owner_43 : decode cX9_owner 43 = .ok (.iload_n 1, 1) := by decide +kernel
theorem dX9_owner_44 : decode cX9_owner 44 = .ok (.iaload, 1) := by decide +kernel
theorem dX9_owner_45 : decode cX9_owner 45 = .ok (.goto 34, 3) := by decide +kernel
theorem dX9_owner_48 : decode cX9_owner 48 = .ok (.iload_n 2, 1) := by decide +kernel
theorem dX9_owner_49 : decode cX9_owner 49 = .ok (.iconst 1, 1) := by decide +kernel
theorem dX9_owner_50 : decode cX9_owner 50 = .ok (.if_icmp .ne 23, 3) := by decide +kernel
theorem dX9_owner_53 : decode cX9_owner 53 = .ok (.aload_n 0, 1) := by decide +kernel
theorem dX9_owner_54 : decode cX9_owner 54 = .ok (.iconst 0, 1) := by decide +kernel
theorem dX9_owner_55 : decode cX9_owner 55 = .ok (.aload_n 0, 1) := by decide +kernel
theorem dX9_owner_56 : decode cX9_owner 56 = .ok (.getfield 79, 3) := by decide +kernel
theorem dX9_owner_59 : decode cX9_owner 59 = .ok (.iload_n 1, 1) := by decide +kernel
theorem dX9_owner_60 : decode cX9_owner 60 = .ok (.iaload, 1) := by decide +kernel
theorem dX9_owner_61 : decode cX9_owner 61 = .ok (.aload_n 0, 1) := by decide +kernel
theorem dX9_owner_62 : decode cX9_owner 62 = .ok (.getfield 82, 3) := by decide +kernel
theorem dX9_owner_65 : decode cX9_owner 65 = .ok (.iload_n 1, 1) := by decide +kernel
theorem dX9_owner_66 : decode cX9_owner 66 = .ok (.iaload, 1) := by decide +kernel
theorem dX9_owner_67 : decode cX9_owner 67 = .ok (.invokevirtual 129, 3) := by decide +kernel
theorem dX9_owner_70 : decode cX9_owner 70 = .ok (.goto 9, 3) := by decide +kernel
theorem dX9_owner_73 : decode cX9_owner 73 = .ok (.aload_n 0, 1) := by decide +kernel
theorem dX9_owner_74 : decode cX9_owner 74 = .ok (.getfield 88, 3) := by decide +kernel
theorem dX9_owner_77 : decode cX9_owner 77 = .ok (.iload_n 1, 1) := by decide +kernel
theorem dX9_owner_78 : decode cX9_owner 78 = .ok (.iaload, 1) := by decide +kernel
theorem dX9_owner_79 : decode cX9_owner 79 = .ok (.ireturn, 1) := by decide +kernel
set_option maxRecDepth 20000 in
theorem ggX9_mark_X9_isIn : GoodIn wsX9_mark wsX9_isIn := goodIn_r _ [9] (by decide +kernel) (by decide +kernel)
set_option maxRecDepth 20000 in
theorem gX9_mark_X9_isIn : GoodIn wsX9_mark (va_wsS RX9 133 yX9_isIn wsX9_isIn) := goodIn_app (goodIn_of _ (by decide +kernel)) ggX9_mark_X9_isIn
theorem dX9_mark_0 : decode cX9_mark 0 = .ok (.aload_n 0, 1) := by decide +kernel
theorem dX9_mark_1 : decode cX9_mark 1 = .ok (.iconst 0, 1) := by decide +kernel
theorem dX9_mark_2 : decode cX9_mark 2 = .ok (.putfield 1, 3) := by decide +kernel
theorem dX9_mark_5 : decode cX9_mark 5 = .ok (.aload_n 0, 1) := by decide +kernel
theorem dX9_mark_6 : decode cX9_mark 6 = .ok (.getfield 187, 3) := by decide +kernel
theorem dX9_mark_9 : decode cX9_mark 9 = .ok (.bipush 30, 2) := by decide +kernel
theorem dX9_mark_11 : decode cX9_mark 11 = .ok (.if_icmp .eq 35, 3) := by decide +kernel
theorem dX9_mark_14 : decode cX9_mark 14 = .ok (.iload_n 1, 1) := by decide +kernel
theorem dX9_mark_15 : decode cX9_mark 15 = .ok (.iconst 0, 1) := by decide +kernel
theorem dX9_mark_16 : decode cX9_mark 16 = .ok (.sipush 511, 3) := by decide +kernel
theorem dX9_mark_19 : decode cX9_mark 19 = .ok (.invokestatic 133, 3) := by decide +kernel
theorem dX9_mark_22 : decode cX9_mark 22 = .ok (.ifCond .eq 24, 3) := by decide +kernel
theorem dX9_mark_25 : decode cX9_mark 25 = .ok (.iload_n 2, 1) := by decide +kernel
theorem dX9_mark_26 : decode cX9_mark 26 = .ok (.iconst 0, 1) := by decide +kernel
theorem dX9_mark_27 : decode cX9_mark 27 = .ok (.sipush 511, 3) := by decide +kernel
theorem dX9_mark_30 : decode cX9_mark 30 = .ok (.invokestatic 133, 3) := by decide +kernel
theorem dX9_mark_33 : decode cX9_mark 33 = .ok (.ifCond .eq 13, 3) := by decide +kernel
theorem dX9_mark_36 : decode cX9_mark 36 = .ok (.iload_n 3, 1) := by decide +kernel
theorem dX9_mark_37 : decode cX9_mark 37 = .ok (.iconst 0, 1) := by decide +kernel
theorem dX9_mark_38 : decode cX9_mark 38 = .ok (.bipush 60, 2) := by decide +kernel
theorem dX9_mark_40 : decode cX9_mark 40 = .ok (.invokestatic 133, 3) := by decide +kernel
theorem dX9_mark_43 : decode cX9_mark 43 = .ok (.ifCond .ne 5, 3) := by decide +kernel
theorem dX9_mark_46 : decode cX9_mark 46 = .ok (.iconst (-1), 1) := by decide +kernel
theorem dX9_mark_47 : decode cX9_mark 47 = .ok (.ireturn, 1) := by decide +kernel
theorem dX9_mark_48 : decode cX9_mark 48 = .ok (.aload_n 0, 1) := by decide +kernel
theorem dX9_mark_49 : decode cX9_mark 49 = .ok (.getfield 94, 3) := by decide +kernel
theorem dX9_mark_52 : decode cX9_mark 52 = .ok (.aload_n 0, 1) := by decide +kernel
theorem dX9_mark_53 : decode cX9_mark 53 = .ok (.getfield 187, 3) := by decide +kernel
theorem dX9_mark_56 : decode cX9_mark 56 = .ok (.iload_n 1, 1) := by decide +kernel
theorem dX9_mark_57 : decode cX9_mark 57 = .ok (.iastore, 1) := by decide +kernel
theorem dX9_mark_58 : decode cX9_mark 58 = .ok (.aload_n 0, 1) := by decide +kernel
theorem dX9_mark_59 : decode cX9_mark 59 = .ok (.getfield 97, 3) := by decide +kernel
theorem dX9_mark_62 : decode cX9_mark 62 = .ok (.aload_n 0, 1) := by decide +kernel
theorem dX9_mark_63 : decode cX9_mark 63 = .ok (.getfield 187, 3) := by decide +kernel
theorem dX9_mark_66 : decode cX9_mark 66 = .ok (.iload_n 2, 1) := by decide +kernel
theorem dX9_mark_67 : decode cX9_mark 67 = .ok (.iastore, 1) := by decide +kernel
theorem dX9_mark_68 : decode cX9_mark 68 = .ok (.aload_n 0, 1) := by decide +kernel
theorem dX9_mark_69 : decode cX9_mark 69 = .ok (.getfield 100, 3) := by decide +kernel
theorem dX9_mark_72 : decode cX9_mark 72 = .ok (.aload_n 0, 1) := by decide +kernel
theorem dX9_mark_73 : decode cX9_mark 73 = .ok (.getfield 187, 3) := by decide +kernel
theorem dX9_mark_76 : decode cX9_mark 76 = .ok (.iload_n 3, 1) := by decide +kernel
theorem dX9_mark_77 : decode cX9_mark 77 = .ok (.iastore, 1) := by decide +kernel
theorem dX9_mark_78 : decode cX9_mark 78 = .ok (.aload_n 0, 1) := by decide +kernel
theorem dX9_mark_79 : decode cX9_mark 79 = .ok (.dup, 1) := by decide +kernel
theorem dX9_mark_80 : decode cX9_mark 80 = .ok (.getfield 187, 3) := by decide +kernel
theorem dX9_mark_83 : decode cX9_mark 83 = .ok (.iconst 1, 1) := by decide +kernel
theorem dX9_mark_84 : decode cX9_mark 84 = .ok (.iadd, 1) := by decide +kernel
theorem dX9_mark_85 : decode cX9_mark 85 = .ok (.putfield 187, 3) := by decide +kernel
theorem dX9_mark_88 : decode cX9_mark 88 = .ok (.aload_n 0, 1) := by decide +kernel
theorem dX9_mark_89 : decode cX9_mark 89 = .ok (.getfield 187, 3) := by decide +kernel
theorem dX9_mark_92 : decode cX9_mark 92 = .ok (.iconst 1, 1) := by decide +kernel
theorem dX9_mark_93 : decode cX9_mark 93 = .ok (.isub, 1) := by decide +kernel
theorem dX9_mark_94 : decode cX9_mark 94 = .ok (.ireturn, 1) := by decide +kernel
set_option maxRecDepth 20000 in
theorem ggX9_marks_X9_isIn : GoodIn wsX9_marks wsX9_isIn := goodIn_r _ [7] (by decide +kernel) (by decide +kernel)
set_option maxRecDepth 20000 in
theorem gX9_marks_X9_isIn : GoodIn wsX9_marks (va_wsS RX9 133 yX9_isIn wsX9_isIn) := goodIn_app (goodIn_of _ (by decide +kernel)) ggX9_marks_X9_isIn
theorem dX9_marks_0 : decode cX9_marks 0 = .ok (.aload_n 0, 1) := by decide +kernel
theorem dX9_marks_1 : decode cX9_marks 1 = .ok (.iconst 0, 1) := by decide +kernel
theorem dX9_marks_2 : decode cX9_marks 2 = .ok (.putfield 1, 3) := by decide +kernel
theorem dX9_marks_5 : decode cX9_marks 5 = .ok (.iload_n 1, 1) := by decide +kernel
theorem dX9_marks_6 : decode cX9_marks 6 = .ok (.iconst 0, 1) := by decide +kernel
theorem dX9_marks_7 : decode cX9_marks 7 = .ok (.bipush 50, 2) := by decide +kernel
theorem dX9_marks_9 : decode cX9_marks 9 = .ok (.invokestatic 133, 3) := by decide +kernel
theorem dX9_marks_12 : decode cX9_marks 12 = .ok (.ifCond .ne 5, 3) := by decide +kernel
theorem dX9_marks_15 : decode cX9_marks 15 = .ok (.iconst 0, 1) := by decide +kernel
theorem dX9_marks_16 : decode cX9_marks 16 = .ok (.ireturn, 1) := by decide +kernel
theorem dX9_marks_17 : decode cX9_marks 17 = .ok (.aload_n 0, 1) := by decide +kernel
theorem dX9_marks_18 : decode cX9_marks 18 = .ok (.iconst 0, 1) := by decide +kernel
theorem dX9_marks_19 : decode cX9_marks 19 = .ok (.putfield 187, 3) := by decide +kernel
theorem dX9_marks_22 : decode cX9_marks 22 = .ok (.aload_n 0, 1) := by decide +kernel
theorem dX9_marks_23 : decode cX9_marks 23 = .ok (.iload_n 1, 1) := by decide +kernel
theorem dX9_marks_24 : decode cX9_marks 24 = .ok (.putfield 106, 3) := by decide +kernel
theorem dX9_marks_27 : decode cX9_marks 27 = .ok (.iconst 1, 1) := by decide +kernel
theorem dX9_marks_28 : decode cX9_marks 28 = .ok (.ireturn, 1) := by decide +kernel
set_option maxRecDepth 20000 in
theorem ggX9_fits_X9_size : GoodIn wsX9_fits wsX9_size := goodIn_r _ [12] (by decide +kernel) (by decide +kernel)
set_option maxRecDepth 20000 in
theorem gX9_fits_X9_size : GoodIn wsX9_fits (va_wsS RX9 145 yX9_size wsX9_size) := goodIn_app (goodIn_of _ (by decide +kernel)) ggX9_fits_X9_size
theorem dX9_fits_0 : decode cX9_fits 0 = .ok (.iconst 0, 1) := by decide +kernel
theorem dX9_fits_1 : decode cX9_fits 1 = .ok (.istore_n 2, 1) := by decide +kernel
theorem dX9_fits_2 : decode cX9_fits 2 = .ok (.iload_n 2, 1) := by decide +kernel
theorem dX9_fits_3 : decode cX9_fits 3 = .ok (.aload_n 0, 1) := by decide +kernel
theorem dX9_fits_4 : decode cX9_fits 4 = .ok (.getfield 187, 3) := by decide +kernel
theorem dX9_fits_7 : decode cX9_fits 7 = .ok (.if_icmp .ge 113, 3) := by decide +kernel
theorem dX9_fits_10 : decode cX9_fits 10 = .ok (.aload_n 0, 1) := by decide +kernel
theorem dX9_fits_11 : decode cX9_fits 11 = .ok (.getfield 100, 3) := by decide +kernel
theorem dX9_fits_14 : decode cX9_fits 14 = .ok (.iload_n 2, 1) := by decide +kernel
theorem dX9_fits_15 : decode cX9_fits 15 = .ok (.iaload, 1) := by decide +kernel
theorem dX9_fits_16 : decode cX9_fits 16 = .ok (.iload_n 1, 1) := by decide +kernel
theorem dX9_fits_17 : decode cX9_fits 17 = .ok (.if_icmp .eq 7, 3) := by decide +kernel
theorem dX9_fits_20 : decode cX9_fits 20 = .ok (.iconst 1, 1) := by decide +kernel
theorem dX9_fits_21 : decode cX9_fits 21 = .ok (.goto 4, 3) := by decide +kernel
theorem dX9_fits_24 : decode cX9_fits 24 = .ok (.iconst 0, 1) := by decide +kernel
theorem dX9_fits_25 : decode cX9_fits 25 = .ok (.istore_n 3, 1) := by decide +kernel
theorem dX9_fits_26 : decode cX9_fits 26 = .ok (.bipush 48, 2) := by decide +kernel
theorem dX9_fits_28 : decode cX9_fits 28 = .ok (.istore 4, 2) := by decide +kernel
theorem dX9_fits_30 : decode cX9_fits 30 = .ok (.iload 4, 2) := by decide +kernel
theorem dX9_fits_32 : decode cX9_fits 32 = .ok (.bipush 48, 2) := by decide +kernel
theorem dX9_fits_34 : decode cX9_fits 34 = .ok (.aload_n 0, 1) := by decide +kernel
theorem dX9_fits_35 : decode cX9_fits 35 = .ok (.getfield 34, 3) := by decide +kernel
theorem dX9_fits_38 : decode cX9_fits 38 = .ok (.iconst 1, 1) := by decide +kernel
theorem dX9_fits_39 : decode cX9_fits 39 = .ok (.iaload, 1) := by decide +kernel
theorem dX9_fits_40 : decode cX9_fits 40 = .ok (.iadd, 1) := by decide +kernel
theorem dX9_fits_41 : decode cX9_fits 41 = .ok (.if_icmp .ge 67, 3) := by decide +kernel
theorem dX9_fits_44 : decode cX9_fits 44 = .ok (.iload_n 3, 1) := by decide +kernel
theorem dX9_fits_45 : decode cX9_fits 45 = .ok (.ifCond .ne 51, 3) := by decide +kernel
theorem dX9_fits_48 : decode cX9_fits 48 = .ok (.aload_n 0, 1) := by decide +kernel
theorem dX9_fits_49 : decode cX9_fits 49 = .ok (.getfield 27, 3) := by decide +kernel
theorem dX9_fits_52 : decode cX9_fits 52 = .ok (.iload 4, 2) := by decide +kernel
theorem dX9_fits_54 : decode cX9_fits 54 = .ok (.iaload, 1) := by decide +kernel
theorem dX9_fits_55 : decode cX9_fits 55 = .ok (.aload_n 0, 1) := by decide +kernel
theorem dX9_fits_56 : decode cX9_fits 56 = .ok (.getfield 94, 3) := by decide +kernel
theorem dX9_fits_59 : decode cX9_fits 59 = .ok (.iload_n 2, 1) := by decide +kernel
theorem dX9_fits_60 : decode cX9_fits 60 = .ok (.iaload, 1) := by decide +kernel
theorem dX9_fits_61 : decode cX9_fits 61 = .ok (.isub, 1) := by decide +kernel
theorem dX9_fits_62 : decode cX9_fits 62 = .ok (.invokestatic 145, 3) := by decide +kernel
theorem dX9_fits_65 : decode cX9_fits 65 = .ok (.aload_n 0, 1) := by decide +kernel
theorem dX9_fits_66 : decode cX9_fits 66 = .ok (.getfield 106, 3) := by decide +kernel
theorem dX9_fits_69 : decode cX9_fits 69 = .ok (.if_icmp .gt 31, 3) := by decide +kernel
theorem dX9_fits_72 : decode cX9_fits 72 = .ok (.aload_n 0, 1) := by decide +kernel
theorem dX9_fits_73 : decode cX9_fits 73 = .ok (.getfield 31, 3) := by decide +kernel
theorem dX9_fits_76 : decode cX9_fits 76 = .ok (.iload 4, 2) := by decide +kernel
theorem dX9_fits_78 : decode cX9_fits 78 = .ok (.iaload, 1) := by decide +kernel
theorem dX9_fits_79 : decode cX9_fits 79 = .ok (.aload_n 0, 1) := by decide +kernel
theorem dX9_fits_80 : decode cX9_fits 80 = .ok (.getfield 97, 3) := by decide +kernel
theorem dX9_fits_83 : decode cX9_fits 83 = .ok (.iload_n 2, 1) := by decide +kernel
theorem dX9_fits_84 : decode cX9_fits 84 = .ok (.iaload, 1) := by decide +kernel
theorem dX9_fits_85 : decode cX9_fits 85 = .ok (.isub, 1) := by decide +kernel
theorem dX9_fits_86 : decode cX9_fits 86 = .ok (.invokestatic 145, 3) := by decide +kernel
theorem dX9_fits_89 : decode cX9_fits 89 = .ok (.aload_n 0, 1) := by decide +kernel
theorem dX9_fits_90 : decode cX9_fits 90 = .ok (.getfield 106, 3) := by decide +kernel
theorem dX9_fits_93 : decode cX9_fits 93 = .ok (.if_icmp .gt 7, 3) := by decide +kernel
theorem dX9_fits_96 : decode cX9_fits 96 = .ok (.iconst 1, 1) := by decide +kernel
theorem dX9_fits_97 : decode cX9_fits 97 = .ok (.goto 4, 3) := by decide +kernel
theorem dX9_fits_100 : decode cX9_fits 100 = .ok (.iconst 0, 1) := by decide +kernel
theorem dX9_fits_101 : decode cX9_fits 101 = .ok (.istore_n 3, 1) := by decide +kernel
theorem dX9_fits_102 : decode cX9_fits 102 = .ok (.iinc 4 1, 3) := by decide +kernel
theorem dX9_fits_105 : decode cX9_fits 105 = .ok (.goto (-75), 3) := by decide +kernel
theorem dX9_fits_108 : decode cX9_fits 108 = .ok (.iload_n 3, 1) := by decide +kernel
theorem dX9_fits_109 : decode cX9_fits 109 = .ok (.ifCond .ne 5, 3) := by decide +kernel
theorem dX9_fits_112 : decode cX9_fits 112 = .ok (.iconst 0, 1) := by decide +kernel
theorem dX9_fits_113 : decode cX9_fits 113 = .ok (.ireturn, 1) := by decide +kernel
theorem dX9_fits_114 : decode cX9_fits 114 = .ok (.iinc 2 1, 3) := by decide +kernel
theorem dX9_fits_117 : decode cX9_fits 117 = .ok (.goto (-115), 3) := by decide +kernel
theorem dX9_fits_120 : decode cX9_fits 120 = .ok (.iconst 1, 1) := by decide +kernel
theorem dX9_fits_121 : decode cX9_fits 121 = .ok (.ireturn, 1) := by decide +kernel
set_option maxRecDepth 20000 in
theorem ggX9_isMet_X9_copy : GoodIn wsX9_isMet wsX9_copy := goodIn_r _ [5, 6, 7, 8, 68, 69, 70, 71, 72, 73, 74, 75, 76, 77, 78, 79, 80, 81, 82, 83, 84, 85, 86, 87, 88, 89, 90, 91, 92, 93, 94, 95, 96, 97, 98, 99, 100, 101, 102, 103] (by decide +kernel) (by decide +kernel)
set_option maxRecDepth 20000 in
theorem gX9_isMet_X9_copy : GoodIn wsX9_isMet (wsV RX9 109 RX9 yX9_copy wsX9_copy) := goodIn_app (goodIn_of _ (by decide +kernel)) ggX9_isMet_X9_copy
set_option maxRecDepth 20000 in
theorem ggX9_isMet_X9_fits : GoodIn wsX9_isMet wsX9_fits := goodIn_r _ [12, 13, 14, 6, 7, 15, 16, 8, 17, 18, 19, 4, 20, 68, 69, 70, 71, 72, 73, 74, 75, 76, 77, 78, 79, 80, 81, 82, 83, 84, 85, 86, 87, 88, 89, 90, 91, 92, 93, 94, 95, 96, 97, 98, 99, 100, 101, 102, 103] (by decide +kernel) (by decide +kernel)
set_option maxRecDepth 20000 in
theorem gX9_isMet_X9_fits : GoodIn wsX9_isMet (wsV RX9 190 RX9 yX9_fits wsX9_fits) := goodIn_app (goodIn_of _ (by decide +kernel)) ggX9_isMet_X9_fits
set_option maxRecDepth 20000 in
theorem ggX9_isMet_X9_move : GoodIn wsX9_isMet wsX9_move := goodIn_r _ [24, 6, 25, 26, 7, 8, 27, 28, 29, 4, 30, 31, 32, 33, 34, 35, 36, 37, 38, 68, 69, 70, 71, 72, 73, 74, 75, 76, 77, 78, 79, 80, 81, 82, 83, 84, 85, 86, 87, 88, 89, 90, 91, 92, 93, 94, 95, 96, 97, 98, 99, 100, 101, 102, 103] (by decide +kernel) (by decide +kernel)
set_option maxRecDepth 20000 in
theorem gX9_isMet_X9_move : GoodIn wsX9_isMet (wsV RX9 156 RX9 yX9_move wsX9_move) := goodIn_app (goodIn_of _ (by decide +kernel)) ggX9_isMet_X9_move
set_option maxRecDepth 20000 in
theorem ggX9_isMet_X9_space : GoodIn wsX9_isMet wsX9_space := goodIn_r _ [42, 6, 7, 8, 43, 44, 45, 18, 19, 4, 20, 68, 69, 70, 71, 72, 73, 74, 75, 76, 77, 78, 79, 80, 81, 82, 83, 84, 85, 86, 87, 88, 89, 90, 91, 92, 93, 94, 95, 96, 97, 98, 99, 100, 101, 102, 103] (by decide +kernel) (by decide +kernel)
set_option maxRecDepth 20000 in
theorem gX9_isMet_X9_space : GoodIn wsX9_isMet (wsV RX9 159 RX9 yX9_space wsX9_space) := goodIn_app (goodIn_of _ (by decide +kernel)) ggX9_isMet_X9_space
set_option maxRecDepth 20000 in
theorem ggX9_isMet_X9_cut : GoodIn wsX9_isMet wsX9_cut := goodIn_r _ [49, 6, 7, 8, 50, 51, 52, 4, 53, 54, 18, 19, 20, 55, 56, 57, 58, 59, 60, 61, 62, 63, 64, 65, 66, 67, 68, 69, 70, 71, 72, 73, 74, 75, 76, 77, 78, 79, 80, 81, 82, 83, 84, 85, 86, 87, 88, 89, 90, 91, 92, 93, 94, 95, 96, 97, 98, 99, 100, 101, 102, 103] (by decide +kernel) (by decide +kernel)
set_option maxRecDepth 20000 in
theorem gX9_isMet_X9_cut : GoodIn wsX9_isMet (wsV RX9 162 RX9 yX9_cut wsX9_cut) := goodIn_app (goodIn_of _ (by decide +kernel)) ggX9_isMet_X9_cut
theorem dX9_isMet_0 : decode cX9_isMet 0 = .ok (.aload_n 0, 1) := by decide +kernel
theorem dX9_isMet_1 : decode cX9_isMet 1 = .ok (.iconst 2, 1) := by decide +kernel
theorem dX9_isMet_2 : decode cX9_isMet 2 = .ok (.iconst 1, 1) := by decide +kernel
theorem dX9_isMet_3 : decode cX9_isMet 3 = .ok (.invokevirtual 109, 3) := by decide +kernel
theorem dX9_isMet_6 : decode cX9_isMet 6 = .ok (.iconst 0, 1) := by decide +kernel
theorem dX9_isMet_7 : decode cX9_isMet 7 = .ok (.istore_n 2, 1) := by decide +kernel
theorem dX9_isMet_8 : decode cX9_isMet 8 = .ok (.iload_n 2, 1) := by decide +kernel
theorem dX9_isMet_9 : decode cX9_isMet 9 = .ok (.bipush 60, 2) := by decide +kernel
theorem dX9_isMet_11 : decode cX9_isMet 11 = .ok (.if_icmp .gt 36, 3) := by decide +kernel
theorem dX9_isMet_14 : decode cX9_isMet 14 = .ok (.aload_n 0, 1) := by decide +kernel
theorem dX9_isMet_15 : decode cX9_isMet 15 = .ok (.iload_n 2, 1) := by decide +kernel
theorem dX9_isMet_16 : decode cX9_isMet 16 = .ok (.invokevirtual 190, 3) := by decide +kernel
theorem dX9_isMet_19 : decode cX9_isMet 19 = .ok (.ifCond .ne 5, 3) := by decide +kernel
theorem dX9_isMet_22 : decode cX9_isMet 22 = .ok (.iconst 0, 1) := by decide +kernel
theorem dX9_isMet_23 : decode cX9_isMet 23 = .ok (.ireturn, 1) := by decide +kernel
theorem dX9_isMet_24 : decode cX9_isMet 24 = .ok (.aload_n 0, 1) := by decide +kernel
theorem dX9_isMet_25 : decode cX9_isMet 25 = .ok (.iconst 1, 1) := by decide +kernel
theorem dX9_isMet_26 : decode cX9_isMet 26 = .ok (.iload_n 1, 1) := by decide +kernel
theorem dX9_isMet_27 : decode cX9_isMet 27 = .ok (.invokevirtual 156, 3) := by decide +kernel
theorem dX9_isMet_30 : decode cX9_isMet 30 = .ok (.aload_n 0, 1) := by decide +kernel
theorem dX9_isMet_31 : decode cX9_isMet 31 = .ok (.iconst 1, 1) := by decide +kernel
theorem dX9_isMet_32 : decode cX9_isMet 32 = .ok (.invokevirtual 159, 3) := by decide +kernel
theorem dX9_isMet_35 : decode cX9_isMet 35 = .ok (.aload_n 0, 1) := by decide +kernel
theorem dX9_isMet_36 : decode cX9_isMet 36 = .ok (.iconst 1, 1) := by decide +kernel
theorem dX9_isMet_37 : decode cX9_isMet 37 = .ok (.invokevirtual 162, 3) := by decide +kernel
theorem dX9_isMet_40 : decode cX9_isMet 40 = .ok (.pop, 1) := by decide +kernel
theorem dX9_isMet_41 : decode cX9_isMet 41 = .ok (.iinc 2 1, 3) := by decide +kernel
theorem dX9_isMet_44 : decode cX9_isMet 44 = .ok (.goto (-36), 3) := by decide +kernel
theorem dX9_isMet_47 : decode cX9_isMet 47 = .ok (.iconst 1, 1) := by decide +kernel
theorem dX9_isMet_48 : decode cX9_isMet 48 = .ok (.ireturn, 1) := by decide +kernel
set_option maxRecDepth 20000 in
theorem ggX9_met_X9_isMet : GoodIn wsX9_met wsX9_isMet := goodIn_r _ [8, 9, 10, 11, 7, 12, 13, 14, 15, 16, 17, 18, 19, 20, 21, 22, 23, 24, 25, 26, 27, 28, 29, 30, 31, 32, 33, 34, 35, 36, 37, 38, 39, 40, 41, 42, 43, 44, 45, 46, 47, 48, 49, 50, 51, 52, 53, 54, 55, 56, 57, 58, 59, 60, 61, 62, 63, 64, 65, 66, 67, 68, 69, 70, 71, 72, 73, 74, 75, 76, 77, 78, 79, 80, 81, 82, 83, 84, 85, 86, 87, 88, 89, 90, 91, 92, 93, 94, 95, 96, 97, 98, 99, 100, 101, 102, 103, 104, 105, 106, 107, 108, 109, 110] (by decide +kernel) (by decide +kernel)
set_option maxRecDepth 20000 in
theorem gX9_met_X9_isMet : GoodIn wsX9_met (wsV RX9 196 RX9 yX9_isMet wsX9_isMet) := goodIn_app (goodIn_of _ (by decide +kernel)) ggX9_met_X9_isMet
theorem dX9_met_0 : decode cX9_met 0 = .ok (.aload_n 0, 1) := by decide +kernel
theorem dX9_met_1 : decode cX9_met 1 = .ok (.iconst 0, 1) := by decide +kernel
theorem dX9_met_2 : decode cX9_met 2 = .ok (.putfield 1, 3) := by decide +kernel
theorem dX9_met_5 : decode cX9_met 5 = .ok (.iload_n 1, 1) := by decide +kernel
theorem dX9_met_6 : decode cX9_met 6 = .ok (.ifCond .lt 23, 3) := by decide +kernel
theorem dX9_met_9 : decode cX9_met 9 = .ok (.iload_n 2, 1) := by decide +kernel
theorem dX9_met_10 : decode cX9_met 10 = .ok (.iload_n 1, 1) := by decide +kernel
theorem dX9_met_11 : decode cX9_met 11 = .ok (.if_icmp .lt 18, 3) := by decide +kernel
theorem dX9_met_14 : decode cX9_met 14 = .ok (.iload_n 2, 1) := by decide +kernel
theorem dX9_met_15 : decode cX9_met 15 = .ok (.sipush 200, 3) := by decide +kernel
theorem dX9_met_18 : decode cX9_met 18 = .ok (.if_icmp .gt 11, 3) := by decide +kernel
theorem dX9_met_21 : decode cX9_met 21 = .ok (.iload_n 2, 1) := by decide +kernel
theorem dX9_met_22 : decode cX9_met 22 = .ok (.iload_n 1, 1) := by decide +kernel
theorem dX9_met_23 : decode cX9_met 23 = .ok (.isub, 1) := by decide +kernel
theorem dX9_met_24 : decode cX9_met 24 = .ok (.bipush 19, 2) := by decide +kernel
theorem dX9_met_26 : decode cX9_met 26 = .ok (.if_icmp .le 5, 3) := by decide +kernel
theorem dX9_met_29 : decode cX9_met 29 = .ok (.iconst (-1), 1) := by decide +kernel
theorem dX9_met_30 : decode cX9_met 30 = .ok (.ireturn, 1) := by decide +kernel
theorem dX9_met_31 : decode cX9_met 31 = .ok (.aload_n 0, 1) := by decide +kernel
theorem dX9_met_32 : decode cX9_met 32 = .ok (.iconst 0, 1) := by decide +kernel
theorem dX9_met_33 : decode cX9_met 33 = .ok (.putfield 193, 3) := by decide +kernel
theorem dX9_met_36 : decode cX9_met 36 = .ok (.iload_n 1, 1) := by decide +kernel
theorem dX9_met_37 : decode cX9_met 37 = .ok (.istore_n 3, 1) := by decide +kernel
theorem dX9_met_38 : decode cX9_met 38 = .ok (.iload_n 3, 1) := by decide +kernel
theorem dX9_met_39 : decode cX9_met 39 = .ok (.iload_n 2, 1) := by decide +kernel
theorem dX9_met_40 : decode cX9_met 40 = .ok (.if_icmp .gt 40, 3) := by decide +kernel
theorem dX9_met_43 : decode cX9_met 43 = .ok (.aload_n 0, 1) := by decide +kernel
theorem dX9_met_44 : decode cX9_met 44 = .ok (.iload_n 3, 1) := by decide +kernel
theorem dX9_met_45 : decode cX9_met 45 = .ok (.invokevirtual 196, 3) := by decide +kernel
theorem dX9_met_48 : decode cX9_met 48 = .ok (.ifCond .ne 6, 3) := by decide +kernel
theorem dX9_met_51 : decode cX9_met 51 = .ok (.goto 23, 3) := by decide +kernel
theorem dX9_met_54 : decode cX9_met 54 = .ok (.aload_n 0, 1) := by decide +kernel
theorem dX9_met_55 : decode cX9_met 55 = .ok (.getfield 103, 3) := by decide +kernel
theorem dX9_met_58 : decode cX9_met 58 = .ok (.aload_n 0, 1) := by decide +kernel
theorem dX9_met_59 : decode cX9_met 59 = .ok (.getfield 193, 3) := by decide +kernel
theorem dX9_met_62 : decode cX9_met 62 = .ok (.iload_n 3, 1) := by decide +kernel
theorem dX9_met_63 : decode cX9_met 63 = .ok (.iastore, 1) := by decide +kernel
theorem dX9_met_64 : decode cX9_met 64 = .ok (.aload_n 0, 1) := by decide +kernel
theorem dX9_met_65 : decode cX9_met 65 = .ok (.dup, 1) := by decide +kernel
theorem dX9_met_66 : decode cX9_met 66 = .ok (.getfield 193, 3) := by decide +kernel
theorem dX9_met_69 : decode cX9_met 69 = .ok (.iconst 1, 1) := by decide +kernel
theorem dX9_met_70 : decode cX9_met 70 = .ok (.iadd, 1) := by decide +kernel
theorem dX9_met_71 : decode cX9_met 71 = .ok (.putfield 193, 3) := by decide +kernel
theorem dX9_met_74 : decode cX9_met 74 = .ok (.iinc 3 1, 3) := by decide +kernel
theorem dX9_met_77 : decode cX9_met 77 = .ok (.goto (-39), 3) := by decide +kernel
theorem dX9_met_80 : decode cX9_met 80 = .ok (.aload_n 0, 1) := by decide +kernel
theorem dX9_met_81 : decode cX9_met 81 = .ok (.getfield 193, 3) := by decide +kernel
theorem dX9_met_84 : decode cX9_met 84 = .ok (.ireturn, 1) := by decide +kernel
theorem dX9_rate_0 : decode cX9_rate 0 = .ok (.aload_n 0, 1) := by decide +kernel
theorem dX9_rate_1 : decode cX9_rate 1 = .ok (.iconst 0, 1) := by decide +kernel
theorem dX9_rate_2 : decode cX9_rate 2 = .ok (.putfield 1, 3) := by decide +kernel
theorem dX9_rate_5 : decode cX9_rate 5 = .ok (.iload_n 1, 1) := by decide +kernel
theorem dX9_rate_6 : decode cX9_rate 6 = .ok (.ifCond .lt 11, 3) := by decide +kernel
theorem dX9_rate_9 : decode cX9_rate 9 = .ok (.iload_n 1, 1) := by decide +kernel
theorem dX9_rate_10 : decode cX9_rate 10 = .ok (.aload_n 0, 1) := by decide +kernel
theorem dX9_rate_11 : decode cX9_rate 11 = .ok (.getfield 193, 3) := by decide +kernel
theorem dX9_rate_14 : decode cX9_rate 14 = .ok (.if_icmp .lt 7, 3) := by decide +kernel
theorem dX9_rate_17 : decode cX9_rate 17 = .ok (.iconst (-1), 1) := by decide +kernel
theorem dX9_rate_18 : decode cX9_rate 18 = .ok (.goto 9, 3) := by decide +kernel
theorem dX9_rate_21 : decode cX9_rate 21 = .ok (.aload_n 0, 1) := by decide +kernel
theorem dX9_rate_22 : decode cX9_rate 22 = .ok (.getfield 103, 3) := by decide +kernel
theorem dX9_rate_25 : decode cX9_rate 25 = .ok (.iload_n 1, 1) := by decide +kernel
theorem dX9_rate_26 : decode cX9_rate 26 = .ok (.iaload, 1) := by decide +kernel
theorem dX9_rate_27 : decode cX9_rate 27 = .ok (.ireturn, 1) := by decide +kernel
set_option maxRecDepth 20000 in
theorem ggX9_foretold_X9_copy : GoodIn wsX9_foretold wsX9_copy := goodIn_r _ [8, 9, 10, 11, 62, 63, 64, 65, 66, 67, 68, 69, 70, 71, 72, 73, 74, 75, 76, 77, 78, 79, 80, 81, 82, 83, 84, 85, 86, 87, 88, 89, 90, 91, 92, 93, 94, 95, 96, 97] (by decide +kernel) (by decide +kernel)
set_option maxRecDepth 20000 in
theorem gX9_foretold_X9_copy : GoodIn wsX9_foretold (wsV RX9 109 RX9 yX9_copy wsX9_copy) := goodIn_app (goodIn_of _ (by decide +kernel)) ggX9_foretold_X9_copy
set_option maxRecDepth 20000 in
theorem ggX9_foretold_X9_move : GoodIn wsX9_foretold wsX9_move := goodIn_r _ [15, 9, 16, 17, 10, 11, 18, 19, 20, 7, 21, 22, 23, 24, 25, 26, 27, 28, 29, 62, 63, 64, 65, 66, 67, 68, 69, 70, 71, 72, 73, 74, 75, 76, 77, 78, 79, 80, 81, 82, 83, 84, 85, 86, 87, 88, 89, 90, 91, 92, 93, 94, 95, 96, 97] (by decide +kernel) (by decide +kernel)
set_option maxRecDepth 20000 in
theorem gX9_foretold_X9_move : GoodIn wsX9_foretold (wsV RX9 156 RX9 yX9_move wsX9_move) := goodIn_app (goodIn_of _ (by decide +kernel)) ggX9_foretold_X9_move
set_option maxRecDepth 20000 in
theorem ggX9_foretold_X9_space : GoodIn wsX9_foretold wsX9_space := goodIn_r _ [33, 9, 10, 11, 34, 35, 36, 37, 38, 7, 39, 62, 63, 64, 65, 66, 67, 68, 69, 70, 71, 72, 73, 74, 75, 76, 77, 78, 79, 80, 81, 82, 83, 84, 85, 86, 87, 88, 89, 90, 91, 92, 93, 94, 95, 96, 97] (by decide +kernel) (by decide +kernel)
set_option maxRecDepth 20000 in
theorem gX9_foretold_X9_space : GoodIn wsX9_foretold (wsV RX9 159 RX9 yX9_space wsX9_space) := goodIn_app (goodIn_of _ (by decide +kernel)) ggX9_foretold_X9_space
set_option maxRecDepth 20000 in
theorem ggX9_foretold_X9_cut : GoodIn wsX9_foretold wsX9_cut := goodIn_r _ [43, 9, 10, 11, 44, 45, 46, 7, 47, 48, 37, 38, 39, 49, 50, 51, 52, 53, 54, 55, 56, 57, 58, 59, 60, 61, 62, 63, 64, 65, 66, 67, 68, 69, 70, 71, 72, 73, 74, 75, 76, 77, 78, 79, 80, 81, 82, 83, 84, 85, 86, 87, 88, 89, 90, 91, 92, 93, 94, 95, 96, 97] (by decide +kernel) (by decide +kernel)
set_option maxRecDepth 20000 in
theorem gX9_foretold_X9_cut : GoodIn wsX9_foretold (wsV RX9 162 RX9 yX9_cut wsX9_cut) := goodIn_app (goodIn_of _ (by decide +kernel)) ggX9_foretold_X9_cut
theorem dX9_foretold_0 : decode cX9_foretold 0 = .ok (.aload_n 0, 1) := by decide +kernel
theorem dX9_foretold_1 : decode cX9_foretold 1 = .ok (.iconst 0, 1) := by decide +kernel
theorem dX9_foretold_2 : decode cX9_foretold 2 = .ok (.putfield 1, 3) := by decide +kernel
theorem dX9_foretold_5 : decode cX9_foretold 5 = .ok (.iconst (-1), 1) := by decide +kernel
theorem dX9_foretold_6 : decode cX9_foretold 6 = .ok (.istore_n 2, 1) := by decide +kernel
theorem dX9_foretold_7 : decode cX9_foretold 7 = .ok (.iconst 0, 1) := by decide +kernel
theorem dX9_foretold_8 : decode cX9_foretold 8 = .ok (.istore_n 3, 1) := by decide +kernel
theorem dX9_foretold_9 : decode cX9_foretold 9 = .ok (.iload_n 3, 1) := by decide +kernel
theorem dX9_foretold_10 : decode cX9_foretold 10 = .ok (.aload_n 0, 1) := by decide +kernel
theorem dX9_foretold_11 : decode cX9_foretold 11 = .ok (.getfield 193, 3) := by decide +kernel
theorem dX9_foretold_14 : decode cX9_foretold 14 = .ok (.if_icmp .ge 102, 3) := by decide +kernel
theorem dX9_foretold_17 : decode cX9_foretold 17 = .ok (.aload_n 0, 1) := by decide +kernel
theorem dX9_foretold_18 : decode cX9_foretold 18 = .ok (.iconst 2, 1) := by decide +kernel
theorem dX9_foretold_19 : decode cX9_foretold 19 = .ok (.iconst 1, 1) := by decide +kernel
theorem dX9_foretold_20 : decode cX9_foretold 20 = .ok (.invokevirtual 109, 3) := by decide +kernel
theorem dX9_foretold_23 : decode cX9_foretold 23 = .ok (.iconst 0, 1) := by decide +kernel
theorem dX9_foretold_24 : decode cX9_foretold 24 = .ok (.istore 4, 2) := by decide +kernel
theorem dX9_foretold_26 : decode cX9_foretold 26 = .ok (.iconst 0, 1) := by decide +kernel
theorem dX9_foretold_27 : decode cX9_foretold 27 = .ok (.istore 5, 2) := by decide +kernel
theorem dX9_foretold_29 : decode cX9_foretold 29 = .ok (.iload 4, 2) := by decide +kernel
theorem dX9_foretold_31 : decode cX9_foretold 31 = .ok (.bipush 60, 2) := by decide +kernel
theorem dX9_foretold_33 : decode cX9_foretold 33 = .ok (.if_icmp .gt 47, 3) := by decide +kernel
theorem dX9_foretold_36 : decode cX9_foretold 36 = .ok (.iload 5, 2) := by decide +kernel
theorem dX9_foretold_38 : decode cX9_foretold 38 = .ok (.ifCond .ne 42, 3) := by decide +kernel
theorem dX9_foretold_41 : decode cX9_foretold 41 = .ok (.iinc 4 1, 3) := by decide +kernel
theorem dX9_foretold_44 : decode cX9_foretold 44 = .ok (.iload 4, 2) := by decide +kernel
theorem dX9_foretold_46 : decode cX9_foretold 46 = .ok (.bipush 60, 2) := by decide +kernel
theorem dX9_foretold_48 : decode cX9_foretold 48 = .ok (.if_icmp .le 6, 3) := by decide +kernel
theorem dX9_foretold_51 : decode cX9_foretold 51 = .ok (.goto 29, 3) := by decide +kernel
theorem dX9_foretold_54 : decode cX9_foretold 54 = .ok (.aload_n 0, 1) := by decide +kernel
theorem dX9_foretold_55 : decode cX9_foretold 55 = .ok (.iconst 1, 1) := by decide +kernel
theorem dX9_foretold_56 : decode cX9_foretold 56 = .ok (.aload_n 0, 1) := by decide +kernel
theorem dX9_foretold_57 : decode cX9_foretold 57 = .ok (.getfield 103, 3) := by decide +kernel
theorem dX9_foretold_60 : decode cX9_foretold 60 = .ok (.iload_n 3, 1) := by decide +kernel
theorem dX9_foretold_61 : decode cX9_foretold 61 = .ok (.iaload, 1) := by decide +kernel
theorem dX9_foretold_62 : decode cX9_foretold 62 = .ok (.invokevirtual 156, 3) := by decide +kernel
theorem dX9_foretold_65 : decode cX9_foretold 65 = .ok (.aload_n 0, 1) := by decide +kernel
theorem dX9_foretold_66 : decode cX9_foretold 66 = .ok (.iconst 1, 1) := by decide +kernel
theorem dX9_foretold_67 : decode cX9_foretold 67 = .ok (.invokevirtual 159, 3) := by decide +kernel
theorem dX9_foretold_70 : decode cX9_foretold 70 = .ok (.aload_n 0, 1) := by decide +kernel
theorem dX9_foretold_71 : decode cX9_foretold 71 = .ok (.iconst 1, 1) := by decide +kernel
theorem dX9_foretold_72 : decode cX9_foretold 72 = .ok (.invokevirtual 162, 3) := by decide +kernel
theorem dX9_foretold_75 : decode cX9_foretold 75 = .ok (.istore 5, 2) := by decide +kernel
theorem dX9_foretold_77 : decode cX9_foretold 77 = .ok (.goto (-48), 3) := by decide +kernel
theorem dX9_foretold_80 : decode cX9_foretold 80 = .ok (.iload_n 2, 1) := by decide +kernel
theorem dX9_foretold_81 : decode cX9_foretold 81 = .ok (.ifCond .lt 22, 3) := by decide +kernel
theorem dX9_foretold_84 : decode cX9_foretold 84 = .ok (.iload_n 1, 1) := by decide +kernel
theorem dX9_foretold_85 : decode cX9_foretold 85 = .ok (.ifCond .eq 12, 3) := by decide +kernel
theorem dX9_foretold_88 : decode cX9_foretold 88 = .ok (.iload 4, 2) := by decide +kernel
theorem dX9_foretold_90 : decode cX9_foretold 90 = .ok (.iload_n 2, 1) := by decide +kernel
theorem dX9_foretold_91 : decode cX9_foretold 91 = .ok (.if_icmp .le 17, 3) := by decide +kernel
theorem dX9_foretold_94 : decode cX9_foretold 94 = .ok (.goto 9, 3) := by decide +kernel
theorem dX9_foretold_97 : decode cX9_foretold 97 = .ok (.iload 4, 2) := by decide +kernel
theorem dX9_foretold_99 : decode cX9_foretold 99 = .ok (.iload_n 2, 1) := by decide +kernel
theorem dX9_foretold_100 : decode cX9_foretold 100 = .ok (.if_icmp .ge 8, 3) := by decide +kernel
theorem dX9_foretold_103 : decode cX9_foretold 103 = .ok (.iload 4, 2) := by decide +kernel
theorem dX9_foretold_105 : decode cX9_foretold 105 = .ok (.goto 4, 3) := by decide +kernel
theorem dX9_foretold_108 : decode cX9_foretold 108 = .ok (.iload_n 2, 1) := by decide +kernel
theorem dX9_foretold_109 : decode cX9_foretold 109 = .ok (.istore_n 2, 1) := by decide +kernel
theorem dX9_foretold_110 : decode cX9_foretold 110 = .ok (.iinc 3 1, 3) := by decide +kernel
theorem dX9_foretold_113 : decode cX9_foretold 113 = .ok (.goto (-104), 3) := by decide +kernel
theorem dX9_foretold_116 : decode cX9_foretold 116 = .ok (.iload_n 2, 1) := by decide +kernel
theorem dX9_foretold_117 : decode cX9_foretold 117 = .ok (.ireturn, 1) := by decide +kernel
set_option maxRecDepth 20000 in
theorem ggX9_count_X9_size : GoodIn wsX9_count wsX9_size := goodIn_r _ [13] (by decide +kernel) (by decide +kernel)
set_option maxRecDepth 20000 in
theorem gX9_count_X9_size : GoodIn wsX9_count (va_wsS RX9 145 yX9_size wsX9_size) := goodIn_app (goodIn_of _ (by decide +kernel)) ggX9_count_X9_size
theorem dX9_count_0 : decode cX9_count 0 = .ok (.aload_n 0, 1) := by decide +kernel
theorem dX9_count_1 : decode cX9_count 1 = .ok (.iconst 0, 1) := by decide +kernel
theorem dX9_count_2 : decode cX9_count 2 = .ok (.putfield 1, 3) := by decide +kernel
theorem dX9_count_5 : decode cX9_count 5 = .ok (.iconst 0, 1) := by decide +kernel
theorem dX9_count_6 : decode cX9_count 6 = .ok (.istore_n 2, 1) := by decide +kernel
theorem dX9_count_7 : decode cX9_count 7 = .ok (.iload_n 1, 1) := by decide +kernel
theorem dX9_count_8 : decode cX9_count 8 = .ok (.tableswitch 136 0 6 #[44, 49, 56, 61, 66, 71, 131], 44) := by decide +kernel
theorem dX9_count_52 : decode cX9_count 52 = .ok (.aload_n 0, 1) := by decide +kernel
theorem dX9_count_53 : decode cX9_count 53 = .ok (.getfield 120, 3) := by decide +kernel
theorem dX9_count_56 : decode cX9_count 56 = .ok (.ireturn, 1) := by decide +kernel
theorem dX9_count_57 : decode cX9_count 57 = .ok (.aload_n 0, 1) := by decide +kernel
theorem dX9_count_58 : decode cX9_count 58 = .ok (.getfield 34, 3) := by decide +kernel
theorem dX9_count_61 : decode cX9_count 61 = .ok (.iconst 0, 1) := by decide +kernel
theorem dX9_count_62 : decode cX9_count 62 = .ok (.iaload, 1) := by decide +kernel
theorem dX9_count_63 : decode cX9_count 63 = .ok (.ireturn, 1) := by decide +kernel
theorem dX9_count_64 : decode cX9_count 64 = .ok (.aload_n 0, 1) := by decide +kernel
theorem dX9_count_65 : decode cX9_count 65 = .ok (.getfield 123, 3) := by decide +kernel
theorem dX9_count_68 : decode cX9_count 68 = .ok (.ireturn, 1) := by decide +kernel
theorem dX9_count_69 : decode cX9_count 69 = .ok (.aload_n 0, 1) := by decide +kernel
theorem dX9_count_70 : decode cX9_count 70 = .ok (.getfield 126, 3) := by decide +kernel
theorem dX9_count_73 : decode cX9_count 73 = .ok (.ireturn, 1) := by decide +kernel
theorem dX9_count_74 : decode cX9_count 74 = .ok (.aload_n 0, 1) := by decide +kernel
theorem dX9_count_75 : decode cX9_count 75 = .ok (.getfield 187, 3) := by decide +kernel
theorem dX9_count_78 : decode cX9_count 78 = .ok (.ireturn, 1) := by decide +kernel
theorem dX9_count_79 : decode cX9_count 79 = .ok (.iconst 1, 1) := by decide +kernel
theorem dX9_count_80 : decode cX9_count 80 = .ok (.istore_n 3, 1) := by decide +kernel
theorem dX9_count_81 : decode cX9_count 81 = .ok (.iload_n 3, 1) := by decide +kernel
theorem dX9_count_82 : decode cX9_count 82 = .ok (.aload_n 0, 1) := by decide +kernel
theorem dX9_count_83 : decode cX9_count 83 = .ok (.getfield 34, 3) := by decide +kernel
theorem dX9_count_86 : decode cX9_count 86 = .ok (.iconst 0, 1) := by decide +kernel
theorem dX9_count_87 : decode cX9_count 87 = .ok (.iaload, 1) := by decide +kernel
theorem dX9_count_88 : decode cX9_count 88 = .ok (.if_icmp .ge 49, 3) := by decide +kernel
theorem dX9_count_91 : decode cX9_count 91 = .ok (.iload_n 2, 1) := by decide +kernel
theorem dX9_count_92 : decode cX9_count 92 = .ok (.aload_n 0, 1) := by decide +kernel
theorem dX9_count_93 : decode cX9_count 93 = .ok (.getfield 27, 3) := by decide +kernel
theorem dX9_count_96 : decode cX9_count 96 = .ok (.iload_n 3, 1) := by decide +kernel
theorem dX9_count_97 : decode cX9_count 97 = .ok (.iaload, 1) := by decide +kernel
theorem dX9_count_98 : decode cX9_count 98 = .ok (.aload_n 0, 1) := by decide +kernel
theorem dX9_count_99 : decode cX9_count 99 = .ok (.getfield 27, 3) := by decide +kernel
theorem dX9_count_102 : decode cX9_count 102 = .ok (.iload_n 3, 1) := by decide +kernel
theorem dX9_count_103 : decode cX9_count 103 = .ok (.iconst 1, 1) := by decide +kernel
theorem dX9_count_104 : decode cX9_count 104 = .ok (.isub, 1) := by decide +kernel
theorem dX9_count_105 : decode cX9_count 105 = .ok (.iaload, 1) := by decide +kernel
theorem dX9_count_106 : decode cX9_count 106 = .ok (.isub, 1) := by decide +kernel
theorem dX9_count_107 : decode cX9_count 107 = .ok (.invokestatic 145, 3) := by decide +kernel
theorem dX9_count_110 : decode cX9_count 110 = .ok (.aload_n 0, 1) := by decide +kernel
theorem dX9_count_111 : decode cX9_count 111 = .ok (.getfield 31, 3) := by decide +kernel
theorem dX9_count_114 : decode cX9_count 114 = .ok (.iload_n 3, 1) := by decide +kernel
theorem dX9_count_115 : decode cX9_count 115 = .ok (.iaload, 1) := by decide +kernel
theorem dX9_count_116 : decode cX9_count 116 = .ok (.aload_n 0, 1) := by decide +kernel
theorem dX9_count_117 : decode cX9_count 117 = .ok (.getfield 31, 3) := by decide +kernel
theorem dX9_count_120 : decode cX9_count 120 = .ok (.iload_n 3, 1) := by decide +kernel
theorem dX9_count_121 : decode cX9_count 121 = .ok (.iconst 1, 1) := by decide +kernel
theorem dX9_count_122 : decode cX9_count 122 = .ok (.isub, 1) := by decide +kernel
theorem dX9_count_123 : decode cX9_count 123 = .ok (.iaload, 1) := by decide +kernel
theorem dX9_count_124 : decode cX9_count 124 = .ok (.isub, 1) := by decide +kernel
theorem dX9_count_125 : decode cX9_count 125 = .ok (.invokestatic 145, 3) := by decide +kernel
theorem dX9_count_128 : decode cX9_count 128 = .ok (.iadd, 1) := by decide +kernel
theorem dX9_count_129 : decode cX9_count 129 = .ok (.iadd, 1) := by decide +kernel
theorem dX9_count_130 : decode cX9_count 130 = .ok (.istore_n 2, 1) := by decide +kernel
theorem dX9_count_131 : decode cX9_count 131 = .ok (.iinc 3 1, 3) := by decide +kernel
theorem dX9_count_134 : decode cX9_count 134 = .ok (.goto (-53), 3) := by decide +kernel
theorem dX9_count_137 : decode cX9_count 137 = .ok (.iload_n 2, 1) := by decide +kernel
theorem dX9_count_138 : decode cX9_count 138 = .ok (.ireturn, 1) := by decide +kernel
theorem dX9_count_139 : decode cX9_count 139 = .ok (.aload_n 0, 1) := by decide +kernel
theorem dX9_count_140 : decode cX9_count 140 = .ok (.getfield 7, 3) := by decide +kernel
theorem dX9_count_143 : decode cX9_count 143 = .ok (.ireturn, 1) := by decide +kernel
theorem dX9_count_144 : decode cX9_count 144 = .ok (.iconst (-1), 1) := by decide +kernel
theorem dX9_count_145 : decode cX9_count 145 = .ok (.ireturn, 1) := by decide +kernel
theorem dJ6_compare_7cf53_0 : decode cJ6_compare_7cf53 0 = .ok (.iload_n 0, 1) := by decide +kernel
theorem dJ6_compare_7cf53_1 : decode cJ6_compare_7cf53 1 = .ok (.iload_n 1, 1) := by decide +kernel
theorem dJ6_compare_7cf53_2 : decode cJ6_compare_7cf53 2 = .ok (.if_icmp .ge 7, 3) := by decide +kernel
theorem dJ6_compare_7cf53_5 : decode cJ6_compare_7cf53 5 = .ok (.iconst (-1), 1) := by decide +kernel
theorem dJ6_compare_7cf53_6 : decode cJ6_compare_7cf53 6 = .ok (.goto 13, 3) := by decide +kernel
theorem dJ6_compare_7cf53_9 : decode cJ6_compare_7cf53 9 = .ok (.iload_n 0, 1) := by decide +kernel
theorem dJ6_compare_7cf53_10 : decode cJ6_compare_7cf53 10 = .ok (.iload_n 1, 1) := by decide +kernel
theorem dJ6_compare_7cf53_11 : decode cJ6_compare_7cf53 11 = .ok (.if_icmp .ne 7, 3) := by decide +kernel
theorem dJ6_compare_7cf53_14 : decode cJ6_compare_7cf53 14 = .ok (.iconst 0, 1) := by decide +kernel
theorem dJ6_compare_7cf53_15 : decode cJ6_compare_7cf53 15 = .ok (.goto 4, 3) := by decide +kernel
theorem dJ6_compare_7cf53_18 : decode cJ6_compare_7cf53 18 = .ok (.iconst 1, 1) := by decide +kernel
theorem dJ6_compare_7cf53_19 : decode cJ6_compare_7cf53 19 = .ok (.ireturn, 1) := by decide +kernel
theorem dJ9_abs_0f7a4_0 : decode cJ9_abs_0f7a4 0 = .ok (.iload_n 0, 1) := by decide +kernel
theorem dJ9_abs_0f7a4_1 : decode cJ9_abs_0f7a4 1 = .ok (.ifCond .ge 8, 3) := by decide +kernel
theorem dJ9_abs_0f7a4_4 : decode cJ9_abs_0f7a4 4 = .ok (.iload_n 0, 1) := by decide +kernel
theorem dJ9_abs_0f7a4_5 : decode cJ9_abs_0f7a4 5 = .ok (.ineg, 1) := by decide +kernel
theorem dJ9_abs_0f7a4_6 : decode cJ9_abs_0f7a4 6 = .ok (.goto 4, 3) := by decide +kernel
theorem dJ9_abs_0f7a4_9 : decode cJ9_abs_0f7a4 9 = .ok (.iload_n 0, 1) := by decide +kernel
theorem dJ9_abs_0f7a4_10 : decode cJ9_abs_0f7a4 10 = .ok (.ireturn, 1) := by decide +kernel
theorem dJ9_max_7cf53_0 : decode cJ9_max_7cf53 0 = .ok (.iload_n 0, 1) := by decide +kernel
theorem dJ9_max_7cf53_1 : decode cJ9_max_7cf53 1 = .ok (.iload_n 1, 1) := by decide +kernel
theorem dJ9_max_7cf53_2 : decode cJ9_max_7cf53 2 = .ok (.if_icmp .lt 7, 3) := by decide +kernel
theorem dJ9_max_7cf53_5 : decode cJ9_max_7cf53 5 = .ok (.iload_n 0, 1) := by decide +kernel
theorem dJ9_max_7cf53_6 : decode cJ9_max_7cf53 6 = .ok (.goto 4, 3) := by decide +kernel
theorem dJ9_max_7cf53_9 : decode cJ9_max_7cf53 9 = .ok (.iload_n 1, 1) := by decide +kernel
theorem dJ9_max_7cf53_10 : decode cJ9_max_7cf53 10 = .ok (.ireturn, 1) := by decide +kernel
theorem dJ9_min_7cf53_0 : decode cJ9_min_7cf53 0 = .ok (.iload_n 0, 1) := by decide +kernel
theorem dJ9_min_7cf53_1 : decode cJ9_min_7cf53 1 = .ok (.iload_n 1, 1) := by decide +kernel
theorem dJ9_min_7cf53_2 : decode cJ9_min_7cf53 2 = .ok (.if_icmp .gt 7, 3) := by decide +kernel
theorem dJ9_min_7cf53_5 : decode cJ9_min_7cf53 5 = .ok (.iload_n 0, 1) := by decide +kernel
theorem dJ9_min_7cf53_6 : decode cJ9_min_7cf53 6 = .ok (.goto 4, 3) := by decide +kernel
theorem dJ9_min_7cf53_9 : decode cJ9_min_7cf53 9 = .ok (.iload_n 1, 1) := by decide +kernel
theorem dJ9_min_7cf53_10 : decode cJ9_min_7cf53 10 = .ok (.ireturn, 1) := by decide +kernel
theorem dL_point_0 : decode cL_point 0 = .ok (.aload_n 3, 1) := by decide +kernel
theorem dL_point_1 : decode cL_point 1 = .ok (.iconst 0, 1) := by decide +kernel
theorem dL_point_2 : decode cL_point 2 = .ok (.aload_n 0, 1) := by decide +kernel
theorem dL_point_3 : decode cL_point 3 = .ok (.iload_n 1, 1) := by decide +kernel
theorem dL_point_4 : decode cL_point 4 = .ok (.iload_n 2, 1) := by decide +kernel
theorem dL_point_5 : decode cL_point 5 = .ok (.invokevirtual 7, 3) := by decide +kernel
theorem dL_point_8 : decode cL_point 8 = .ok (.i2l, 1) := by decide +kernel
theorem dL_point_9 : decode cL_point 9 = .ok (.lastore, 1) := by decide +kernel
theorem dL_point_10 : decode cL_point 10 = .ok (.goto 7, 3) := by decide +kernel
theorem dL_point_13 : decode cL_point 13 = .ok (.astore 4, 2) := by decide +kernel
theorem dL_point_15 : decode cL_point 15 = .ok (.iconst 1, 1) := by decide +kernel
theorem dL_point_16 : decode cL_point 16 = .ok (.ireturn, 1) := by decide +kernel
theorem dL_point_17 : decode cL_point 17 = .ok (.iconst 0, 1) := by decide +kernel
theorem dL_point_18 : decode cL_point 18 = .ok (.ireturn, 1) := by decide +kernel
theorem dL_loop_0 : decode cL_loop 0 = .ok (.aload_n 3, 1) := by decide +kernel
theorem dL_loop_1 : decode cL_loop 1 = .ok (.iconst 0, 1) := by decide +kernel
theorem dL_loop_2 : decode cL_loop 2 = .ok (.aload_n 0, 1) := by decide +kernel
theorem dL_loop_3 : decode cL_loop 3 = .ok (.iload_n 1, 1) := by decide +kernel
theorem dL_loop_4 : decode cL_loop 4 = .ok (.iload_n 2, 1) := by decide +kernel
theorem dL_loop_5 : decode cL_loop 5 = .ok (.invokevirtual 15, 3) := by decide +kernel
theorem dL_loop_8 : decode cL_loop 8 = .ok (.i2l, 1) := by decide +kernel
theorem dL_loop_9 : decode cL_loop 9 = .ok (.lastore, 1) := by decide +kernel
theorem dL_loop_10 : decode cL_loop 10 = .ok (.goto 7, 3) := by decide +kernel
theorem dL_loop_13 : decode cL_loop 13 = .ok (.astore 4, 2) := by decide +kernel
theorem dL_loop_15 : decode cL_loop 15 = .ok (.iconst 1, 1) := by decide +kernel
theorem dL_loop_16 : decode cL_loop 16 = .ok (.ireturn, 1) := by decide +kernel
theorem dL_loop_17 : decode cL_loop 17 = .ok (.iconst 0, 1) := by decide +kernel
theorem dL_loop_18 : decode cL_loop 18 = .ok (.ireturn, 1) := by decide +kernel
theorem dL_owner_0 : decode cL_owner 0 = .ok (.aload_n 3, 1) := by decide +kernel
theorem dL_owner_1 : decode cL_owner 1 = .ok (.iconst 0, 1) := by decide +kernel
theorem dL_owner_2 : decode cL_owner 2 = .ok (.aload_n 0, 1) := by decide +kernel
theorem dL_owner_3 : decode cL_owner 3 = .ok (.iload_n 1, 1) := by decide +kernel
theorem dL_owner_4 : decode cL_owner 4 = .ok (.iload_n 2, 1) := by decide +kernel
theorem dL_owner_5 : decode cL_owner 5 = .ok (.invokevirtual 18, 3) := by decide +kernel
theorem dL_owner_8 : decode cL_owner 8 = .ok (.i2l, 1) := by decide +kernel
theorem dL_owner_9 : decode cL_owner 9 = .ok (.lastore, 1) := by decide +kernel
theorem dL_owner_10 : decode cL_owner 10 = .ok (.goto 7, 3) := by decide +kernel
theorem dL_owner_13 : decode cL_owner 13 = .ok (.astore 4, 2) := by decide +kernel
theorem dL_owner_15 : decode cL_owner 15 = .ok (.iconst 1, 1) := by decide +kernel
theorem dL_owner_16 : decode cL_owner 16 = .ok (.ireturn, 1) := by decide +kernel
theorem dL_owner_17 : decode cL_owner 17 = .ok (.iconst 0, 1) := by decide +kernel
theorem dL_owner_18 : decode cL_owner 18 = .ok (.ireturn, 1) := by decide +kernel
theorem dL_law_0 : decode cL_law 0 = .ok (.new 8, 3) := by decide +kernel
theorem dL_law_3 : decode cL_law 3 = .ok (.dup, 1) := by decide +kernel
theorem dL_law_4 : decode cL_law 4 = .ok (.invokespecial 21, 3) := by decide +kernel
theorem dL_law_7 : decode cL_law 7 = .ok (.astore_n 1, 1) := by decide +kernel
theorem dL_law_8 : decode cL_law 8 = .ok (.new 22, 3) := by decide +kernel
theorem dL_law_11 : decode cL_law 11 = .ok (.dup, 1) := by decide +kernel
theorem dL_law_12 : decode cL_law 12 = .ok (.invokespecial 24, 3) := by decide +kernel
theorem dL_law_15 : decode cL_law 15 = .ok (.astore_n 2, 1) := by decide +kernel
theorem dL_law_16 : decode cL_law 16 = .ok (.iconst 1, 1) := by decide +kernel
theorem dL_law_17 : decode cL_law 17 = .ok (.newarray .long, 2) := by decide +kernel
theorem dL_law_19 : decode cL_law 19 = .ok (.astore_n 3, 1) := by decide +kernel
theorem dL_law_20 : decode cL_law 20 = .ok (.iconst 0, 1) := by decide +kernel
theorem dL_law_21 : decode cL_law 21 = .ok (.istore 4, 2) := by decide +kernel
theorem dL_law_23 : decode cL_law 23 = .ok (.iload 4, 2) := by decide +kernel
theorem dL_law_25 : decode cL_law 25 = .ok (.aload_n 0, 1) := by decide +kernel
theorem dL_law_26 : decode cL_law 26 = .ok (.arraylength, 1) := by decide +kernel
theorem dL_law_27 : decode cL_law 27 = .ok (.bipush 7, 2) := by decide +kernel
theorem dL_law_29 : decode cL_law 29 = .ok (.isub, 1) := by decide +kernel
theorem dL_law_30 : decode cL_law 30 = .ok (.if_icmp .gt 833, 3) := by decide +kernel
theorem dL_law_33 : decode cL_law 33 = .ok (.aload_n 0, 1) := by decide +kernel
theorem dL_law_34 : decode cL_law 34 = .ok (.iload 4, 2) := by decide +kernel
theorem dL_law_36 : decode cL_law 36 = .ok (.iaload, 1) := by decide +kernel
theorem dL_law_37 : decode cL_law 37 = .ok (.bipush 31, 2) := by decide +kernel
theorem dL_law_39 : decode cL_law 39 = .ok (.iand, 1) := by decide +kernel
theorem dL_law_40 : decode cL_law 40 = .ok (.tableswitch 817 0 17 #[88, 161, 186, 199, 212, 299, 324, 392, 405, 473, 510, 547, 615, 664, 689, 726, 751, 792], 88) := by decide +kernel
theorem dL_law_128 : decode cL_law 128 = .ok (.aload_n 1, 1) := by decide +kernel
theorem dL_law_129 : decode cL_law 129 = .ok (.aload_n 0, 1) := by decide +kernel
theorem dL_law_130 : decode cL_law 130 = .ok (.iload 4, 2) := by decide +kernel
theorem dL_law_132 : decode cL_law 132 = .ok (.iconst 1, 1) := by decide +kernel
theorem dL_law_133 : decode cL_law 133 = .ok (.iadd, 1) := by decide +kernel
theorem dL_law_134 : decode cL_law 134 = .ok (.iaload, 1) := by decide +kernel
theorem dL_law_135 : decode cL_law 135 = .ok (.aload_n 0, 1) := by decide +kernel
theorem dL_law_136 : decode cL_law 136 = .ok (.iload 4, 2) := by decide +kernel
theorem dL_law_138 : decode cL_law 138 = .ok (.iconst 2, 1) := by decide +kernel
theorem dL_law_139 : decode cL_law 139 = .ok (.iadd, 1) := by decide +kernel
theorem dL_law_140 : decode cL_law 140 = .ok (.iaload, 1) := by decide +kernel
theorem dL_law_141 : decode cL_law 141 = .ok (.aload_n 0, 1) := by decide +kernel
theorem dL_law_142 : decode cL_law 142 = .ok (.iload 4, 2) := by decide +kernel
theorem dL_law_144 : decode cL_law 144 = .ok (.iconst 3, 1) := by decide +kernel
theorem dL_law_145 : decode cL_law 145 = .ok (.iadd, 1) := by decide +kernel
theorem dL_law_146 : decode cL_law 146 = .ok (.iaload, 1) := by decide +kernel
theorem dL_law_147 : decode cL_law 147 = .ok (.aload_n 0, 1) := by decide +kernel
theorem dL_law_148 : decode cL_law 148 = .ok (.iload 4, 2) := by decide +kernel
theorem dL_law_150 : decode cL_law 150 = .ok (.iconst 4, 1) := by decide +kernel
theorem dL_law_151 : decode cL_law 151 = .ok (.iadd, 1) := by decide +kernel
theorem dL_law_152 : decode cL_law 152 = .ok (.iaload, 1) := by decide +kernel
theorem dL_law_153 : decode cL_law 153 = .ok (.aload_n 0, 1) := by decide +kernel
theorem dL_law_154 : decode cL_law 154 = .ok (.iload 4, 2) := by decide +kernel
theorem dL_law_156 : decode cL_law 156 = .ok (.iconst 5, 1) := by decide +kernel
theorem dL_law_157 : decode cL_law 157 = .ok (.iadd, 1) := by decide +kernel
theorem dL_law_158 : decode cL_law 158 = .ok (.iaload, 1) := by decide +kernel
theorem dL_law_159 : decode cL_law 159 = .ok (.invokevirtual 25, 3) := by decide +kernel
theorem dL_law_162 : decode cL_law 162 = .ok (.aload_n 2, 1) := by decide +kernel
theorem dL_law_163 : decode cL_law 163 = .ok (.aload_n 0, 1) := by decide +kernel
theorem dL_law_164 : decode cL_law 164 = .ok (.iload 4, 2) := by decide +kernel
theorem dL_law_166 : decode cL_law 166 = .ok (.iconst 1, 1) := by decide +kernel
theorem dL_law_167 : decode cL_law 167 = .ok (.iadd, 1) := by decide +kernel
theorem dL_law_168 : decode cL_law 168 = .ok (.iaload, 1) := by decide +kernel
theorem dL_law_169 : decode cL_law 169 = .ok (.aload_n 0, 1) := by decide +kernel
theorem dL_law_170 : decode cL_law 170 = .ok (.iload 4, 2) := by decide +kernel
theorem dL_law_172 : decode cL_law 172 = .ok (.iconst 2, 1) := by decide +kernel
theorem dL_law_173 : decode cL_law 173 = .ok (.iadd, 1) := by decide +kernel
theorem dL_law_174 : decode cL_law 174 = .ok (.iaload, 1) := by decide +kernel
theorem dL_law_175 : decode cL_law 175 = .ok (.aload_n 0, 1) := by decide +kernel
theorem dL_law_176 : decode cL_law 176 = .ok (.iload 4, 2) := by decide +kernel
theorem dL_law_178 : decode cL_law 178 = .ok (.iconst 3, 1) := by decide +kernel
theorem dL_law_179 : decode cL_law 179 = .ok (.iadd, 1) := by decide +kernel
theorem dL_law_180 : decode cL_law 180 = .ok (.iaload, 1) := by decide +kernel
theorem dL_law_181 : decode cL_law 181 = .ok (.aload_n 0, 1) := by decide +kernel
theorem dL_law_182 : decode cL_law 182 = .ok (.iload 4, 2) := by decide +kernel
theorem dL_law_184 : decode cL_law 184 = .ok (.iconst 4, 1) := by decide +kernel
theorem dL_law_185 : decode cL_law 185 = .ok (.iadd, 1) := by decide +kernel
theorem dL_law_186 : decode cL_law 186 = .ok (.iaload, 1) := by decide +kernel
theorem dL_law_187 : decode cL_law 187 = .ok (.aload_n 0, 1) := by decide +kernel
theorem dL_law_188 : decode cL_law 188 = .ok (.iload 4, 2) := by decide +kernel
theorem dL_law_190 : decode cL_law 190 = .ok (.iconst 5, 1) := by decide +kernel
theorem dL_law_191 : decode cL_law 191 = .ok (.iadd, 1) := by decide +kernel
theorem dL_law_192 : decode cL_law 192 = .ok (.iaload, 1) := by decide +kernel
theorem dL_law_193 : decode cL_law 193 = .ok (.invokevirtual 29, 3) := by decide +kernel
theorem dL_law_196 : decode cL_law 196 = .ok (.if_icmp .eq 661, 3) := by decide +kernel
theorem dL_law_199 : decode cL_law 199 = .ok (.iconst 0, 1) := by decide +kernel
theorem dL_law_200 : decode cL_law 200 = .ok (.ireturn, 1) := by decide +kernel
theorem dL_law_201 : decode cL_law 201 = .ok (.aload_n 1, 1) := by decide +kernel
theorem dL_law_202 : decode cL_law 202 = .ok (.aload_n 0, 1) := by decide +kernel
theorem dL_law_203 : decode cL_law 203 = .ok (.iload 4, 2) := by decide +kernel
theorem dL_law_205 : decode cL_law 205 = .ok (.iconst 1, 1) := by decide +kernel
theorem dL_law_206 : decode cL_law 206 = .ok (.iadd, 1) := by decide +kernel
theorem dL_law_207 : decode cL_law 207 = .ok (.iaload, 1) := by decide +kernel
theorem dL_law_208 : decode cL_law 208 = .ok (.invokevirtual 30, 3) := by decide +kernel
theorem dL_law_211 : decode cL_law 211 = .ok (.aload_n 2, 1) := by decide +kernel
theorem dL_law_212 : decode cL_law 212 = .ok (.aload_n 0, 1) := by decide +kernel
theorem dL_law_213 : decode cL_law 213 = .ok (.iload 4, 2) := by decide +kernel
theorem dL_law_215 : decode cL_law 215 = .ok (.iconst 1, 1) := by decide +kernel
theorem dL_law_216 : decode cL_law 216 = .ok (.iadd, 1) := by decide +kernel
theorem dL_law_217 : decode cL_law 217 = .ok (.iaload, 1) := by decide +kernel
theorem dL_law_218 : decode cL_law 218 = .ok (.invokevirtual 34, 3) := by decide +kernel
theorem dL_law_221 : decode cL_law 221 = .ok (.if_icmp .eq 636, 3) := by decide +kernel
theorem dL_law_224 : decode cL_law 224 = .ok (.iconst 0, 1) := by decide +kernel
theorem dL_law_225 : decode cL_law 225 = .ok (.ireturn, 1) := by decide +kernel
theorem dL_law_226 : decode cL_law 226 = .ok (.aload_n 1, 1) := by decide +kernel
theorem dL_law_227 : decode cL_law 227 = .ok (.invokevirtual 35, 3) := by decide +kernel
theorem dL_law_230 : decode cL_law 230 = .ok (.aload_n 2, 1) := by decide +kernel
theorem dL_law_231 : decode cL_law 231 = .ok (.invokevirtual 39, 3) := by decide +kernel
theorem dL_law_234 : decode cL_law 234 = .ok (.if_icmp .eq 623, 3) := by decide +kernel
theorem dL_law_237 : decode cL_law 237 = .ok (.iconst 0, 1) := by decide +kernel
theorem dL_law_238 : decode cL_law 238 = .ok (.ireturn, 1) := by decide +kernel
theorem dL_law_239 : decode cL_law 239 = .ok (.aload_n 1, 1) := by decide +kernel
theorem dL_law_240 : decode cL_law 240 = .ok (.invokevirtual 40, 3) := by decide +kernel
theorem dL_law_243 : decode cL_law 243 = .ok (.aload_n 2, 1) := by decide +kernel
theorem dL_law_244 : decode cL_law 244 = .ok (.invokevirtual 43, 3) := by decide +kernel
theorem dL_law_247 : decode cL_law 247 = .ok (.if_icmp .eq 610, 3) := by decide +kernel
theorem dL_law_250 : decode cL_law 250 = .ok (.iconst 0, 1) := by decide +kernel
theorem dL_law_251 : decode cL_law 251 = .ok (.ireturn, 1) := by decide +kernel
theorem dL_law_252 : decode cL_law 252 = .ok (.aload_n 1, 1) := by decide +kernel
theorem dL_law_253 : decode cL_law 253 = .ok (.aload_n 0, 1) := by decide +kernel
theorem dL_law_254 : decode cL_law 254 = .ok (.iload 4, 2) := by decide +kernel
theorem dL_law_256 : decode cL_law 256 = .ok (.iconst 1, 1) := by decide +kernel
theorem dL_law_257 : decode cL_law 257 = .ok (.iadd, 1) := by decide +kernel
theorem dL_law_258 : decode cL_law 258 = .ok (.iaload, 1) := by decide +kernel
theorem dL_law_259 : decode cL_law 259 = .ok (.aload_n 0, 1) := by decide +kernel
theorem dL_law_260 : decode cL_law 260 = .ok (.iload 4, 2) := by decide +kernel
theorem dL_law_262 : decode cL_law 262 = .ok (.iconst 2, 1) := by decide +kernel
theorem dL_law_263 : decode cL_law 263 = .ok (.iadd, 1) := by decide +kernel
theorem dL_law_264 : decode cL_law 264 = .ok (.iaload, 1) := by decide +kernel
theorem dL_law_265 : decode cL_law 265 = .ok (.aload_n 0, 1) := by decide +kernel
theorem dL_law_266 : decode cL_law 266 = .ok (.iload 4, 2) := by decide +kernel
theorem dL_law_268 : decode cL_law 268 = .ok (.iconst 3, 1) := by decide +kernel
theorem dL_law_269 : decode cL_law 269 = .ok (.iadd, 1) := by decide +kernel
theorem dL_law_270 : decode cL_law 270 = .ok (.iaload, 1) := by decide +kernel
theorem dL_law_271 : decode cL_law 271 = .ok (.aload_n 0, 1) := by decide +kernel
theorem dL_law_272 : decode cL_law 272 = .ok (.iload 4, 2) := by decide +kernel
theorem dL_law_274 : decode cL_law 274 = .ok (.iconst 4, 1) := by decide +kernel
theorem dL_law_275 : decode cL_law 275 = .ok (.iadd, 1) := by decide +kernel
theorem dL_law_276 : decode cL_law 276 = .ok (.iaload, 1) := by decide +kernel
theorem dL_law_277 : decode cL_law 277 = .ok (.aload_n 0, 1) := by decide +kernel
theorem dL_law_278 : decode cL_law 278 = .ok (.iload 4, 2) := by decide +kernel
theorem dL_law_280 : decode cL_law 280 = .ok (.iconst 5, 1) := by decide +kernel
theorem dL_law_281 : decode cL_law 281 = .ok (.iadd, 1) := by decide +kernel
theorem dL_law_282 : decode cL_law 282 = .ok (.iaload, 1) := by decide +kernel
theorem dL_law_283 : decode cL_law 283 = .ok (.aload_n 0, 1) := by decide +kernel
theorem dL_law_284 : decode cL_law 284 = .ok (.iload 4, 2) := by decide +kernel
theorem dL_law_286 : decode cL_law 286 = .ok (.bipush 6, 2) := by decide +kernel
theorem dL_law_288 : decode cL_law 288 = .ok (.iadd, 1) := by decide +kernel
theorem dL_law_289 : decode cL_law 289 = .ok (.iaload, 1) := by decide +kernel
theorem dL_law_290 : decode cL_law 290 = .ok (.invokevirtual 44, 3) := by decide +kernel
theorem dL_law_293 : decode cL_law 293 = .ok (.aload_n 2, 1) := by decide +kernel
theorem dL_law_294 : decode cL_law 294 = .ok (.aload_n 0, 1) := by decide +kernel
theorem dL_law_295 : decode cL_law 295 = .ok (.iload 4, 2) := by decide +kernel
theorem dL_law_297 : decode cL_law 297 = .ok (.iconst 1, 1) := by decide +kernel
theorem dL_law_298 : decode cL_law 298 = .ok (.iadd, 1) := by decide +kernel
theorem dL_law_299 : decode cL_law 299 = .ok (.iaload, 1) := by decide +kernel
theorem dL_law_300 : decode cL_law 300 = .ok (.aload_n 0, 1) := by decide +kernel
theorem dL_law_301 : decode cL_law 301 = .ok (.iload 4, 2) := by decide +kernel
theorem dL_law_303 : decode cL_law 303 = .ok (.iconst 2, 1) := by decide +kernel
theorem dL_law_304 : decode cL_law 304 = .ok (.iadd, 1) := by decide +kernel
theorem dL_law_305 : decode cL_law 305 = .ok (.iaload, 1) := by decide +kernel
theorem dL_law_306 : decode cL_law 306 = .ok (.aload_n 0, 1) := by decide +kernel
theorem dL_law_307 : decode cL_law 307 = .ok (.iload 4, 2) := by decide +kernel
theorem dL_law_309 : decode cL_law 309 = .ok (.iconst 3, 1) := by decide +kernel
theorem dL_law_310 : decode cL_law 310 = .ok (.iadd, 1) := by decide +kernel
theorem dL_law_311 : decode cL_law 311 = .ok (.iaload, 1) := by decide +kernel
theorem dL_law_312 : decode cL_law 312 = .ok (.aload_n 0, 1) := by decide +kernel
theorem dL_law_313 : decode cL_law 313 = .ok (.iload 4, 2) := by decide +kernel
theorem dL_law_315 : decode cL_law 315 = .ok (.iconst 4, 1) := by decide +kernel
theorem dL_law_316 : decode cL_law 316 = .ok (.iadd, 1) := by decide +kernel
theorem dL_law_317 : decode cL_law 317 = .ok (.iaload, 1) := by decide +kernel
theorem dL_law_318 : decode cL_law 318 = .ok (.aload_n 0, 1) := by decide +kernel
theorem dL_law_319 : decode cL_law 319 = .ok (.iload 4, 2) := by decide +kernel
theorem dL_law_321 : decode cL_law 321 = .ok (.iconst 5, 1) := by decide +kernel
theorem dL_law_322 : decode cL_law 322 = .ok (.iadd, 1) := by decide +kernel
theorem dL_law_323 : decode cL_law 323 = .ok (.iaload, 1) := by decide +kernel
theorem dL_law_324 : decode cL_law 324 = .ok (.aload_n 0, 1) := by decide +kernel
theorem dL_law_325 : decode cL_law 325 = .ok (.iload 4, 2) := by decide +kernel
theorem dL_law_327 : decode cL_law 327 = .ok (.bipush 6, 2) := by decide +kernel
theorem dL_law_329 : decode cL_law 329 = .ok (.iadd, 1) := by decide +kernel
theorem dL_law_330 : decode cL_law 330 = .ok (.iaload, 1) := by decide +kernel
theorem dL_law_331 : decode cL_law 331 = .ok (.invokevirtual 48, 3) := by decide +kernel
theorem dL_law_334 : decode cL_law 334 = .ok (.if_icmp .eq 523, 3) := by decide +kernel
theorem dL_law_337 : decode cL_law 337 = .ok (.iconst 0, 1) := by decide +kernel
theorem dL_law_338 : decode cL_law 338 = .ok (.ireturn, 1) := by decide +kernel
theorem dL_law_339 : decode cL_law 339 = .ok (.aload_n 1, 1) := by decide +kernel
theorem dL_law_340 : decode cL_law 340 = .ok (.aload_n 0, 1) := by decide +kernel
theorem dL_law_341 : decode cL_law 341 = .ok (.iload 4, 2) := by decide +kernel
theorem dL_law_343 : decode cL_law 343 = .ok (.iconst 1, 1) := by decide +kernel
theorem dL_law_344 : decode cL_law 344 = .ok (.iadd, 1) := by decide +kernel
theorem dL_law_345 : decode cL_law 345 = .ok (.iaload, 1) := by decide +kernel
theorem dL_law_346 : decode cL_law 346 = .ok (.invokevirtual 49, 3) := by decide +kernel
theorem dL_law_349 : decode cL_law 349 = .ok (.aload_n 2, 1) := by decide +kernel
theorem dL_law_350 : decode cL_law 350 = .ok (.aload_n 0, 1) := by decide +kernel
theorem dL_law_351 : decode cL_law 351 = .ok (.iload 4, 2) := by decide +kernel
theorem dL_law_353 : decode cL_law 353 = .ok (.iconst 1, 1) := by decide +kernel
theorem dL_law_354 : decode cL_law 354 = .ok (.iadd, 1) := by decide +kernel
theorem dL_law_355 : decode cL_law 355 = .ok (.iaload, 1) := by decide +kernel
theorem dL_law_356 : decode cL_law 356 = .ok (.invokevirtual 53, 3) := by decide +kernel
theorem dL_law_359 : decode cL_law 359 = .ok (.if_icmp .eq 498, 3) := by decide +kernel
theorem dL_law_362 : decode cL_law 362 = .ok (.iconst 0, 1) := by decide +kernel
theorem dL_law_363 : decode cL_law 363 = .ok (.ireturn, 1) := by decide +kernel
theorem dL_law_364 : decode cL_law 364 = .ok (.aload_n 1, 1) := by decide +kernel
theorem dL_law_365 : decode cL_law 365 = .ok (.aload_n 0, 1) := by decide +kernel
theorem dL_law_366 : decode cL_law 366 = .ok (.iload 4, 2) := by decide +kernel
theorem dL_law_368 : decode cL_law 368 = .ok (.iconst 1, 1) := by decide +kernel
theorem dL_law_369 : decode cL_law 369 = .ok (.iadd, 1) := by decide +kernel
theorem dL_law_370 : decode cL_law 370 = .ok (.iaload, 1) := by decide +kernel
theorem dL_law_371 : decode cL_law 371 = .ok (.aload_n 0, 1) := by decide +kernel
theorem dL_law_372 : decode cL_law 372 = .ok (.iload 4, 2) := by decide +kernel
theorem dL_law_374 : decode cL_law 374 = .ok (.iconst 2, 1) := by decide +kernel
theorem dL_law_375 : decode cL_law 375 = .ok (.iadd, 1) := by decide +kernel
theorem dL_law_376 : decode cL_law 376 = .ok (.iaload, 1) := by decide +kernel
theorem dL_law_377 : decode cL_law 377 = .ok (.aload_n 3, 1) := by decide +kernel
theorem dL_law_378 : decode cL_law 378 = .ok (.invokestatic 54, 3) := by decide +kernel
theorem dL_law_381 : decode cL_law 381 = .ok (.istore 5, 2) := by decide +kernel
theorem dL_law_383 : decode cL_law 383 = .ok (.aload_n 2, 1) := by decide +kernel
theorem dL_law_384 : decode cL_law 384 = .ok (.aload_n 0, 1) := by decide +kernel
theorem dL_law_385 : decode cL_law 385 = .ok (.iload 4, 2) := by decide +kernel
theorem dL_law_387 : decode cL_law 387 = .ok (.iconst 1, 1) := by decide +kernel
theorem dL_law_388 : decode cL_law 388 = .ok (.iadd, 1) := by decide +kernel
theorem dL_law_389 : decode cL_law 389 = .ok (.iaload, 1) := by decide +kernel
theorem dL_law_390 : decode cL_law 390 = .ok (.aload_n 0, 1) := by decide +kernel
theorem dL_law_391 : decode cL_law 391 = .ok (.iload 4, 2) := by decide +kernel
theorem dL_law_393 : decode cL_law 393 = .ok (.iconst 2, 1) := by decide +kernel
theorem dL_law_394 : decode cL_law 394 = .ok (.iadd, 1) := by decide +kernel
theorem dL_law_395 : decode cL_law 395 = .ok (.iaload, 1) := by decide +kernel
theorem dL_law_396 : decode cL_law 396 = .ok (.invokevirtual 59, 3) := by decide +kernel
theorem dL_law_399 : decode cL_law 399 = .ok (.istore 6, 2) := by decide +kernel
theorem dL_law_401 : decode cL_law 401 = .ok (.aload_n 2, 1) := by decide +kernel
theorem dL_law_402 : decode cL_law 402 = .ok (.invokevirtual 60, 3) := by decide +kernel
theorem dL_law_405 : decode cL_law 405 = .ok (.iload 5, 2) := by decide +kernel
theorem dL_law_407 : decode cL_law 407 = .ok (.if_icmp .eq 5, 3) := by decide +kernel
theorem dL_law_410 : decode cL_law 410 = .ok (.iconst 0, 1) := by decide +kernel
theorem dL_law_411 : decode cL_law 411 = .ok (.ireturn, 1) := by decide +kernel
theorem dL_law_412 : decode cL_law 412 = .ok (.iload 5, 2) := by decide +kernel
theorem dL_law_414 : decode cL_law 414 = .ok (.ifCond .ne 15, 3) := by decide +kernel
theorem dL_law_417 : decode cL_law 417 = .ok (.aload_n 3, 1) := by decide +kernel
theorem dL_law_418 : decode cL_law 418 = .ok (.iconst 0, 1) := by decide +kernel
theorem dL_law_419 : decode cL_law 419 = .ok (.laload, 1) := by decide +kernel
theorem dL_law_420 : decode cL_law 420 = .ok (.iload 6, 2) := by decide +kernel
theorem dL_law_422 : decode cL_law 422 = .ok (.i2l, 1) := by decide +kernel
theorem dL_law_423 : decode cL_law 423 = .ok (.lcmp, 1) := by decide +kernel
theorem dL_law_424 : decode cL_law 424 = .ok (.ifCond .eq 5, 3) := by decide +kernel
theorem dL_law_427 : decode cL_law 427 = .ok (.iconst 0, 1) := by decide +kernel
theorem dL_law_428 : decode cL_law 428 = .ok (.ireturn, 1) := by decide +kernel
theorem dL_law_429 : decode cL_law 429 = .ok (.goto 428, 3) := by decide +kernel
theorem dL_law_432 : decode cL_law 432 = .ok (.aload_n 1, 1) := by decide +kernel
theorem dL_law_433 : decode cL_law 433 = .ok (.invokevirtual 64, 3) := by decide +kernel
theorem dL_law_436 : decode cL_law 436 = .ok (.aload_n 2, 1) := by decide +kernel
theorem dL_law_437 : decode cL_law 437 = .ok (.invokevirtual 67, 3) := by decide +kernel
theorem dL_law_440 : decode cL_law 440 = .ok (.if_icmp .eq 417, 3) := by decide +kernel
theorem dL_law_443 : decode cL_law 443 = .ok (.iconst 0, 1) := by decide +kernel
theorem dL_law_444 : decode cL_law 444 = .ok (.ireturn, 1) := by decide +kernel
theorem dL_law_445 : decode cL_law 445 = .ok (.aload_n 1, 1) := by decide +kernel
theorem dL_law_446 : decode cL_law 446 = .ok (.aload_n 0, 1) := by decide +kernel
theorem dL_law_447 : decode cL_law 447 = .ok (.iload 4, 2) := by decide +kernel
theorem dL_law_449 : decode cL_law 449 = .ok (.iconst 1, 1) := by decide +kernel
theorem dL_law_450 : decode cL_law 450 = .ok (.iadd, 1) := by decide +kernel
theorem dL_law_451 : decode cL_law 451 = .ok (.iaload, 1) := by decide +kernel
theorem dL_law_452 : decode cL_law 452 = .ok (.aload_n 0, 1) := by decide +kernel
theorem dL_law_453 : decode cL_law 453 = .ok (.iload 4, 2) := by decide +kernel
theorem dL_law_455 : decode cL_law 455 = .ok (.iconst 2, 1) := by decide +kernel
theorem dL_law_456 : decode cL_law 456 = .ok (.iadd, 1) := by decide +kernel
theorem dL_law_457 : decode cL_law 457 = .ok (.iaload, 1) := by decide +kernel
theorem dL_law_458 : decode cL_law 458 = .ok (.aload_n 3, 1) := by decide +kernel
theorem dL_law_459 : decode cL_law 459 = .ok (.invokestatic 68, 3) := by decide +kernel
theorem dL_law_462 : decode cL_law 462 = .ok (.istore 5, 2) := by decide +kernel
theorem dL_law_464 : decode cL_law 464 = .ok (.aload_n 2, 1) := by decide +kernel
theorem dL_law_465 : decode cL_law 465 = .ok (.aload_n 0, 1) := by decide +kernel
theorem dL_law_466 : decode cL_law 466 = .ok (.iload 4, 2) := by decide +kernel
theorem dL_law_468 : decode cL_law 468 = .ok (.iconst 1, 1) := by decide +kernel
theorem dL_law_469 : decode cL_law 469 = .ok (.iadd, 1) := by decide +kernel
theorem dL_law_470 : decode cL_law 470 = .ok (.iaload, 1) := by decide +kernel
theorem dL_law_471 : decode cL_law 471 = .ok (.aload_n 0, 1) := by decide +kernel
theorem dL_law_472 : decode cL_law 472 = .ok (.iload 4, 2) := by decide +kernel
theorem dL_law_474 : decode cL_law 474 = .ok (.iconst 2, 1) := by decide +kernel
theorem dL_law_475 : decode cL_law 475 = .ok (.iadd, 1) := by decide +kernel
theorem dL_law_476 : decode cL_law 476 = .ok (.iaload, 1) := by decide +kernel
theorem dL_law_477 : decode cL_law 477 = .ok (.invokevirtual 70, 3) := by decide +kernel
theorem dL_law_480 : decode cL_law 480 = .ok (.istore 6, 2) := by decide +kernel
theorem dL_law_482 : decode cL_law 482 = .ok (.aload_n 2, 1) := by decide +kernel
theorem dL_law_483 : decode cL_law 483 = .ok (.invokevirtual 60, 3) := by decide +kernel
theorem dL_law_486 : decode cL_law 486 = .ok (.iload 5, 2) := by decide +kernel
theorem dL_law_488 : decode cL_law 488 = .ok (.if_icmp .eq 5, 3) := by decide +kernel
theorem dL_law_491 : decode cL_law 491 = .ok (.iconst 0, 1) := by decide +kernel
theorem dL_law_492 : decode cL_law 492 = .ok (.ireturn, 1) := by decide +kernel
theorem dL_law_493 : decode cL_law 493 = .ok (.iload 5, 2) := by decide +kernel
theorem dL_law_495 : decode cL_law 495 = .ok (.ifCond .ne 15, 3) := by decide +kernel
theorem dL_law_498 : decode cL_law 498 = .ok (.aload_n 3, 1) := by decide +kernel
theorem dL_law_499 : decode cL_law 499 = .ok (.iconst 0, 1) := by decide +kernel
theorem dL_law_500 : decode cL_law 500 = .ok (.laload, 1) := by decide +kernel
theorem dL_law_501 : decode cL_law 501 = .ok (.iload 6, 2) := by decide +kernel
theorem dL_law_503 : decode cL_law 503 = .ok (.i2l, 1) := by decide +kernel
theorem dL_law_504 : decode cL_law 504 = .ok (.lcmp, 1) := by decide +kernel
theorem dL_law_505 : decode cL_law 505 = .ok (.ifCond .eq 5, 3) := by decide +kernel
theorem dL_law_508 : decode cL_law 508 = .ok (.iconst 0, 1) := by decide +kernel
theorem dL_law_509 : decode cL_law 509 = .ok (.ireturn, 1) := by decide +kernel
theorem dL_law_510 : decode cL_law 510 = .ok (.goto 347, 3) := by decide +kernel
theorem dL_law_513 : decode cL_law 513 = .ok (.aload_n 1, 1) := by decide +kernel
theorem dL_law_514 : decode cL_law 514 = .ok (.aload_n 0, 1) := by decide +kernel
theorem dL_law_515 : decode cL_law 515 = .ok (.iload 4, 2) := by decide +kernel
theorem dL_law_517 : decode cL_law 517 = .ok (.iconst 1, 1) := by decide +kernel
theorem dL_law_518 : decode cL_law 518 = .ok (.iadd, 1) := by decide +kernel
theorem dL_law_519 : decode cL_law 519 = .ok (.iaload, 1) := by decide +kernel
theorem dL_law_520 : decode cL_law 520 = .ok (.aload_n 0, 1) := by decide +kernel
theorem dL_law_521 : decode cL_law 521 = .ok (.iload 4, 2) := by decide +kernel
theorem dL_law_523 : decode cL_law 523 = .ok (.iconst 2, 1) := by decide +kernel
theorem dL_law_524 : decode cL_law 524 = .ok (.iadd, 1) := by decide +kernel
theorem dL_law_525 : decode cL_law 525 = .ok (.iaload, 1) := by decide +kernel
theorem dL_law_526 : decode cL_law 526 = .ok (.invokevirtual 71, 3) := by decide +kernel
theorem dL_law_529 : decode cL_law 529 = .ok (.aload_n 2, 1) := by decide +kernel
theorem dL_law_530 : decode cL_law 530 = .ok (.aload_n 0, 1) := by decide +kernel
theorem dL_law_531 : decode cL_law 531 = .ok (.iload 4, 2) := by decide +kernel
theorem dL_law_533 : decode cL_law 533 = .ok (.iconst 1, 1) := by decide +kernel
theorem dL_law_534 : decode cL_law 534 = .ok (.iadd, 1) := by decide +kernel
theorem dL_law_535 : decode cL_law 535 = .ok (.iaload, 1) := by decide +kernel
theorem dL_law_536 : decode cL_law 536 = .ok (.aload_n 0, 1) := by decide +kernel
theorem dL_law_537 : decode cL_law 537 = .ok (.iload 4, 2) := by decide +kernel
theorem dL_law_539 : decode cL_law 539 = .ok (.iconst 2, 1) := by decide +kernel
theorem dL_law_540 : decode cL_law 540 = .ok (.iadd, 1) := by decide +kernel
theorem dL_law_541 : decode cL_law 541 = .ok (.iaload, 1) := by decide +kernel
theorem dL_law_542 : decode cL_law 542 = .ok (.invokevirtual 74, 3) := by decide +kernel
theorem dL_law_545 : decode cL_law 545 = .ok (.if_icmp .eq 312, 3) := by decide +kernel
theorem dL_law_548 : decode cL_law 548 = .ok (.iconst 0, 1) := by decide +kernel
theorem dL_law_549 : decode cL_law 549 = .ok (.ireturn, 1) := by decide +kernel
theorem dL_law_550 : decode cL_law 550 = .ok (.aload_n 1, 1) := by decide +kernel
theorem dL_law_551 : decode cL_law 551 = .ok (.aload_n 0, 1) := by decide +kernel
theorem dL_law_552 : decode cL_law 552 = .ok (.iload 4, 2) := by decide +kernel
theorem dL_law_554 : decode cL_law 554 = .ok (.iconst 1, 1) := by decide +kernel
theorem dL_law_555 : decode cL_law 555 = .ok (.iadd, 1) := by decide +kernel
theorem dL_law_556 : decode cL_law 556 = .ok (.iaload, 1) := by decide +kernel
theorem dL_law_557 : decode cL_law 557 = .ok (.aload_n 0, 1) := by decide +kernel
theorem dL_law_558 : decode cL_law 558 = .ok (.iload 4, 2) := by decide +kernel
theorem dL_law_560 : decode cL_law 560 = .ok (.iconst 2, 1) := by decide +kernel
theorem dL_law_561 : decode cL_law 561 = .ok (.iadd, 1) := by decide +kernel
theorem dL_law_562 : decode cL_law 562 = .ok (.iaload, 1) := by decide +kernel
theorem dL_law_563 : decode cL_law 563 = .ok (.invokevirtual 75, 3) := by decide +kernel
theorem dL_law_566 : decode cL_law 566 = .ok (.aload_n 2, 1) := by decide +kernel
theorem dL_law_567 : decode cL_law 567 = .ok (.aload_n 0, 1) := by decide +kernel
theorem dL_law_568 : decode cL_law 568 = .ok (.iload 4, 2) := by decide +kernel
theorem dL_law_570 : decode cL_law 570 = .ok (.iconst 1, 1) := by decide +kernel
theorem dL_law_571 : decode cL_law 571 = .ok (.iadd, 1) := by decide +kernel
theorem dL_law_572 : decode cL_law 572 = .ok (.iaload, 1) := by decide +kernel
theorem dL_law_573 : decode cL_law 573 = .ok (.aload_n 0, 1) := by decide +kernel
theorem dL_law_574 : decode cL_law 574 = .ok (.iload 4, 2) := by decide +kernel
theorem dL_law_576 : decode cL_law 576 = .ok (.iconst 2, 1) := by decide +kernel
theorem dL_law_577 : decode cL_law 577 = .ok (.iadd, 1) := by decide +kernel
theorem dL_law_578 : decode cL_law 578 = .ok (.iaload, 1) := by decide +kernel
theorem dL_law_579 : decode cL_law 579 = .ok (.invokevirtual 78, 3) := by decide +kernel
theorem dL_law_582 : decode cL_law 582 = .ok (.if_icmp .eq 275, 3) := by decide +kernel
theorem dL_law_585 : decode cL_law 585 = .ok (.iconst 0, 1) := by decide +kernel
theorem dL_law_586 : decode cL_law 586 = .ok (.ireturn, 1) := by decide +kernel
theorem dL_law_587 : decode cL_law 587 = .ok (.aload_n 1, 1) := by decide +kernel
theorem dL_law_588 : decode cL_law 588 = .ok (.aload_n 0, 1) := by decide +kernel
theorem dL_law_589 : decode cL_law 589 = .ok (.iload 4, 2) := by decide +kernel
theorem dL_law_591 : decode cL_law 591 = .ok (.iconst 1, 1) := by decide +kernel
theorem dL_law_592 : decode cL_law 592 = .ok (.iadd, 1) := by decide +kernel
theorem dL_law_593 : decode cL_law 593 = .ok (.iaload, 1) := by decide +kernel
theorem dL_law_594 : decode cL_law 594 = .ok (.aload_n 0, 1) := by decide +kernel
theorem dL_law_595 : decode cL_law 595 = .ok (.iload 4, 2) := by decide +kernel
theorem dL_law_597 : decode cL_law 597 = .ok (.iconst 2, 1) := by decide +kernel
theorem dL_law_598 : decode cL_law 598 = .ok (.iadd, 1) := by decide +kernel
theorem dL_law_599 : decode cL_law 599 = .ok (.iaload, 1) := by decide +kernel
theorem dL_law_600 : decode cL_law 600 = .ok (.aload_n 3, 1) := by decide +kernel
theorem dL_law_601 : decode cL_law 601 = .ok (.invokestatic 79, 3) := by decide +kernel
theorem dL_law_604 : decode cL_law 604 = .ok (.istore 5, 2) := by decide +kernel
theorem dL_law_606 : decode cL_law 606 = .ok (.aload_n 2, 1) := by decide +kernel
theorem dL_law_607 : decode cL_law 607 = .ok (.aload_n 0, 1) := by decide +kernel
theorem dL_law_608 : decode cL_law 608 = .ok (.iload 4, 2) := by decide +kernel
theorem dL_law_610 : decode cL_law 610 = .ok (.iconst 1, 1) := by decide +kernel
theorem dL_law_611 : decode cL_law 611 = .ok (.iadd, 1) := by decide +kernel
theorem dL_law_612 : decode cL_law 612 = .ok (.iaload, 1) := by decide +kernel
theorem dL_law_613 : decode cL_law 613 = .ok (.aload_n 0, 1) := by decide +kernel
theorem dL_law_614 : decode cL_law 614 = .ok (.iload 4, 2) := by decide +kernel
theorem dL_law_616 : decode cL_law 616 = .ok (.iconst 2, 1) := by decide +kernel
theorem dL_law_617 : decode cL_law 617 = .ok (.iadd, 1) := by decide +kernel
theorem dL_law_618 : decode cL_law 618 = .ok (.iaload, 1) := by decide +kernel
theorem dL_law_619 : decode cL_law 619 = .ok (.invokevirtual 81, 3) := by decide +kernel
theorem dL_law_622 : decode cL_law 622 = .ok (.istore 6, 2) := by decide +kernel
theorem dL_law_624 : decode cL_law 624 = .ok (.aload_n 2, 1) := by decide +kernel
theorem dL_law_625 : decode cL_law 625 = .ok (.invokevirtual 60, 3) := by decide +kernel
theorem dL_law_628 : decode cL_law 628 = .ok (.iload 5, 2) := by decide +kernel
theorem dL_law_630 : decode cL_law 630 = .ok (.if_icmp .eq 5, 3) := by decide +kernel
theorem dL_law_633 : decode cL_law 633 = .ok (.iconst 0, 1) := by decide +kernel
theorem dL_law_634 : decode cL_law 634 = .ok (.ireturn, 1) := by decide +kernel
theorem dL_law_635 : decode cL_law 635 = .ok (.iload 5, 2) := by decide +kernel
theorem dL_law_637 : decode cL_law 637 = .ok (.ifCond .ne 15, 3) := by decide +kernel
theorem dL_law_640 : decode cL_law 640 = .ok (.aload_n 3, 1) := by decide +kernel
theorem dL_law_641 : decode cL_law 641 = .ok (.iconst 0, 1) := by decide +kernel
theorem dL_law_642 : decode cL_law 642 = .ok (.laload, 1) := by decide +kernel
theorem dL_law_643 : decode cL_law 643 = .ok (.iload 6, 2) := by decide +kernel
theorem dL_law_645 : decode cL_law 645 = .ok (.i2l, 1) := by decide +kernel
theorem dL_law_646 : decode cL_law 646 = .ok (.lcmp, 1) := by decide +kernel
theorem dL_law_647 : decode cL_law 647 = .ok (.ifCond .eq 5, 3) := by decide +kernel
theorem dL_law_650 : decode cL_law 650 = .ok (.iconst 0, 1) := by decide +kernel
theorem dL_law_651 : decode cL_law 651 = .ok (.ireturn, 1) := by decide +kernel
theorem dL_law_652 : decode cL_law 652 = .ok (.goto 205, 3) := by decide +kernel
theorem dL_law_655 : decode cL_law 655 = .ok (.aload_n 1, 1) := by decide +kernel
theorem dL_law_656 : decode cL_law 656 = .ok (.aload_n 0, 1) := by decide +kernel
theorem dL_law_657 : decode cL_law 657 = .ok (.iload 4, 2) := by decide +kernel
theorem dL_law_659 : decode cL_law 659 = .ok (.iconst 1, 1) := by decide +kernel
theorem dL_law_660 : decode cL_law 660 = .ok (.iadd, 1) := by decide +kernel
theorem dL_law_661 : decode cL_law 661 = .ok (.iaload, 1) := by decide +kernel
theorem dL_law_662 : decode cL_law 662 = .ok (.aload_n 0, 1) := by decide +kernel
theorem dL_law_663 : decode cL_law 663 = .ok (.iload 4, 2) := by decide +kernel
theorem dL_law_665 : decode cL_law 665 = .ok (.iconst 2, 1) := by decide +kernel
theorem dL_law_666 : decode cL_law 666 = .ok (.iadd, 1) := by decide +kernel
theorem dL_law_667 : decode cL_law 667 = .ok (.iaload, 1) := by decide +kernel
theorem dL_law_668 : decode cL_law 668 = .ok (.aload_n 0, 1) := by decide +kernel
theorem dL_law_669 : decode cL_law 669 = .ok (.iload 4, 2) := by decide +kernel
theorem dL_law_671 : decode cL_law 671 = .ok (.iconst 3, 1) := by decide +kernel
theorem dL_law_672 : decode cL_law 672 = .ok (.iadd, 1) := by decide +kernel
theorem dL_law_673 : decode cL_law 673 = .ok (.iaload, 1) := by decide +kernel
theorem dL_law_674 : decode cL_law 674 = .ok (.invokevirtual 82, 3) := by decide +kernel
theorem dL_law_677 : decode cL_law 677 = .ok (.aload_n 2, 1) := by decide +kernel
theorem dL_law_678 : decode cL_law 678 = .ok (.aload_n 0, 1) := by decide +kernel
theorem dL_law_679 : decode cL_law 679 = .ok (.iload 4, 2) := by decide +kernel
theorem dL_law_681 : decode cL_law 681 = .ok (.iconst 1, 1) := by decide +kernel
theorem dL_law_682 : decode cL_law 682 = .ok (.iadd, 1) := by decide +kernel
theorem dL_law_683 : decode cL_law 683 = .ok (.iaload, 1) := by decide +kernel
theorem dL_law_684 : decode cL_law 684 = .ok (.aload_n 0, 1) := by decide +kernel
theorem dL_law_685 : decode cL_law 685 = .ok (.iload 4, 2) := by decide +kernel
theorem dL_law_687 : decode cL_law 687 = .ok (.iconst 2, 1) := by decide +kernel
theorem dL_law_688 : decode cL_law 688 = .ok (.iadd, 1) := by decide +kernel
theorem dL_law_689 : decode cL_law 689 = .ok (.iaload, 1) := by decide +kernel
theorem dL_law_690 : decode cL_law 690 = .ok (.aload_n 0, 1) := by decide +kernel
theorem dL_law_691 : decode cL_law 691 = .ok (.iload 4, 2) := by decide +kernel
theorem dL_law_693 : decode cL_law 693 = .ok (.iconst 3, 1) := by decide +kernel
theorem dL_law_694 : decode cL_law 694 = .ok (.iadd, 1) := by decide +kernel
theorem dL_law_695 : decode cL_law 695 = .ok (.iaload, 1) := by decide +kernel
theorem dL_law_696 : decode cL_law 696 = .ok (.invokevirtual 86, 3) := by decide +kernel
theorem dL_law_699 : decode cL_law 699 = .ok (.if_icmp .eq 158, 3) := by decide +kernel
theorem dL_law_702 : decode cL_law 702 = .ok (.iconst 0, 1) := by decide +kernel
theorem dL_law_703 : decode cL_law 703 = .ok (.ireturn, 1) := by decide +kernel
theorem dL_law_704 : decode cL_law 704 = .ok (.aload_n 1, 1) := by decide +kernel
theorem dL_law_705 : decode cL_law 705 = .ok (.aload_n 0, 1) := by decide +kernel
theorem dL_law_706 : decode cL_law 706 = .ok (.iload 4, 2) := by decide +kernel
theorem dL_law_708 : decode cL_law 708 = .ok (.iconst 1, 1) := by decide +kernel
theorem dL_law_709 : decode cL_law 709 = .ok (.iadd, 1) := by decide +kernel
theorem dL_law_710 : decode cL_law 710 = .ok (.iaload, 1) := by decide +kernel
theorem dL_law_711 : decode cL_law 711 = .ok (.invokevirtual 87, 3) := by decide +kernel
theorem dL_law_714 : decode cL_law 714 = .ok (.aload_n 2, 1) := by decide +kernel
theorem dL_law_715 : decode cL_law 715 = .ok (.aload_n 0, 1) := by decide +kernel
theorem dL_law_716 : decode cL_law 716 = .ok (.iload 4, 2) := by decide +kernel
theorem dL_law_718 : decode cL_law 718 = .ok (.iconst 1, 1) := by decide +kernel
theorem dL_law_719 : decode cL_law 719 = .ok (.iadd, 1) := by decide +kernel
theorem dL_law_720 : decode cL_law 720 = .ok (.iaload, 1) := by decide +kernel
theorem dL_law_721 : decode cL_law 721 = .ok (.invokevirtual 90, 3) := by decide +kernel
theorem dL_law_724 : decode cL_law 724 = .ok (.if_icmp .eq 133, 3) := by decide +kernel
theorem dL_law_727 : decode cL_law 727 = .ok (.iconst 0, 1) := by decide +kernel
theorem dL_law_728 : decode cL_law 728 = .ok (.ireturn, 1) := by decide +kernel
theorem dL_law_729 : decode cL_law 729 = .ok (.aload_n 1, 1) := by decide +kernel
theorem dL_law_730 : decode cL_law 730 = .ok (.aload_n 0, 1) := by decide +kernel
theorem dL_law_731 : decode cL_law 731 = .ok (.iload 4, 2) := by decide +kernel
theorem dL_law_733 : decode cL_law 733 = .ok (.iconst 1, 1) := by decide +kernel
theorem dL_law_734 : decode cL_law 734 = .ok (.iadd, 1) := by decide +kernel
theorem dL_law_735 : decode cL_law 735 = .ok (.iaload, 1) := by decide +kernel
theorem dL_law_736 : decode cL_law 736 = .ok (.aload_n 0, 1) := by decide +kernel
theorem dL_law_737 : decode cL_law 737 = .ok (.iload 4, 2) := by decide +kernel
theorem dL_law_739 : decode cL_law 739 = .ok (.iconst 2, 1) := by decide +kernel
theorem dL_law_740 : decode cL_law 740 = .ok (.iadd, 1) := by decide +kernel
theorem dL_law_741 : decode cL_law 741 = .ok (.iaload, 1) := by decide +kernel
theorem dL_law_742 : decode cL_law 742 = .ok (.invokevirtual 91, 3) := by decide +kernel
theorem dL_law_745 : decode cL_law 745 = .ok (.aload_n 2, 1) := by decide +kernel
theorem dL_law_746 : decode cL_law 746 = .ok (.aload_n 0, 1) := by decide +kernel
theorem dL_law_747 : decode cL_law 747 = .ok (.iload 4, 2) := by decide +kernel
theorem dL_law_749 : decode cL_law 749 = .ok (.iconst 1, 1) := by decide +kernel
theorem dL_law_750 : decode cL_law 750 = .ok (.iadd, 1) := by decide +kernel
theorem dL_law_751 : decode cL_law 751 = .ok (.iaload, 1) := by decide +kernel
theorem dL_law_752 : decode cL_law 752 = .ok (.aload_n 0, 1) := by decide +kernel
theorem dL_law_753 : decode cL_law 753 = .ok (.iload 4, 2) := by decide +kernel
theorem dL_law_755 : decode cL_law 755 = .ok (.iconst 2, 1) := by decide +kernel
theorem dL_law_756 : decode cL_law 756 = .ok (.iadd, 1) := by decide +kernel
theorem dL_law_757 : decode cL_law 757 = .ok (.iaload, 1) := by decide +kernel
theorem dL_law_758 : decode cL_law 758 = .ok (.invokevirtual 94, 3) := by decide +kernel
theorem dL_law_761 : decode cL_law 761 = .ok (.if_icmp .eq 96, 3) := by decide +kernel
theorem dL_law_764 : decode cL_law 764 = .ok (.iconst 0, 1) := by decide +kernel
theorem dL_law_765 : decode cL_law 765 = .ok (.ireturn, 1) := by decide +kernel
theorem dL_law_766 : decode cL_law 766 = .ok (.aload_n 1, 1) := by decide +kernel
theorem dL_law_767 : decode cL_law 767 = .ok (.aload_n 0, 1) := by decide +kernel
theorem dL_law_768 : decode cL_law 768 = .ok (.iload 4, 2) := by decide +kernel
theorem dL_law_770 : decode cL_law 770 = .ok (.iconst 1, 1) := by decide +kernel
theorem dL_law_771 : decode cL_law 771 = .ok (.iadd, 1) := by decide +kernel
theorem dL_law_772 : decode cL_law 772 = .ok (.iaload, 1) := by decide +kernel
theorem dL_law_773 : decode cL_law 773 = .ok (.invokevirtual 95, 3) := by decide +kernel
theorem dL_law_776 : decode cL_law 776 = .ok (.aload_n 2, 1) := by decide +kernel
theorem dL_law_777 : decode cL_law 777 = .ok (.aload_n 0, 1) := by decide +kernel
theorem dL_law_778 : decode cL_law 778 = .ok (.iload 4, 2) := by decide +kernel
theorem dL_law_780 : decode cL_law 780 = .ok (.iconst 1, 1) := by decide +kernel
theorem dL_law_781 : decode cL_law 781 = .ok (.iadd, 1) := by decide +kernel
theorem dL_law_782 : decode cL_law 782 = .ok (.iaload, 1) := by decide +kernel
theorem dL_law_783 : decode cL_law 783 = .ok (.invokevirtual 98, 3) := by decide +kernel
theorem dL_law_786 : decode cL_law 786 = .ok (.if_icmp .eq 71, 3) := by decide +kernel
theorem dL_law_789 : decode cL_law 789 = .ok (.iconst 0, 1) := by decide +kernel
theorem dL_law_790 : decode cL_law 790 = .ok (.ireturn, 1) := by decide +kernel
theorem dL_law_791 : decode cL_law 791 = .ok (.aload_n 1, 1) := by decide +kernel
theorem dL_law_792 : decode cL_law 792 = .ok (.aload_n 0, 1) := by decide +kernel
theorem dL_law_793 : decode cL_law 793 = .ok (.iload 4, 2) := by decide +kernel
theorem dL_law_795 : decode cL_law 795 = .ok (.iconst 1, 1) := by decide +kernel
theorem dL_law_796 : decode cL_law 796 = .ok (.iadd, 1) := by decide +kernel
theorem dL_law_797 : decode cL_law 797 = .ok (.iaload, 1) := by decide +kernel
theorem dL_law_798 : decode cL_law 798 = .ok (.ifCond .eq 7, 3) := by decide +kernel
theorem dL_law_801 : decode cL_law 801 = .ok (.iconst 1, 1) := by decide +kernel
theorem dL_law_802 : decode cL_law 802 = .ok (.goto 4, 3) := by decide +kernel
theorem dL_law_805 : decode cL_law 805 = .ok (.iconst 0, 1) := by decide +kernel
theorem dL_law_806 : decode cL_law 806 = .ok (.invokevirtual 99, 3) := by decide +kernel
theorem dL_law_809 : decode cL_law 809 = .ok (.aload_n 2, 1) := by decide +kernel
theorem dL_law_810 : decode cL_law 810 = .ok (.aload_n 0, 1) := by decide +kernel
theorem dL_law_811 : decode cL_law 811 = .ok (.iload 4, 2) := by decide +kernel
theorem dL_law_813 : decode cL_law 813 = .ok (.iconst 1, 1) := by decide +kernel
theorem dL_law_814 : decode cL_law 814 = .ok (.iadd, 1) := by decide +kernel
theorem dL_law_815 : decode cL_law 815 = .ok (.iaload, 1) := by decide +kernel
theorem dL_law_816 : decode cL_law 816 = .ok (.ifCond .eq 7, 3) := by decide +kernel
theorem dL_law_819 : decode cL_law 819 = .ok (.iconst 1, 1) := by decide +kernel
theorem dL_law_820 : decode cL_law 820 = .ok (.goto 4, 3) := by decide +kernel
theorem dL_law_823 : decode cL_law 823 = .ok (.iconst 0, 1) := by decide +kernel
theorem dL_law_824 : decode cL_law 824 = .ok (.invokevirtual 103, 3) := by decide +kernel
theorem dL_law_827 : decode cL_law 827 = .ok (.if_icmp .eq 30, 3) := by decide +kernel
theorem dL_law_830 : decode cL_law 830 = .ok (.iconst 0, 1) := by decide +kernel
theorem dL_law_831 : decode cL_law 831 = .ok (.ireturn, 1) := by decide +kernel
theorem dL_law_832 : decode cL_law 832 = .ok (.aload_n 1, 1) := by decide +kernel
theorem dL_law_833 : decode cL_law 833 = .ok (.aload_n 0, 1) := by decide +kernel
theorem dL_law_834 : decode cL_law 834 = .ok (.iload 4, 2) := by decide +kernel
theorem dL_law_836 : decode cL_law 836 = .ok (.iconst 1, 1) := by decide +kernel
theorem dL_law_837 : decode cL_law 837 = .ok (.iadd, 1) := by decide +kernel
theorem dL_law_838 : decode cL_law 838 = .ok (.iaload, 1) := by decide +kernel
theorem dL_law_839 : decode cL_law 839 = .ok (.invokevirtual 104, 3) := by decide +kernel
theorem dL_law_842 : decode cL_law 842 = .ok (.aload_n 2, 1) := by decide +kernel
theorem dL_law_843 : decode cL_law 843 = .ok (.aload_n 0, 1) := by decide +kernel
theorem dL_law_844 : decode cL_law 844 = .ok (.iload 4, 2) := by decide +kernel
theorem dL_law_846 : decode cL_law 846 = .ok (.iconst 1, 1) := by decide +kernel
theorem dL_law_847 : decode cL_law 847 = .ok (.iadd, 1) := by decide +kernel
theorem dL_law_848 : decode cL_law 848 = .ok (.iaload, 1) := by decide +kernel
theorem dL_law_849 : decode cL_law 849 = .ok (.invokevirtual 107, 3) := by decide +kernel
theorem dL_law_852 : decode cL_law 852 = .ok (.if_icmp .eq 5, 3) := by decide +kernel
theorem dL_law_855 : decode cL_law 855 = .ok (.iconst 0, 1) := by decide +kernel
theorem dL_law_856 : decode cL_law 856 = .ok (.ireturn, 1) := by decide +kernel
theorem dL_law_857 : decode cL_law 857 = .ok (.iinc 4 7, 3) := by decide +kernel
theorem dL_law_860 : decode cL_law 860 = .ok (.goto (-837), 3) := by decide +kernel
theorem dL_law_863 : decode cL_law 863 = .ok (.iconst 1, 1) := by decide +kernel
theorem dL_law_864 : decode cL_law 864 = .ok (.ireturn, 1) := by decide +kernel
abbrev vwCl : List vw_C := [(RX0, TX0, 4), (RX1, TX1, 5), (RX2, TX2, 6), (RX3, TX3, 3), (RX4, TX4, 2), (RX5, TX5, 4), (RX6, TX6, 7), (RX7, TX7, 2), (RX8, TX8, 8), (RX9, TX9, 36)]
