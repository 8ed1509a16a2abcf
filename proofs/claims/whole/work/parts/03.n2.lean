set_option maxRecDepth 20000 in
theorem ggX5_fillLong_X3_add : GoodIn wsX5_fillLong wsX3_add := goodIn_r _ [20, 21, 11, 16, 31, 32, 33] (by decide +kernel) (by decide +kernel)
set_option maxRecDepth 20000 in
theorem gX5_fillLong_X3_add : GoodIn wsX5_fillLong (wsV RX5 94 RX3 yX3_add wsX3_add) := goodIn_app (goodIn_of _ (by decide +kernel)) ggX5_fillLong_X3_add
set_option maxRecDepth 20000 in
theorem ggX5_fillLong_X5_takeSpare : GoodIn wsX5_fillLong wsX5_takeSpare := goodIn_r _ [26, 1, 3, 27, 28, 29, 30] (by decide +kernel) (by decide +kernel)
set_option maxRecDepth 20000 in
theorem gX5_fillLong_X5_takeSpare : GoodIn wsX5_fillLong (wsV RX5 97 RX5 yX5_takeSpare wsX5_takeSpare) := goodIn_app (goodIn_of _ (by decide +kernel)) ggX5_fillLong_X5_takeSpare
theorem dX5_fillLong_0 : decode cX5_fillLong 0 = .ok (.aload_n 0, 1) := by decide +kernel
theorem dX5_fillLong_1 : decode cX5_fillLong 1 = .ok (.getfield 21, 3) := by decide +kernel
theorem dX5_fillLong_4 : decode cX5_fillLong 4 = .ok (.getfield 55, 3) := by decide +kernel
theorem dX5_fillLong_7 : decode cX5_fillLong 7 = .ok (.istore_n 2, 1) := by decide +kernel
theorem dX5_fillLong_8 : decode cX5_fillLong 8 = .ok (.aload_n 0, 1) := by decide +kernel
theorem dX5_fillLong_9 : decode cX5_fillLong 9 = .ok (.getfield 25, 3) := by decide +kernel
theorem dX5_fillLong_12 : decode cX5_fillLong 12 = .ok (.iconst 0, 1) := by decide +kernel
theorem dX5_fillLong_13 : decode cX5_fillLong 13 = .ok (.putfield 55, 3) := by decide +kernel
theorem dX5_fillLong_16 : decode cX5_fillLong 16 = .ok (.iconst 0, 1) := by decide +kernel
theorem dX5_fillLong_17 : decode cX5_fillLong 17 = .ok (.istore_n 3, 1) := by decide +kernel
theorem dX5_fillLong_18 : decode cX5_fillLong 18 = .ok (.iload_n 3, 1) := by decide +kernel
theorem dX5_fillLong_19 : decode cX5_fillLong 19 = .ok (.aload_n 0, 1) := by decide +kernel
theorem dX5_fillLong_20 : decode cX5_fillLong 20 = .ok (.getfield 21, 3) := by decide +kernel
theorem dX5_fillLong_23 : decode cX5_fillLong 23 = .ok (.getfield 55, 3) := by decide +kernel
theorem dX5_fillLong_26 : decode cX5_fillLong 26 = .ok (.if_icmp .ge 112, 3) := by decide +kernel
theorem dX5_fillLong_29 : decode cX5_fillLong 29 = .ok (.aload_n 0, 1) := by decide +kernel
theorem dX5_fillLong_30 : decode cX5_fillLong 30 = .ok (.getfield 21, 3) := by decide +kernel
theorem dX5_fillLong_33 : decode cX5_fillLong 33 = .ok (.getfield 76, 3) := by decide +kernel
theorem dX5_fillLong_36 : decode cX5_fillLong 36 = .ok (.iload_n 3, 1) := by decide +kernel
theorem dX5_fillLong_37 : decode cX5_fillLong 37 = .ok (.iaload, 1) := by decide +kernel
theorem dX5_fillLong_38 : decode cX5_fillLong 38 = .ok (.istore 4, 2) := by decide +kernel
theorem dX5_fillLong_40 : decode cX5_fillLong 40 = .ok (.aload_n 0, 1) := by decide +kernel
theorem dX5_fillLong_41 : decode cX5_fillLong 41 = .ok (.getfield 21, 3) := by decide +kernel
theorem dX5_fillLong_44 : decode cX5_fillLong 44 = .ok (.getfield 80, 3) := by decide +kernel
theorem dX5_fillLong_47 : decode cX5_fillLong 47 = .ok (.iload_n 3, 1) := by decide +kernel
theorem dX5_fillLong_48 : decode cX5_fillLong 48 = .ok (.iaload, 1) := by decide +kernel
theorem dX5_fillLong_49 : decode cX5_fillLong 49 = .ok (.istore 5, 2) := by decide +kernel
theorem dX5_fillLong_51 : decode cX5_fillLong 51 = .ok (.iload_n 3, 1) := by decide +kernel
theorem dX5_fillLong_52 : decode cX5_fillLong 52 = .ok (.ifCond .le 69, 3) := by decide +kernel
theorem dX5_fillLong_55 : decode cX5_fillLong 55 = .ok (.iload_n 2, 1) := by decide +kernel
theorem dX5_fillLong_56 : decode cX5_fillLong 56 = .ok (.bipush 48, 2) := by decide +kernel
theorem dX5_fillLong_58 : decode cX5_fillLong 58 = .ok (.if_icmp .ge 63, 3) := by decide +kernel
theorem dX5_fillLong_61 : decode cX5_fillLong 61 = .ok (.aload_n 0, 1) := by decide +kernel
theorem dX5_fillLong_62 : decode cX5_fillLong 62 = .ok (.getfield 21, 3) := by decide +kernel
theorem dX5_fillLong_65 : decode cX5_fillLong 65 = .ok (.iload_n 3, 1) := by decide +kernel
theorem dX5_fillLong_66 : decode cX5_fillLong 66 = .ok (.iconst 1, 1) := by decide +kernel
theorem dX5_fillLong_67 : decode cX5_fillLong 67 = .ok (.isub, 1) := by decide +kernel
theorem dX5_fillLong_68 : decode cX5_fillLong 68 = .ok (.iload 4, 2) := by decide +kernel
theorem dX5_fillLong_70 : decode cX5_fillLong 70 = .ok (.iload 5, 2) := by decide +kernel
theorem dX5_fillLong_72 : decode cX5_fillLong 72 = .ok (.iload_n 1, 1) := by decide +kernel
theorem dX5_fillLong_73 : decode cX5_fillLong 73 = .ok (.invokevirtual 83, 3) := by decide +kernel
theorem dX5_fillLong_76 : decode cX5_fillLong 76 = .ok (.ifCond .ne 45, 3) := by decide +kernel
theorem dX5_fillLong_79 : decode cX5_fillLong 79 = .ok (.aload_n 0, 1) := by decide +kernel
theorem dX5_fillLong_80 : decode cX5_fillLong 80 = .ok (.getfield 25, 3) := by decide +kernel
theorem dX5_fillLong_83 : decode cX5_fillLong 83 = .ok (.aload_n 0, 1) := by decide +kernel
theorem dX5_fillLong_84 : decode cX5_fillLong 84 = .ok (.getfield 21, 3) := by decide +kernel
theorem dX5_fillLong_87 : decode cX5_fillLong 87 = .ok (.getfield 76, 3) := by decide +kernel
theorem dX5_fillLong_90 : decode cX5_fillLong 90 = .ok (.iload_n 3, 1) := by decide +kernel
theorem dX5_fillLong_91 : decode cX5_fillLong 91 = .ok (.iconst 1, 1) := by decide +kernel
theorem dX5_fillLong_92 : decode cX5_fillLong 92 = .ok (.isub, 1) := by decide +kernel
theorem dX5_fillLong_93 : decode cX5_fillLong 93 = .ok (.iaload, 1) := by decide +kernel
theorem dX5_fillLong_94 : decode cX5_fillLong 94 = .ok (.iload 4, 2) := by decide +kernel
theorem dX5_fillLong_96 : decode cX5_fillLong 96 = .ok (.iadd, 1) := by decide +kernel
theorem dX5_fillLong_97 : decode cX5_fillLong 97 = .ok (.iconst 2, 1) := by decide +kernel
theorem dX5_fillLong_98 : decode cX5_fillLong 98 = .ok (.idiv, 1) := by decide +kernel
theorem dX5_fillLong_99 : decode cX5_fillLong 99 = .ok (.aload_n 0, 1) := by decide +kernel
theorem dX5_fillLong_100 : decode cX5_fillLong 100 = .ok (.getfield 21, 3) := by decide +kernel
theorem dX5_fillLong_103 : decode cX5_fillLong 103 = .ok (.getfield 80, 3) := by decide +kernel
theorem dX5_fillLong_106 : decode cX5_fillLong 106 = .ok (.iload_n 3, 1) := by decide +kernel
theorem dX5_fillLong_107 : decode cX5_fillLong 107 = .ok (.iconst 1, 1) := by decide +kernel
theorem dX5_fillLong_108 : decode cX5_fillLong 108 = .ok (.isub, 1) := by decide +kernel
theorem dX5_fillLong_109 : decode cX5_fillLong 109 = .ok (.iaload, 1) := by decide +kernel
theorem dX5_fillLong_110 : decode cX5_fillLong 110 = .ok (.iload 5, 2) := by decide +kernel
theorem dX5_fillLong_112 : decode cX5_fillLong 112 = .ok (.iadd, 1) := by decide +kernel
theorem dX5_fillLong_113 : decode cX5_fillLong 113 = .ok (.iconst 2, 1) := by decide +kernel
theorem dX5_fillLong_114 : decode cX5_fillLong 114 = .ok (.idiv, 1) := by decide +kernel
theorem dX5_fillLong_115 : decode cX5_fillLong 115 = .ok (.invokevirtual 94, 3) := by decide +kernel
theorem dX5_fillLong_118 : decode cX5_fillLong 118 = .ok (.iinc 2 1, 3) := by decide +kernel
theorem dX5_fillLong_121 : decode cX5_fillLong 121 = .ok (.aload_n 0, 1) := by decide +kernel
theorem dX5_fillLong_122 : decode cX5_fillLong 122 = .ok (.getfield 25, 3) := by decide +kernel
theorem dX5_fillLong_125 : decode cX5_fillLong 125 = .ok (.iload 4, 2) := by decide +kernel
theorem dX5_fillLong_127 : decode cX5_fillLong 127 = .ok (.iload 5, 2) := by decide +kernel
theorem dX5_fillLong_129 : decode cX5_fillLong 129 = .ok (.invokevirtual 94, 3) := by decide +kernel
theorem dX5_fillLong_132 : decode cX5_fillLong 132 = .ok (.iinc 3 1, 3) := by decide +kernel
theorem dX5_fillLong_135 : decode cX5_fillLong 135 = .ok (.goto (-117), 3) := by decide +kernel
theorem dX5_fillLong_138 : decode cX5_fillLong 138 = .ok (.aload_n 0, 1) := by decide +kernel
theorem dX5_fillLong_139 : decode cX5_fillLong 139 = .ok (.invokevirtual 97, 3) := by decide +kernel
theorem dX5_fillLong_142 : decode cX5_fillLong 142 = .ok (.return_, 1) := by decide +kernel
theorem dX5_takeSpare_0 : decode cX5_takeSpare 0 = .ok (.aload_n 0, 1) := by decide +kernel
theorem dX5_takeSpare_1 : decode cX5_takeSpare 1 = .ok (.getfield 21, 3) := by decide +kernel
theorem dX5_takeSpare_4 : decode cX5_takeSpare 4 = .ok (.astore_n 1, 1) := by decide +kernel
theorem dX5_takeSpare_5 : decode cX5_takeSpare 5 = .ok (.aload_n 0, 1) := by decide +kernel
theorem dX5_takeSpare_6 : decode cX5_takeSpare 6 = .ok (.aload_n 0, 1) := by decide +kernel
theorem dX5_takeSpare_7 : decode cX5_takeSpare 7 = .ok (.getfield 25, 3) := by decide +kernel
theorem dX5_takeSpare_10 : decode cX5_takeSpare 10 = .ok (.putfield 21, 3) := by decide +kernel
theorem dX5_takeSpare_13 : decode cX5_takeSpare 13 = .ok (.aload_n 0, 1) := by decide +kernel
theorem dX5_takeSpare_14 : decode cX5_takeSpare 14 = .ok (.aload_n 1, 1) := by decide +kernel
theorem dX5_takeSpare_15 : decode cX5_takeSpare 15 = .ok (.putfield 25, 3) := by decide +kernel
theorem dX5_takeSpare_18 : decode cX5_takeSpare 18 = .ok (.return_, 1) := by decide +kernel
theorem dX6_init_0 : decode cX6_init 0 = .ok (.aload_n 0, 1) := by decide +kernel
theorem dX6_init_1 : decode cX6_init 1 = .ok (.invokespecial 3, 3) := by decide +kernel
theorem dX6_init_4 : decode cX6_init 4 = .ok (.aload_n 0, 1) := by decide +kernel
theorem dX6_init_5 : decode cX6_init 5 = .ok (.bipush 64, 2) := by decide +kernel
theorem dX6_init_7 : decode cX6_init 7 = .ok (.newarray .int, 2) := by decide +kernel
theorem dX6_init_9 : decode cX6_init 9 = .ok (.putfield 9, 3) := by decide +kernel
theorem dX6_init_12 : decode cX6_init 12 = .ok (.aload_n 0, 1) := by decide +kernel
theorem dX6_init_13 : decode cX6_init 13 = .ok (.bipush 50, 2) := by decide +kernel
theorem dX6_init_15 : decode cX6_init 15 = .ok (.putfield 15, 3) := by decide +kernel
theorem dX6_init_18 : decode cX6_init 18 = .ok (.aload_n 0, 1) := by decide +kernel
theorem dX6_init_19 : decode cX6_init 19 = .ok (.iconst 4, 1) := by decide +kernel
theorem dX6_init_20 : decode cX6_init 20 = .ok (.putfield 19, 3) := by decide +kernel
theorem dX6_init_23 : decode cX6_init 23 = .ok (.aload_n 0, 1) := by decide +kernel
theorem dX6_init_24 : decode cX6_init 24 = .ok (.iconst 2, 1) := by decide +kernel
theorem dX6_init_25 : decode cX6_init 25 = .ok (.putfield 22, 3) := by decide +kernel
theorem dX6_init_28 : decode cX6_init 28 = .ok (.aload_n 0, 1) := by decide +kernel
theorem dX6_init_29 : decode cX6_init 29 = .ok (.iconst 1, 1) := by decide +kernel
theorem dX6_init_30 : decode cX6_init 30 = .ok (.putfield 25, 3) := by decide +kernel
theorem dX6_init_33 : decode cX6_init 33 = .ok (.aload_n 0, 1) := by decide +kernel
theorem dX6_init_34 : decode cX6_init 34 = .ok (.bipush 32, 2) := by decide +kernel
theorem dX6_init_36 : decode cX6_init 36 = .ok (.putfield 28, 3) := by decide +kernel
theorem dX6_init_39 : decode cX6_init 39 = .ok (.aload_n 0, 1) := by decide +kernel
theorem dX6_init_40 : decode cX6_init 40 = .ok (.bipush 8, 2) := by decide +kernel
theorem dX6_init_42 : decode cX6_init 42 = .ok (.putfield 31, 3) := by decide +kernel
theorem dX6_init_45 : decode cX6_init 45 = .ok (.iconst 0, 1) := by decide +kernel
theorem dX6_init_46 : decode cX6_init 46 = .ok (.istore_n 1, 1) := by decide +kernel
theorem dX6_init_47 : decode cX6_init 47 = .ok (.iload_n 1, 1) := by decide +kernel
theorem dX6_init_48 : decode cX6_init 48 = .ok (.bipush 64, 2) := by decide +kernel
theorem dX6_init_50 : decode cX6_init 50 = .ok (.if_icmp .ge 16, 3) := by decide +kernel
theorem dX6_init_53 : decode cX6_init 53 = .ok (.aload_n 0, 1) := by decide +kernel
theorem dX6_init_54 : decode cX6_init 54 = .ok (.getfield 9, 3) := by decide +kernel
theorem dX6_init_57 : decode cX6_init 57 = .ok (.iload_n 1, 1) := by decide +kernel
theorem dX6_init_58 : decode cX6_init 58 = .ok (.iconst 5, 1) := by decide +kernel
theorem dX6_init_59 : decode cX6_init 59 = .ok (.iastore, 1) := by decide +kernel
theorem dX6_init_60 : decode cX6_init 60 = .ok (.iinc 1 1, 3) := by decide +kernel
theorem dX6_init_63 : decode cX6_init 63 = .ok (.goto (-16), 3) := by decide +kernel
theorem dX6_init_66 : decode cX6_init 66 = .ok (.return_, 1) := by decide +kernel
theorem dX6_bankAt_0 : decode cX6_bankAt 0 = .ok (.aload_n 0, 1) := by decide +kernel
theorem dX6_bankAt_1 : decode cX6_bankAt 1 = .ok (.getfield 9, 3) := by decide +kernel
theorem dX6_bankAt_4 : decode cX6_bankAt 4 = .ok (.iload_n 1, 1) := by decide +kernel
theorem dX6_bankAt_5 : decode cX6_bankAt 5 = .ok (.bipush 64, 2) := by decide +kernel
theorem dX6_bankAt_7 : decode cX6_bankAt 7 = .ok (.idiv, 1) := by decide +kernel
theorem dX6_bankAt_8 : decode cX6_bankAt 8 = .ok (.bipush 8, 2) := by decide +kernel
theorem dX6_bankAt_10 : decode cX6_bankAt 10 = .ok (.iload_n 2, 1) := by decide +kernel
theorem dX6_bankAt_11 : decode cX6_bankAt 11 = .ok (.bipush 64, 2) := by decide +kernel
theorem dX6_bankAt_13 : decode cX6_bankAt 13 = .ok (.idiv, 1) := by decide +kernel
theorem dX6_bankAt_14 : decode cX6_bankAt 14 = .ok (.imul, 1) := by decide +kernel
theorem dX6_bankAt_15 : decode cX6_bankAt 15 = .ok (.iadd, 1) := by decide +kernel
theorem dX6_bankAt_16 : decode cX6_bankAt 16 = .ok (.iaload, 1) := by decide +kernel
theorem dX6_bankAt_17 : decode cX6_bankAt 17 = .ok (.ireturn, 1) := by decide +kernel
theorem dX7_init_0 : decode cX7_init 0 = .ok (.aload_n 0, 1) := by decide +kernel
theorem dX7_init_1 : decode cX7_init 1 = .ok (.invokespecial 3, 3) := by decide +kernel
theorem dX7_init_4 : decode cX7_init 4 = .ok (.aload_n 0, 1) := by decide +kernel
theorem dX7_init_5 : decode cX7_init 5 = .ok (.sipush 200, 3) := by decide +kernel
theorem dX7_init_8 : decode cX7_init 8 = .ok (.newarray .int, 2) := by decide +kernel
theorem dX7_init_10 : decode cX7_init 10 = .ok (.putfield 9, 3) := by decide +kernel
theorem dX7_init_13 : decode cX7_init 13 = .ok (.return_, 1) := by decide +kernel
theorem dX7_append_0 : decode cX7_append 0 = .ok (.bipush 24, 2) := by decide +kernel
theorem dX7_append_2 : decode cX7_append 2 = .ok (.istore_n 2, 1) := by decide +kernel
theorem dX7_append_3 : decode cX7_append 3 = .ok (.iload_n 2, 1) := by decide +kernel
theorem dX7_append_4 : decode cX7_append 4 = .ok (.ifCond .lt 45, 3) := by decide +kernel
theorem dX7_append_7 : decode cX7_append 7 = .ok (.aload_n 0, 1) := by decide +kernel
theorem dX7_append_8 : decode cX7_append 8 = .ok (.getfield 15, 3) := by decide +kernel
theorem dX7_append_11 : decode cX7_append 11 = .ok (.sipush 200, 3) := by decide +kernel
theorem dX7_append_14 : decode cX7_append 14 = .ok (.if_icmp .ge 35, 3) := by decide +kernel
theorem dX7_append_17 : decode cX7_append 17 = .ok (.aload_n 0, 1) := by decide +kernel
theorem dX7_append_18 : decode cX7_append 18 = .ok (.getfield 9, 3) := by decide +kernel
theorem dX7_append_21 : decode cX7_append 21 = .ok (.aload_n 0, 1) := by decide +kernel
theorem dX7_append_22 : decode cX7_append 22 = .ok (.getfield 15, 3) := by decide +kernel
theorem dX7_append_25 : decode cX7_append 25 = .ok (.iload_n 1, 1) := by decide +kernel
theorem dX7_append_26 : decode cX7_append 26 = .ok (.iload_n 2, 1) := by decide +kernel
theorem dX7_append_27 : decode cX7_append 27 = .ok (.iushr, 1) := by decide +kernel
theorem dX7_append_28 : decode cX7_append 28 = .ok (.sipush 255, 3) := by decide +kernel
theorem dX7_append_31 : decode cX7_append 31 = .ok (.iand, 1) := by decide +kernel
theorem dX7_append_32 : decode cX7_append 32 = .ok (.iastore, 1) := by decide +kernel
theorem dX7_append_33 : decode cX7_append 33 = .ok (.aload_n 0, 1) := by decide +kernel
theorem dX7_append_34 : decode cX7_append 34 = .ok (.dup, 1) := by decide +kernel
theorem dX7_append_35 : decode cX7_append 35 = .ok (.getfield 15, 3) := by decide +kernel
theorem dX7_append_38 : decode cX7_append 38 = .ok (.iconst 1, 1) := by decide +kernel
theorem dX7_append_39 : decode cX7_append 39 = .ok (.iadd, 1) := by decide +kernel
theorem dX7_append_40 : decode cX7_append 40 = .ok (.putfield 15, 3) := by decide +kernel
theorem dX7_append_43 : decode cX7_append 43 = .ok (.iinc 2 (-8), 3) := by decide +kernel
theorem dX7_append_46 : decode cX7_append 46 = .ok (.goto (-43), 3) := by decide +kernel
theorem dX7_append_49 : decode cX7_append 49 = .ok (.return_, 1) := by decide +kernel
set_option maxRecDepth 20000 in
theorem ggX7_holdsLine_X8_isWithin : GoodIn wsX7_holdsLine wsX8_isWithin := goodIn_r _ [4] (by decide +kernel) (by decide +kernel)
set_option maxRecDepth 20000 in
theorem gX7_holdsLine_X8_isWithin_n19 : GoodIn wsX7_holdsLine (wsX8_isWithin) := ggX7_holdsLine_X8_isWithin
set_option maxRecDepth 20000 in
theorem ggX7_holdsLine_X7_coordinateAt : GoodIn wsX7_holdsLine wsX7_coordinateAt := goodIn_r _ [9, 10, 11, 12] (by decide +kernel) (by decide +kernel)
set_option maxRecDepth 20000 in
theorem gX7_holdsLine_X7_coordinateAt : GoodIn wsX7_holdsLine (wsV RX7 23 RX7 yX7_coordinateAt wsX7_coordinateAt) := goodIn_app (goodIn_of _ (by decide +kernel)) ggX7_holdsLine_X7_coordinateAt
theorem dX7_holdsLine_0 : decode cX7_holdsLine 0 = .ok (.aload_n 0, 1) := by decide +kernel
theorem dX7_holdsLine_1 : decode cX7_holdsLine 1 = .ok (.getfield 15, 3) := by decide +kernel
theorem dX7_holdsLine_4 : decode cX7_holdsLine 4 = .ok (.iconst 4, 1) := by decide +kernel
theorem dX7_holdsLine_5 : decode cX7_holdsLine 5 = .ok (.irem, 1) := by decide +kernel
theorem dX7_holdsLine_6 : decode cX7_holdsLine 6 = .ok (.ifCond .ne 18, 3) := by decide +kernel
theorem dX7_holdsLine_9 : decode cX7_holdsLine 9 = .ok (.aload_n 0, 1) := by decide +kernel
theorem dX7_holdsLine_10 : decode cX7_holdsLine 10 = .ok (.getfield 15, 3) := by decide +kernel
theorem dX7_holdsLine_13 : decode cX7_holdsLine 13 = .ok (.iconst 4, 1) := by decide +kernel
theorem dX7_holdsLine_14 : decode cX7_holdsLine 14 = .ok (.idiv, 1) := by decide +kernel
theorem dX7_holdsLine_15 : decode cX7_holdsLine 15 = .ok (.iconst 4, 1) := by decide +kernel
theorem dX7_holdsLine_16 : decode cX7_holdsLine 16 = .ok (.bipush 48, 2) := by decide +kernel
theorem dX7_holdsLine_18 : decode cX7_holdsLine 18 = .ok (.invokestatic 19, 3) := by decide +kernel
theorem dX7_holdsLine_21 : decode cX7_holdsLine 21 = .ok (.ifCond .ne 5, 3) := by decide +kernel
theorem dX7_holdsLine_24 : decode cX7_holdsLine 24 = .ok (.iconst 0, 1) := by decide +kernel
theorem dX7_holdsLine_25 : decode cX7_holdsLine 25 = .ok (.ireturn, 1) := by decide +kernel
theorem dX7_holdsLine_26 : decode cX7_holdsLine 26 = .ok (.iconst 0, 1) := by decide +kernel
theorem dX7_holdsLine_27 : decode cX7_holdsLine 27 = .ok (.istore_n 1, 1) := by decide +kernel
theorem dX7_holdsLine_28 : decode cX7_holdsLine 28 = .ok (.iload_n 1, 1) := by decide +kernel
theorem dX7_holdsLine_29 : decode cX7_holdsLine 29 = .ok (.aload_n 0, 1) := by decide +kernel
theorem dX7_holdsLine_30 : decode cX7_holdsLine 30 = .ok (.getfield 15, 3) := by decide +kernel
theorem dX7_holdsLine_33 : decode cX7_holdsLine 33 = .ok (.if_icmp .ge 22, 3) := by decide +kernel
theorem dX7_holdsLine_36 : decode cX7_holdsLine 36 = .ok (.aload_n 0, 1) := by decide +kernel
theorem dX7_holdsLine_37 : decode cX7_holdsLine 37 = .ok (.iload_n 1, 1) := by decide +kernel
theorem dX7_holdsLine_38 : decode cX7_holdsLine 38 = .ok (.invokevirtual 23, 3) := by decide +kernel
theorem dX7_holdsLine_41 : decode cX7_holdsLine 41 = .ok (.sipush 511, 3) := by decide +kernel
theorem dX7_holdsLine_44 : decode cX7_holdsLine 44 = .ok (.if_icmp .le 5, 3) := by decide +kernel
theorem dX7_holdsLine_47 : decode cX7_holdsLine 47 = .ok (.iconst 0, 1) := by decide +kernel
theorem dX7_holdsLine_48 : decode cX7_holdsLine 48 = .ok (.ireturn, 1) := by decide +kernel
theorem dX7_holdsLine_49 : decode cX7_holdsLine 49 = .ok (.iinc 1 2, 3) := by decide +kernel
theorem dX7_holdsLine_52 : decode cX7_holdsLine 52 = .ok (.goto (-24), 3) := by decide +kernel
theorem dX7_holdsLine_55 : decode cX7_holdsLine 55 = .ok (.iconst 1, 1) := by decide +kernel
theorem dX7_holdsLine_56 : decode cX7_holdsLine 56 = .ok (.ireturn, 1) := by decide +kernel
set_option maxRecDepth 20000 in
theorem ggX7_copyLineTo_X7_coordinateAt : GoodIn wsX7_copyLineTo wsX7_coordinateAt := goodIn_r _ [7, 8, 20, 21] (by decide +kernel) (by decide +kernel)
set_option maxRecDepth 20000 in
theorem gX7_copyLineTo_X7_coordinateAt : GoodIn wsX7_copyLineTo (wsV RX7 23 RX7 yX7_coordinateAt wsX7_coordinateAt) := goodIn_app (goodIn_of _ (by decide +kernel)) ggX7_copyLineTo_X7_coordinateAt
set_option maxRecDepth 20000 in
theorem ggX7_copyLineTo_X3_add : GoodIn wsX7_copyLineTo wsX3_add := goodIn_r _ [13, 14, 15, 16, 17, 18, 19] (by decide +kernel) (by decide +kernel)
set_option maxRecDepth 20000 in
theorem gX7_copyLineTo_X3_add : GoodIn wsX7_copyLineTo (wsV RX7 30 RX3 yX3_add wsX3_add) := goodIn_app (goodIn_of _ (by decide +kernel)) ggX7_copyLineTo_X3_add
theorem dX7_copyLineTo_0 : decode cX7_copyLineTo 0 = .ok (.aload_n 1, 1) := by decide +kernel
theorem dX7_copyLineTo_1 : decode cX7_copyLineTo 1 = .ok (.iconst 0, 1) := by decide +kernel
theorem dX7_copyLineTo_2 : decode cX7_copyLineTo 2 = .ok (.putfield 27, 3) := by decide +kernel
theorem dX7_copyLineTo_5 : decode cX7_copyLineTo 5 = .ok (.iconst 0, 1) := by decide +kernel
theorem dX7_copyLineTo_6 : decode cX7_copyLineTo 6 = .ok (.istore_n 2, 1) := by decide +kernel
theorem dX7_copyLineTo_7 : decode cX7_copyLineTo 7 = .ok (.iload_n 2, 1) := by decide +kernel
theorem dX7_copyLineTo_8 : decode cX7_copyLineTo 8 = .ok (.iconst 4, 1) := by decide +kernel
theorem dX7_copyLineTo_9 : decode cX7_copyLineTo 9 = .ok (.iadd, 1) := by decide +kernel
theorem dX7_copyLineTo_10 : decode cX7_copyLineTo 10 = .ok (.aload_n 0, 1) := by decide +kernel
theorem dX7_copyLineTo_11 : decode cX7_copyLineTo 11 = .ok (.getfield 15, 3) := by decide +kernel
theorem dX7_copyLineTo_14 : decode cX7_copyLineTo 14 = .ok (.if_icmp .gt 25, 3) := by decide +kernel
theorem dX7_copyLineTo_17 : decode cX7_copyLineTo 17 = .ok (.aload_n 1, 1) := by decide +kernel
theorem dX7_copyLineTo_18 : decode cX7_copyLineTo 18 = .ok (.aload_n 0, 1) := by decide +kernel
theorem dX7_copyLineTo_19 : decode cX7_copyLineTo 19 = .ok (.iload_n 2, 1) := by decide +kernel
theorem dX7_copyLineTo_20 : decode cX7_copyLineTo 20 = .ok (.invokevirtual 23, 3) := by decide +kernel
theorem dX7_copyLineTo_23 : decode cX7_copyLineTo 23 = .ok (.aload_n 0, 1) := by decide +kernel
theorem dX7_copyLineTo_24 : decode cX7_copyLineTo 24 = .ok (.iload_n 2, 1) := by decide +kernel
theorem dX7_copyLineTo_25 : decode cX7_copyLineTo 25 = .ok (.iconst 2, 1) := by decide +kernel
theorem dX7_copyLineTo_26 : decode cX7_copyLineTo 26 = .ok (.iadd, 1) := by decide +kernel
theorem dX7_copyLineTo_27 : decode cX7_copyLineTo 27 = .ok (.invokevirtual 23, 3) := by decide +kernel
theorem dX7_copyLineTo_30 : decode cX7_copyLineTo 30 = .ok (.invokevirtual 30, 3) := by decide +kernel
theorem dX7_copyLineTo_33 : decode cX7_copyLineTo 33 = .ok (.iinc 2 4, 3) := by decide +kernel
theorem dX7_copyLineTo_36 : decode cX7_copyLineTo 36 = .ok (.goto (-29), 3) := by decide +kernel
theorem dX7_copyLineTo_39 : decode cX7_copyLineTo 39 = .ok (.return_, 1) := by decide +kernel
theorem dX7_holdsBanks_0 : decode cX7_holdsBanks 0 = .ok (.aload_n 0, 1) := by decide +kernel
theorem dX7_holdsBanks_1 : decode cX7_holdsBanks 1 = .ok (.getfield 15, 3) := by decide +kernel
theorem dX7_holdsBanks_4 : decode cX7_holdsBanks 4 = .ok (.bipush 64, 2) := by decide +kernel
theorem dX7_holdsBanks_6 : decode cX7_holdsBanks 6 = .ok (.if_icmp .eq 5, 3) := by decide +kernel
theorem dX7_holdsBanks_9 : decode cX7_holdsBanks 9 = .ok (.iconst 0, 1) := by decide +kernel
theorem dX7_holdsBanks_10 : decode cX7_holdsBanks 10 = .ok (.ireturn, 1) := by decide +kernel
theorem dX7_holdsBanks_11 : decode cX7_holdsBanks 11 = .ok (.iconst 0, 1) := by decide +kernel
theorem dX7_holdsBanks_12 : decode cX7_holdsBanks 12 = .ok (.istore_n 1, 1) := by decide +kernel
theorem dX7_holdsBanks_13 : decode cX7_holdsBanks 13 = .ok (.iload_n 1, 1) := by decide +kernel
theorem dX7_holdsBanks_14 : decode cX7_holdsBanks 14 = .ok (.aload_n 0, 1) := by decide +kernel
theorem dX7_holdsBanks_15 : decode cX7_holdsBanks 15 = .ok (.getfield 15, 3) := by decide +kernel
theorem dX7_holdsBanks_18 : decode cX7_holdsBanks 18 = .ok (.if_icmp .ge 22, 3) := by decide +kernel
theorem dX7_holdsBanks_21 : decode cX7_holdsBanks 21 = .ok (.aload_n 0, 1) := by decide +kernel
theorem dX7_holdsBanks_22 : decode cX7_holdsBanks 22 = .ok (.getfield 9, 3) := by decide +kernel
theorem dX7_holdsBanks_25 : decode cX7_holdsBanks 25 = .ok (.iload_n 1, 1) := by decide +kernel
theorem dX7_holdsBanks_26 : decode cX7_holdsBanks 26 = .ok (.iaload, 1) := by decide +kernel
theorem dX7_holdsBanks_27 : decode cX7_holdsBanks 27 = .ok (.bipush 9, 2) := by decide +kernel
theorem dX7_holdsBanks_29 : decode cX7_holdsBanks 29 = .ok (.if_icmp .le 5, 3) := by decide +kernel
theorem dX7_holdsBanks_32 : decode cX7_holdsBanks 32 = .ok (.iconst 0, 1) := by decide +kernel
theorem dX7_holdsBanks_33 : decode cX7_holdsBanks 33 = .ok (.ireturn, 1) := by decide +kernel
theorem dX7_holdsBanks_34 : decode cX7_holdsBanks 34 = .ok (.iinc 1 1, 3) := by decide +kernel
theorem dX7_holdsBanks_37 : decode cX7_holdsBanks 37 = .ok (.goto (-24), 3) := by decide +kernel
theorem dX7_holdsBanks_40 : decode cX7_holdsBanks 40 = .ok (.iconst 1, 1) := by decide +kernel
theorem dX7_holdsBanks_41 : decode cX7_holdsBanks 41 = .ok (.ireturn, 1) := by decide +kernel
theorem dX7_copyBanksTo_0 : decode cX7_copyBanksTo 0 = .ok (.iconst 0, 1) := by decide +kernel
theorem dX7_copyBanksTo_1 : decode cX7_copyBanksTo 1 = .ok (.istore_n 2, 1) := by decide +kernel
theorem dX7_copyBanksTo_2 : decode cX7_copyBanksTo 2 = .ok (.iload_n 2, 1) := by decide +kernel
theorem dX7_copyBanksTo_3 : decode cX7_copyBanksTo 3 = .ok (.bipush 64, 2) := by decide +kernel
theorem dX7_copyBanksTo_5 : decode cX7_copyBanksTo 5 = .ok (.if_icmp .ge 18, 3) := by decide +kernel
theorem dX7_copyBanksTo_8 : decode cX7_copyBanksTo 8 = .ok (.aload_n 1, 1) := by decide +kernel
theorem dX7_copyBanksTo_9 : decode cX7_copyBanksTo 9 = .ok (.iload_n 2, 1) := by decide +kernel
theorem dX7_copyBanksTo_10 : decode cX7_copyBanksTo 10 = .ok (.aload_n 0, 1) := by decide +kernel
theorem dX7_copyBanksTo_11 : decode cX7_copyBanksTo 11 = .ok (.getfield 9, 3) := by decide +kernel
theorem dX7_copyBanksTo_14 : decode cX7_copyBanksTo 14 = .ok (.iload_n 2, 1) := by decide +kernel
theorem dX7_copyBanksTo_15 : decode cX7_copyBanksTo 15 = .ok (.iaload, 1) := by decide +kernel
theorem dX7_copyBanksTo_16 : decode cX7_copyBanksTo 16 = .ok (.iastore, 1) := by decide +kernel
theorem dX7_copyBanksTo_17 : decode cX7_copyBanksTo 17 = .ok (.iinc 2 1, 3) := by decide +kernel
theorem dX7_copyBanksTo_20 : decode cX7_copyBanksTo 20 = .ok (.goto (-18), 3) := by decide +kernel
theorem dX7_copyBanksTo_23 : decode cX7_copyBanksTo 23 = .ok (.return_, 1) := by decide +kernel
theorem dX7_coordinateAt_0 : decode cX7_coordinateAt 0 = .ok (.aload_n 0, 1) := by decide +kernel
theorem dX7_coordinateAt_1 : decode cX7_coordinateAt 1 = .ok (.getfield 9, 3) := by decide +kernel
theorem dX7_coordinateAt_4 : decode cX7_coordinateAt 4 = .ok (.iload_n 1, 1) := by decide +kernel
theorem dX7_coordinateAt_5 : decode cX7_coordinateAt 5 = .ok (.iaload, 1) := by decide +kernel
theorem dX7_coordinateAt_6 : decode cX7_coordinateAt 6 = .ok (.sipush 256, 3) := by decide +kernel
theorem dX7_coordinateAt_9 : decode cX7_coordinateAt 9 = .ok (.imul, 1) := by decide +kernel
theorem dX7_coordinateAt_10 : decode cX7_coordinateAt 10 = .ok (.aload_n 0, 1) := by decide +kernel
theorem dX7_coordinateAt_11 : decode cX7_coordinateAt 11 = .ok (.getfield 9, 3) := by decide +kernel
theorem dX7_coordinateAt_14 : decode cX7_coordinateAt 14 = .ok (.iload_n 1, 1) := by decide +kernel
theorem dX7_coordinateAt_15 : decode cX7_coordinateAt 15 = .ok (.iconst 1, 1) := by decide +kernel
theorem dX7_coordinateAt_16 : decode cX7_coordinateAt 16 = .ok (.iadd, 1) := by decide +kernel
theorem dX7_coordinateAt_17 : decode cX7_coordinateAt 17 = .ok (.iaload, 1) := by decide +kernel
theorem dX7_coordinateAt_18 : decode cX7_coordinateAt 18 = .ok (.iadd, 1) := by decide +kernel
theorem dX7_coordinateAt_19 : decode cX7_coordinateAt 19 = .ok (.ireturn, 1) := by decide +kernel
set_option maxRecDepth 20000 in
theorem ggX8_init_X7_init : GoodIn wsX8_init wsX7_init := goodIn_r _ [34, 35, 2, 3, 36, 37, 105, 106] (by decide +kernel) (by decide +kernel)
set_option maxRecDepth 20000 in
theorem gX8_init_X7_init_n9 : GoodIn wsX8_init (wsX7_init) := ggX8_init_X7_init
set_option maxRecDepth 20000 in
theorem ggX8_init_X6_init : GoodIn wsX8_init wsX6_init := goodIn_r _ [40, 41, 2, 3, 36, 42, 43, 44, 45, 46, 47, 48, 115, 116, 117, 118, 119, 120, 121] (by decide +kernel) (by decide +kernel)
set_option maxRecDepth 20000 in
theorem gX8_init_X6_init : GoodIn wsX8_init (wsX6_init) := ggX8_init_X6_init
set_option maxRecDepth 20000 in
theorem ggX8_init_X3_init : GoodIn wsX8_init wsX3_init := goodIn_r _ [50, 51, 2, 3, 36, 52, 53, 122, 123, 124] (by decide +kernel) (by decide +kernel)
set_option maxRecDepth 20000 in
theorem gX8_init_X3_init_n25 : GoodIn wsX8_init (wsX3_init) := ggX8_init_X3_init
set_option maxRecDepth 20000 in
theorem ggX8_init_X5_init : GoodIn wsX8_init wsX5_init := goodIn_r _ [55, 56, 2, 3, 57, 58, 59, 60, 61, 13, 14, 62, 63, 64, 65, 66, 36, 67, 68, 69, 49, 50, 51, 52, 53, 142, 143, 144, 145, 125, 126, 127, 128, 122, 123, 124] (by decide +kernel) (by decide +kernel)
set_option maxRecDepth 20000 in
theorem gX8_init_X5_init_n32 : GoodIn wsX8_init (wsX5_init) := ggX8_init_X5_init
set_option maxRecDepth 20000 in
theorem ggX8_init_X2_init : GoodIn wsX8_init wsX2_init := goodIn_r _ [71, 72, 2, 3, 36, 73, 74, 75, 76, 77, 129, 130, 131, 132, 133, 134] (by decide +kernel) (by decide +kernel)
set_option maxRecDepth 20000 in
theorem gX8_init_X2_init_n42 : GoodIn wsX8_init (wsX2_init) := ggX8_init_X2_init
set_option maxRecDepth 20000 in
theorem ggX8_init_X1_init : GoodIn wsX8_init wsX1_init := goodIn_r _ [79, 80, 2, 3, 36, 81, 82, 83, 84, 135, 136, 137, 138, 139] (by decide +kernel) (by decide +kernel)
set_option maxRecDepth 20000 in
theorem gX8_init_X1_init_n49 : GoodIn wsX8_init (wsX1_init) := ggX8_init_X1_init
set_option maxRecDepth 20000 in
theorem ggX8_init_X4_init : GoodIn wsX8_init wsX4_init := goodIn_r _ [86, 87, 2, 3, 36, 88, 140, 141] (by decide +kernel) (by decide +kernel)
set_option maxRecDepth 20000 in
theorem gX8_init_X4_init_n56 : GoodIn wsX8_init (wsX4_init) := ggX8_init_X4_init
set_option maxRecDepth 20000 in
theorem ggX8_init_X3_add : GoodIn wsX8_init wsX3_add := goodIn_r _ [92, 93, 52, 53, 122, 123, 124] (by decide +kernel) (by decide +kernel)
set_option maxRecDepth 20000 in
theorem gX8_init_X3_add : GoodIn wsX8_init (wsV RX8 61 RX3 yX3_add wsX3_add) := goodIn_app (goodIn_of _ (by decide +kernel)) ggX8_init_X3_add
set_option maxRecDepth 20000 in
theorem ggX8_init_X5_restart : GoodIn wsX8_init wsX5_restart := goodIn_r _ [97, 62, 60, 98, 99, 100, 101, 102, 14, 103, 93, 52, 53, 104, 90, 91, 92, 125, 126, 127, 128, 142, 143, 144, 145, 122, 123, 124] (by decide +kernel) (by decide +kernel)
set_option maxRecDepth 20000 in
theorem gX8_init_X5_restart : GoodIn wsX8_init (wsV RX8 65 RX5 yX5_restart wsX5_restart) := goodIn_app (goodIn_of _ (by decide +kernel)) ggX8_init_X5_restart
theorem dX8_init_0 : decode cX8_init 0 = .ok (.aload_n 0, 1) := by decide +kernel
theorem dX8_init_1 : decode cX8_init 1 = .ok (.invokespecial 1, 3) := by decide +kernel
theorem dX8_init_4 : decode cX8_init 4 = .ok (.aload_n 0, 1) := by decide +kernel
theorem dX8_init_5 : decode cX8_init 5 = .ok (.new 7, 3) := by decide +kernel
theorem dX8_init_8 : decode cX8_init 8 = .ok (.dup, 1) := by decide +kernel
theorem dX8_init_9 : decode cX8_init 9 = .ok (.invokespecial 9, 3) := by decide +kernel
theorem dX8_init_12 : decode cX8_init 12 = .ok (.putfield 10, 3) := by decide +kernel
theorem dX8_init_15 : decode cX8_init 15 = .ok (.aload_n 0, 1) := by decide +kernel
theorem dX8_init_16 : decode cX8_init 16 = .ok (.new 16, 3) := by decide +kernel
theorem dX8_init_19 : decode cX8_init 19 = .ok (.dup, 1) := by decide +kernel
theorem dX8_init_20 : decode cX8_init 20 = .ok (.invokespecial 18, 3) := by decide +kernel
theorem dX8_init_23 : decode cX8_init 23 = .ok (.putfield 19, 3) := by decide +kernel
theorem dX8_init_26 : decode cX8_init 26 = .ok (.aload_n 0, 1) := by decide +kernel
theorem dX8_init_27 : decode cX8_init 27 = .ok (.new 23, 3) := by decide +kernel
theorem dX8_init_30 : decode cX8_init 30 = .ok (.dup, 1) := by decide +kernel
theorem dX8_init_31 : decode cX8_init 31 = .ok (.invokespecial 25, 3) := by decide +kernel
theorem dX8_init_34 : decode cX8_init 34 = .ok (.putfield 26, 3) := by decide +kernel
theorem dX8_init_37 : decode cX8_init 37 = .ok (.aload_n 0, 1) := by decide +kernel
theorem dX8_init_38 : decode cX8_init 38 = .ok (.new 30, 3) := by decide +kernel
theorem dX8_init_41 : decode cX8_init 41 = .ok (.dup, 1) := by decide +kernel
theorem dX8_init_42 : decode cX8_init 42 = .ok (.invokespecial 32, 3) := by decide +kernel
theorem dX8_init_45 : decode cX8_init 45 = .ok (.putfield 33, 3) := by decide +kernel
theorem dX8_init_48 : decode cX8_init 48 = .ok (.aload_n 0, 1) := by decide +kernel
theorem dX8_init_49 : decode cX8_init 49 = .ok (.new 30, 3) := by decide +kernel
theorem dX8_init_52 : decode cX8_init 52 = .ok (.dup, 1) := by decide +kernel
theorem dX8_init_53 : decode cX8_init 53 = .ok (.invokespecial 32, 3) := by decide +kernel
theorem dX8_init_56 : decode cX8_init 56 = .ok (.putfield 37, 3) := by decide +kernel
theorem dX8_init_59 : decode cX8_init 59 = .ok (.aload_n 0, 1) := by decide +kernel
theorem dX8_init_60 : decode cX8_init 60 = .ok (.new 40, 3) := by decide +kernel
theorem dX8_init_63 : decode cX8_init 63 = .ok (.dup, 1) := by decide +kernel
theorem dX8_init_64 : decode cX8_init 64 = .ok (.invokespecial 42, 3) := by decide +kernel
theorem dX8_init_67 : decode cX8_init 67 = .ok (.putfield 43, 3) := by decide +kernel
theorem dX8_init_70 : decode cX8_init 70 = .ok (.aload_n 0, 1) := by decide +kernel
theorem dX8_init_71 : decode cX8_init 71 = .ok (.new 47, 3) := by decide +kernel
theorem dX8_init_74 : decode cX8_init 74 = .ok (.dup, 1) := by decide +kernel
theorem dX8_init_75 : decode cX8_init 75 = .ok (.invokespecial 49, 3) := by decide +kernel
theorem dX8_init_78 : decode cX8_init 78 = .ok (.putfield 50, 3) := by decide +kernel
theorem dX8_init_81 : decode cX8_init 81 = .ok (.aload_n 0, 1) := by decide +kernel
theorem dX8_init_82 : decode cX8_init 82 = .ok (.new 54, 3) := by decide +kernel
theorem dX8_init_85 : decode cX8_init 85 = .ok (.dup, 1) := by decide +kernel
theorem dX8_init_86 : decode cX8_init 86 = .ok (.invokespecial 56, 3) := by decide +kernel
theorem dX8_init_89 : decode cX8_init 89 = .ok (.putfield 57, 3) := by decide +kernel
theorem dX8_init_92 : decode cX8_init 92 = .ok (.aload_n 0, 1) := by decide +kernel
theorem dX8_init_93 : decode cX8_init 93 = .ok (.getfield 26, 3) := by decide +kernel
theorem dX8_init_96 : decode cX8_init 96 = .ok (.iconst 0, 1) := by decide +kernel
theorem dX8_init_97 : decode cX8_init 97 = .ok (.sipush 256, 3) := by decide +kernel
theorem dX8_init_100 : decode cX8_init 100 = .ok (.invokevirtual 61, 3) := by decide +kernel
theorem dX8_init_103 : decode cX8_init 103 = .ok (.aload_n 0, 1) := by decide +kernel
theorem dX8_init_104 : decode cX8_init 104 = .ok (.getfield 26, 3) := by decide +kernel
theorem dX8_init_107 : decode cX8_init 107 = .ok (.sipush 128, 3) := by decide +kernel
theorem dX8_init_110 : decode cX8_init 110 = .ok (.sipush 256, 3) := by decide +kernel
theorem dX8_init_113 : decode cX8_init 113 = .ok (.invokevirtual 61, 3) := by decide +kernel
theorem dX8_init_116 : decode cX8_init 116 = .ok (.aload_n 0, 1) := by decide +kernel
theorem dX8_init_117 : decode cX8_init 117 = .ok (.getfield 26, 3) := by decide +kernel
theorem dX8_init_120 : decode cX8_init 120 = .ok (.sipush 256, 3) := by decide +kernel
theorem dX8_init_123 : decode cX8_init 123 = .ok (.sipush 256, 3) := by decide +kernel
theorem dX8_init_126 : decode cX8_init 126 = .ok (.invokevirtual 61, 3) := by decide +kernel
theorem dX8_init_129 : decode cX8_init 129 = .ok (.aload_n 0, 1) := by decide +kernel
theorem dX8_init_130 : decode cX8_init 130 = .ok (.getfield 26, 3) := by decide +kernel
theorem dX8_init_133 : decode cX8_init 133 = .ok (.sipush 384, 3) := by decide +kernel
theorem dX8_init_136 : decode cX8_init 136 = .ok (.sipush 256, 3) := by decide +kernel
theorem dX8_init_139 : decode cX8_init 139 = .ok (.invokevirtual 61, 3) := by decide +kernel
theorem dX8_init_142 : decode cX8_init 142 = .ok (.aload_n 0, 1) := by decide +kernel
theorem dX8_init_143 : decode cX8_init 143 = .ok (.getfield 26, 3) := by decide +kernel
theorem dX8_init_146 : decode cX8_init 146 = .ok (.sipush 511, 3) := by decide +kernel
theorem dX8_init_149 : decode cX8_init 149 = .ok (.sipush 256, 3) := by decide +kernel
theorem dX8_init_152 : decode cX8_init 152 = .ok (.invokevirtual 61, 3) := by decide +kernel
theorem dX8_init_155 : decode cX8_init 155 = .ok (.aload_n 0, 1) := by decide +kernel
theorem dX8_init_156 : decode cX8_init 156 = .ok (.getfield 33, 3) := by decide +kernel
theorem dX8_init_159 : decode cX8_init 159 = .ok (.aload_n 0, 1) := by decide +kernel
theorem dX8_init_160 : decode cX8_init 160 = .ok (.getfield 26, 3) := by decide +kernel
theorem dX8_init_163 : decode cX8_init 163 = .ok (.invokevirtual 65, 3) := by decide +kernel
theorem dX8_init_166 : decode cX8_init 166 = .ok (.return_, 1) := by decide +kernel
set_option maxRecDepth 20000 in
theorem ggX8_feed_X7_append : GoodIn wsX8_feed wsX7_append := goodIn_r _ [7, 8, 9, 18, 19] (by decide +kernel) (by decide +kernel)
set_option maxRecDepth 20000 in
theorem gX8_feed_X7_append : GoodIn wsX8_feed (wsV RX8 73 RX7 yX7_append wsX7_append) := goodIn_app (goodIn_of _ (by decide +kernel)) ggX8_feed_X7_append
theorem dX8_feed_0 : decode cX8_feed 0 = .ok (.aload_n 0, 1) := by decide +kernel
theorem dX8_feed_1 : decode cX8_feed 1 = .ok (.getfield 10, 3) := by decide +kernel
theorem dX8_feed_4 : decode cX8_feed 4 = .ok (.getfield 69, 3) := by decide +kernel
theorem dX8_feed_7 : decode cX8_feed 7 = .ok (.sipush 180, 3) := by decide +kernel
theorem dX8_feed_10 : decode cX8_feed 10 = .ok (.if_icmp .le 5, 3) := by decide +kernel
theorem dX8_feed_13 : decode cX8_feed 13 = .ok (.iconst (-1), 1) := by decide +kernel
theorem dX8_feed_14 : decode cX8_feed 14 = .ok (.ireturn, 1) := by decide +kernel
theorem dX8_feed_15 : decode cX8_feed 15 = .ok (.aload_n 0, 1) := by decide +kernel
theorem dX8_feed_16 : decode cX8_feed 16 = .ok (.getfield 10, 3) := by decide +kernel
theorem dX8_feed_19 : decode cX8_feed 19 = .ok (.iload_n 1, 1) := by decide +kernel
theorem dX8_feed_20 : decode cX8_feed 20 = .ok (.invokevirtual 73, 3) := by decide +kernel
theorem dX8_feed_23 : decode cX8_feed 23 = .ok (.aload_n 0, 1) := by decide +kernel
theorem dX8_feed_24 : decode cX8_feed 24 = .ok (.getfield 10, 3) := by decide +kernel
theorem dX8_feed_27 : decode cX8_feed 27 = .ok (.iload_n 2, 1) := by decide +kernel
theorem dX8_feed_28 : decode cX8_feed 28 = .ok (.invokevirtual 73, 3) := by decide +kernel
theorem dX8_feed_31 : decode cX8_feed 31 = .ok (.aload_n 0, 1) := by decide +kernel
theorem dX8_feed_32 : decode cX8_feed 32 = .ok (.getfield 10, 3) := by decide +kernel
theorem dX8_feed_35 : decode cX8_feed 35 = .ok (.iload_n 3, 1) := by decide +kernel
theorem dX8_feed_36 : decode cX8_feed 36 = .ok (.invokevirtual 73, 3) := by decide +kernel
theorem dX8_feed_39 : decode cX8_feed 39 = .ok (.aload_n 0, 1) := by decide +kernel
theorem dX8_feed_40 : decode cX8_feed 40 = .ok (.getfield 10, 3) := by decide +kernel
theorem dX8_feed_43 : decode cX8_feed 43 = .ok (.iload 4, 2) := by decide +kernel
theorem dX8_feed_45 : decode cX8_feed 45 = .ok (.invokevirtual 73, 3) := by decide +kernel
theorem dX8_feed_48 : decode cX8_feed 48 = .ok (.aload_n 0, 1) := by decide +kernel
theorem dX8_feed_49 : decode cX8_feed 49 = .ok (.getfield 10, 3) := by decide +kernel
theorem dX8_feed_52 : decode cX8_feed 52 = .ok (.iload 5, 2) := by decide +kernel
theorem dX8_feed_54 : decode cX8_feed 54 = .ok (.invokevirtual 73, 3) := by decide +kernel
theorem dX8_feed_57 : decode cX8_feed 57 = .ok (.aload_n 0, 1) := by decide +kernel
theorem dX8_feed_58 : decode cX8_feed 58 = .ok (.getfield 10, 3) := by decide +kernel
theorem dX8_feed_61 : decode cX8_feed 61 = .ok (.getfield 69, 3) := by decide +kernel
theorem dX8_feed_64 : decode cX8_feed 64 = .ok (.ireturn, 1) := by decide +kernel
set_option maxRecDepth 20000 in
theorem ggX8_end_X8_isWithin : GoodIn wsX8_end wsX8_isWithin := goodIn_r _ [6] (by decide +kernel) (by decide +kernel)
set_option maxRecDepth 20000 in
theorem gX8_end_X8_isWithin : GoodIn wsX8_end (va_wsS RX8 77 yX8_isWithin wsX8_isWithin) := goodIn_app (goodIn_of _ (by decide +kernel)) ggX8_end_X8_isWithin
theorem dX8_end_0 : decode cX8_end 0 = .ok (.iload_n 1, 1) := by decide +kernel
theorem dX8_end_1 : decode cX8_end 1 = .ok (.iconst 0, 1) := by decide +kernel
theorem dX8_end_2 : decode cX8_end 2 = .ok (.aload_n 0, 1) := by decide +kernel
theorem dX8_end_3 : decode cX8_end 3 = .ok (.getfield 10, 3) := by decide +kernel
theorem dX8_end_6 : decode cX8_end 6 = .ok (.getfield 69, 3) := by decide +kernel
theorem dX8_end_9 : decode cX8_end 9 = .ok (.invokestatic 77, 3) := by decide +kernel
theorem dX8_end_12 : decode cX8_end 12 = .ok (.ifCond .ne 5, 3) := by decide +kernel
theorem dX8_end_15 : decode cX8_end 15 = .ok (.iconst 0, 1) := by decide +kernel
theorem dX8_end_16 : decode cX8_end 16 = .ok (.ireturn, 1) := by decide +kernel
theorem dX8_end_17 : decode cX8_end 17 = .ok (.aload_n 0, 1) := by decide +kernel
theorem dX8_end_18 : decode cX8_end 18 = .ok (.getfield 10, 3) := by decide +kernel
theorem dX8_end_21 : decode cX8_end 21 = .ok (.iload_n 1, 1) := by decide +kernel
theorem dX8_end_22 : decode cX8_end 22 = .ok (.putfield 69, 3) := by decide +kernel
theorem dX8_end_25 : decode cX8_end 25 = .ok (.iconst 1, 1) := by decide +kernel
theorem dX8_end_26 : decode cX8_end 26 = .ok (.ireturn, 1) := by decide +kernel
set_option maxRecDepth 20000 in
theorem ggX8_line_X7_holdsLine : GoodIn wsX8_line wsX7_holdsLine := goodIn_r _ [11, 12, 13, 14, 15, 16, 17, 18, 10, 19, 20, 78, 79] (by decide +kernel) (by decide +kernel)
set_option maxRecDepth 20000 in
theorem gX8_line_X7_holdsLine : GoodIn wsX8_line (wsV RX8 81 RX7 yX7_holdsLine wsX7_holdsLine) := goodIn_app (goodIn_of _ (by decide +kernel)) ggX8_line_X7_holdsLine
set_option maxRecDepth 20000 in
theorem ggX8_line_X7_copyLineTo : GoodIn wsX8_line wsX7_copyLineTo := goodIn_r _ [24, 25, 12, 16, 17, 18, 10, 19, 20, 26, 27, 28, 29, 30, 31, 32, 33, 80, 81, 82, 78, 79] (by decide +kernel) (by decide +kernel)
set_option maxRecDepth 20000 in
theorem gX8_line_X7_copyLineTo : GoodIn wsX8_line (wsV RX8 85 RX7 yX7_copyLineTo wsX7_copyLineTo) := goodIn_app (goodIn_of _ (by decide +kernel)) ggX8_line_X7_copyLineTo
set_option maxRecDepth 20000 in
theorem ggX8_line_X5_restart : GoodIn wsX8_line wsX5_restart := goodIn_r _ [38, 39, 40, 41, 42, 43, 44, 45, 29, 46, 31, 32, 33, 47, 27, 28, 30, 74, 75, 76, 77, 83, 84, 85, 86, 80, 81, 82] (by decide +kernel) (by decide +kernel)
set_option maxRecDepth 20000 in
theorem gX8_line_X5_restart : GoodIn wsX8_line (wsV RX8 65 RX5 yX5_restart wsX5_restart) := goodIn_app (goodIn_of _ (by decide +kernel)) ggX8_line_X5_restart
set_option maxRecDepth 20000 in
theorem ggX8_line_X2_settle : GoodIn wsX8_line wsX2_settle := goodIn_r _ [52, 53, 54, 55, 56, 57, 58, 59, 60, 29, 61, 31, 32, 62, 63, 64, 65, 33, 87, 88, 89, 90, 91, 92, 80, 81, 82] (by decide +kernel) (by decide +kernel)
set_option maxRecDepth 20000 in
theorem gX8_line_X2_settle : GoodIn wsX8_line (wsV RX8 91 RX2 yX2_settle wsX2_settle) := goodIn_app (goodIn_of _ (by decide +kernel)) ggX8_line_X2_settle
theorem dX8_line_0 : decode cX8_line 0 = .ok (.aload_n 0, 1) := by decide +kernel
theorem dX8_line_1 : decode cX8_line 1 = .ok (.getfield 10, 3) := by decide +kernel
theorem dX8_line_4 : decode cX8_line 4 = .ok (.invokevirtual 81, 3) := by decide +kernel
theorem dX8_line_7 : decode cX8_line 7 = .ok (.istore_n 1, 1) := by decide +kernel
theorem dX8_line_8 : decode cX8_line 8 = .ok (.iload_n 1, 1) := by decide +kernel
theorem dX8_line_9 : decode cX8_line 9 = .ok (.ifCond .eq 39, 3) := by decide +kernel
theorem dX8_line_12 : decode cX8_line 12 = .ok (.aload_n 0, 1) := by decide +kernel
theorem dX8_line_13 : decode cX8_line 13 = .ok (.getfield 10, 3) := by decide +kernel
theorem dX8_line_16 : decode cX8_line 16 = .ok (.aload_n 0, 1) := by decide +kernel
theorem dX8_line_17 : decode cX8_line 17 = .ok (.getfield 26, 3) := by decide +kernel
theorem dX8_line_20 : decode cX8_line 20 = .ok (.invokevirtual 85, 3) := by decide +kernel
theorem dX8_line_23 : decode cX8_line 23 = .ok (.aload_n 0, 1) := by decide +kernel
theorem dX8_line_24 : decode cX8_line 24 = .ok (.getfield 33, 3) := by decide +kernel
theorem dX8_line_27 : decode cX8_line 27 = .ok (.aload_n 0, 1) := by decide +kernel
theorem dX8_line_28 : decode cX8_line 28 = .ok (.getfield 26, 3) := by decide +kernel
theorem dX8_line_31 : decode cX8_line 31 = .ok (.invokevirtual 65, 3) := by decide +kernel
theorem dX8_line_34 : decode cX8_line 34 = .ok (.aload_n 0, 1) := by decide +kernel
theorem dX8_line_35 : decode cX8_line 35 = .ok (.getfield 43, 3) := by decide +kernel
theorem dX8_line_38 : decode cX8_line 38 = .ok (.aload_n 0, 1) := by decide +kernel
theorem dX8_line_39 : decode cX8_line 39 = .ok (.getfield 33, 3) := by decide +kernel
theorem dX8_line_42 : decode cX8_line 42 = .ok (.getfield 88, 3) := by decide +kernel
theorem dX8_line_45 : decode cX8_line 45 = .ok (.invokevirtual 91, 3) := by decide +kernel
theorem dX8_line_48 : decode cX8_line 48 = .ok (.aload_n 0, 1) := by decide +kernel
theorem dX8_line_49 : decode cX8_line 49 = .ok (.getfield 10, 3) := by decide +kernel
theorem dX8_line_52 : decode cX8_line 52 = .ok (.iconst 0, 1) := by decide +kernel
theorem dX8_line_53 : decode cX8_line 53 = .ok (.putfield 69, 3) := by decide +kernel
theorem dX8_line_56 : decode cX8_line 56 = .ok (.iload_n 1, 1) := by decide +kernel
theorem dX8_line_57 : decode cX8_line 57 = .ok (.ireturn, 1) := by decide +kernel
set_option maxRecDepth 20000 in
theorem ggX8_banks_X7_holdsBanks : GoodIn wsX8_banks wsX7_holdsBanks := goodIn_r _ [9, 10, 11, 31, 32] (by decide +kernel) (by decide +kernel)
set_option maxRecDepth 20000 in
theorem gX8_banks_X7_holdsBanks : GoodIn wsX8_banks (wsV RX8 94 RX7 yX7_holdsBanks wsX7_holdsBanks) := goodIn_app (goodIn_of _ (by decide +kernel)) ggX8_banks_X7_holdsBanks
set_option maxRecDepth 20000 in
theorem ggX8_banks_X7_copyBanksTo : GoodIn wsX8_banks wsX7_copyBanksTo := goodIn_r _ [15, 11, 31, 32] (by decide +kernel) (by decide +kernel)
set_option maxRecDepth 20000 in
theorem gX8_banks_X7_copyBanksTo : GoodIn wsX8_banks (wsV RX8 101 RX7 yX7_copyBanksTo wsX7_copyBanksTo) := goodIn_app (goodIn_of _ (by decide +kernel)) ggX8_banks_X7_copyBanksTo
theorem dX8_banks_0 : decode cX8_banks 0 = .ok (.aload_n 0, 1) := by decide +kernel
theorem dX8_banks_1 : decode cX8_banks 1 = .ok (.getfield 10, 3) := by decide +kernel
theorem dX8_banks_4 : decode cX8_banks 4 = .ok (.invokevirtual 94, 3) := by decide +kernel
theorem dX8_banks_7 : decode cX8_banks 7 = .ok (.istore_n 1, 1) := by decide +kernel
theorem dX8_banks_8 : decode cX8_banks 8 = .ok (.iload_n 1, 1) := by decide +kernel
theorem dX8_banks_9 : decode cX8_banks 9 = .ok (.ifCond .eq 17, 3) := by decide +kernel
theorem dX8_banks_12 : decode cX8_banks 12 = .ok (.aload_n 0, 1) := by decide +kernel
theorem dX8_banks_13 : decode cX8_banks 13 = .ok (.getfield 10, 3) := by decide +kernel
theorem dX8_banks_16 : decode cX8_banks 16 = .ok (.aload_n 0, 1) := by decide +kernel
theorem dX8_banks_17 : decode cX8_banks 17 = .ok (.getfield 19, 3) := by decide +kernel
theorem dX8_banks_20 : decode cX8_banks 20 = .ok (.getfield 97, 3) := by decide +kernel
theorem dX8_banks_23 : decode cX8_banks 23 = .ok (.invokevirtual 101, 3) := by decide +kernel
theorem dX8_banks_26 : decode cX8_banks 26 = .ok (.aload_n 0, 1) := by decide +kernel
theorem dX8_banks_27 : decode cX8_banks 27 = .ok (.getfield 10, 3) := by decide +kernel
theorem dX8_banks_30 : decode cX8_banks 30 = .ok (.iconst 0, 1) := by decide +kernel
theorem dX8_banks_31 : decode cX8_banks 31 = .ok (.putfield 69, 3) := by decide +kernel
theorem dX8_banks_34 : decode cX8_banks 34 = .ok (.iload_n 1, 1) := by decide +kernel
theorem dX8_banks_35 : decode cX8_banks 35 = .ok (.ireturn, 1) := by decide +kernel
set_option maxRecDepth 20000 in
theorem ggX8_set_X8_isWithin : GoodIn wsX8_set wsX8_isWithin := goodIn_r _ [11] (by decide +kernel) (by decide +kernel)
set_option maxRecDepth 20000 in
theorem gX8_set_X8_isWithin : GoodIn wsX8_set (va_wsS RX8 77 yX8_isWithin wsX8_isWithin) := goodIn_app (goodIn_of _ (by decide +kernel)) ggX8_set_X8_isWithin
theorem dX8_set_0 : decode cX8_set 0 = .ok (.iload_n 1, 1) := by decide +kernel
theorem dX8_set_1 : decode cX8_set 1 = .ok (.iconst 0, 1) := by decide +kernel
theorem dX8_set_2 : decode cX8_set 2 = .ok (.sipush 200, 3) := by decide +kernel
theorem dX8_set_5 : decode cX8_set 5 = .ok (.invokestatic 77, 3) := by decide +kernel
theorem dX8_set_8 : decode cX8_set 8 = .ok (.ifCond .eq 61, 3) := by decide +kernel
theorem dX8_set_11 : decode cX8_set 11 = .ok (.iload_n 2, 1) := by decide +kernel
theorem dX8_set_12 : decode cX8_set 12 = .ok (.iconst 0, 1) := by decide +kernel
theorem dX8_set_13 : decode cX8_set 13 = .ok (.bipush 9, 2) := by decide +kernel
theorem dX8_set_15 : decode cX8_set 15 = .ok (.invokestatic 77, 3) := by decide +kernel
theorem dX8_set_18 : decode cX8_set 18 = .ok (.ifCond .eq 51, 3) := by decide +kernel
theorem dX8_set_21 : decode cX8_set 21 = .ok (.iload_n 3, 1) := by decide +kernel
theorem dX8_set_22 : decode cX8_set 22 = .ok (.iconst 0, 1) := by decide +kernel
theorem dX8_set_23 : decode cX8_set 23 = .ok (.bipush 9, 2) := by decide +kernel
theorem dX8_set_25 : decode cX8_set 25 = .ok (.invokestatic 77, 3) := by decide +kernel
theorem dX8_set_28 : decode cX8_set 28 = .ok (.ifCond .eq 41, 3) := by decide +kernel
theorem dX8_set_31 : decode cX8_set 31 = .ok (.iload 4, 2) := by decide +kernel
theorem dX8_set_33 : decode cX8_set 33 = .ok (.iconst 0, 1) := by decide +kernel
theorem dX8_set_34 : decode cX8_set 34 = .ok (.bipush 9, 2) := by decide +kernel
theorem dX8_set_36 : decode cX8_set 36 = .ok (.invokestatic 77, 3) := by decide +kernel
theorem dX8_set_39 : decode cX8_set 39 = .ok (.ifCond .eq 30, 3) := by decide +kernel
theorem dX8_set_42 : decode cX8_set 42 = .ok (.iload 5, 2) := by decide +kernel
theorem dX8_set_44 : decode cX8_set 44 = .ok (.bipush 8, 2) := by decide +kernel
theorem dX8_set_46 : decode cX8_set 46 = .ok (.bipush 64, 2) := by decide +kernel
theorem dX8_set_48 : decode cX8_set 48 = .ok (.invokestatic 77, 3) := by decide +kernel
theorem dX8_set_51 : decode cX8_set 51 = .ok (.ifCond .eq 18, 3) := by decide +kernel
theorem dX8_set_54 : decode cX8_set 54 = .ok (.iload 6, 2) := by decide +kernel
theorem dX8_set_56 : decode cX8_set 56 = .ok (.iconst 1, 1) := by decide +kernel
theorem dX8_set_57 : decode cX8_set 57 = .ok (.bipush 32, 2) := by decide +kernel
theorem dX8_set_59 : decode cX8_set 59 = .ok (.invokestatic 77, 3) := by decide +kernel
theorem dX8_set_62 : decode cX8_set 62 = .ok (.ifCond .eq 7, 3) := by decide +kernel
theorem dX8_set_65 : decode cX8_set 65 = .ok (.iconst 1, 1) := by decide +kernel
theorem dX8_set_66 : decode cX8_set 66 = .ok (.goto 4, 3) := by decide +kernel
theorem dX8_set_69 : decode cX8_set 69 = .ok (.iconst 0, 1) := by decide +kernel
theorem dX8_set_70 : decode cX8_set 70 = .ok (.istore 7, 2) := by decide +kernel
theorem dX8_set_72 : decode cX8_set 72 = .ok (.iload 7, 2) := by decide +kernel
theorem dX8_set_74 : decode cX8_set 74 = .ok (.ifCond .eq 54, 3) := by decide +kernel
theorem dX8_set_77 : decode cX8_set 77 = .ok (.aload_n 0, 1) := by decide +kernel
theorem dX8_set_78 : decode cX8_set 78 = .ok (.getfield 19, 3) := by decide +kernel
theorem dX8_set_81 : decode cX8_set 81 = .ok (.iload_n 1, 1) := by decide +kernel
theorem dX8_set_82 : decode cX8_set 82 = .ok (.putfield 105, 3) := by decide +kernel
theorem dX8_set_85 : decode cX8_set 85 = .ok (.aload_n 0, 1) := by decide +kernel
theorem dX8_set_86 : decode cX8_set 86 = .ok (.getfield 19, 3) := by decide +kernel
theorem dX8_set_89 : decode cX8_set 89 = .ok (.iload_n 2, 1) := by decide +kernel
theorem dX8_set_90 : decode cX8_set 90 = .ok (.putfield 108, 3) := by decide +kernel
theorem dX8_set_93 : decode cX8_set 93 = .ok (.aload_n 0, 1) := by decide +kernel
theorem dX8_set_94 : decode cX8_set 94 = .ok (.getfield 19, 3) := by decide +kernel
theorem dX8_set_97 : decode cX8_set 97 = .ok (.iload_n 3, 1) := by decide +kernel
theorem dX8_set_98 : decode cX8_set 98 = .ok (.putfield 111, 3) := by decide +kernel
theorem dX8_set_101 : decode cX8_set 101 = .ok (.aload_n 0, 1) := by decide +kernel
theorem dX8_set_102 : decode cX8_set 102 = .ok (.getfield 19, 3) := by decide +kernel
theorem dX8_set_105 : decode cX8_set 105 = .ok (.iload 4, 2) := by decide +kernel
theorem dX8_set_107 : decode cX8_set 107 = .ok (.putfield 114, 3) := by decide +kernel
theorem dX8_set_110 : decode cX8_set 110 = .ok (.aload_n 0, 1) := by decide +kernel
theorem dX8_set_111 : decode cX8_set 111 = .ok (.getfield 19, 3) := by decide +kernel
theorem dX8_set_114 : decode cX8_set 114 = .ok (.iload 5, 2) := by decide +kernel
theorem dX8_set_116 : decode cX8_set 116 = .ok (.putfield 117, 3) := by decide +kernel
theorem dX8_set_119 : decode cX8_set 119 = .ok (.aload_n 0, 1) := by decide +kernel
theorem dX8_set_120 : decode cX8_set 120 = .ok (.getfield 19, 3) := by decide +kernel
theorem dX8_set_123 : decode cX8_set 123 = .ok (.iload 6, 2) := by decide +kernel
theorem dX8_set_125 : decode cX8_set 125 = .ok (.putfield 120, 3) := by decide +kernel
theorem dX8_set_128 : decode cX8_set 128 = .ok (.iload 7, 2) := by decide +kernel
theorem dX8_set_130 : decode cX8_set 130 = .ok (.ireturn, 1) := by decide +kernel
set_option maxRecDepth 20000 in
theorem ggX8_go_X8_isWithin : GoodIn wsX8_go wsX8_isWithin := goodIn_r _ [11] (by decide +kernel) (by decide +kernel)
set_option maxRecDepth 20000 in
theorem gX8_go_X8_isWithin : GoodIn wsX8_go (va_wsS RX8 77 yX8_isWithin wsX8_isWithin) := goodIn_app (goodIn_of _ (by decide +kernel)) ggX8_go_X8_isWithin
set_option maxRecDepth 20000 in
theorem ggX8_go_X2_rememberSides : GoodIn wsX8_go wsX2_rememberSides := goodIn_r _ [16, 17, 18, 19, 20, 21, 22, 23, 24, 25, 26, 27, 28, 29, 30, 31, 32, 154, 155, 156, 157, 158, 159, 160, 161, 162] (by decide +kernel) (by decide +kernel)
set_option maxRecDepth 20000 in
theorem gX8_go_X2_rememberSides : GoodIn wsX8_go (wsV RX8 126 RX2 yX2_rememberSides wsX2_rememberSides) := goodIn_app (goodIn_of _ (by decide +kernel)) ggX8_go_X2_rememberSides
set_option maxRecDepth 20000 in
theorem ggX8_go_X5_windOn : GoodIn wsX8_go wsX5_windOn := goodIn_r _ [37, 38, 39, 40, 41, 42, 36, 43, 44, 45, 46, 47, 48, 49, 50, 51, 52, 53, 54, 55, 56, 57, 58, 59, 60, 61, 62, 63, 64, 65, 66, 10, 67, 68, 69, 70, 71, 72, 73, 74, 75, 76, 77, 24, 78, 26, 27, 32, 79, 80, 81, 82, 83, 84, 85, 86, 87, 88, 89, 90, 91, 92, 93, 94, 95, 96, 97, 98, 99, 100, 101, 143, 144, 145, 146, 147, 148, 149, 150, 151, 152, 153, 160, 161, 162] (by decide +kernel) (by decide +kernel)
set_option maxRecDepth 20000 in
theorem gX8_go_X5_windOn : GoodIn wsX8_go (wsV RX8 129 RX5 yX5_windOn wsX5_windOn) := goodIn_app (goodIn_of _ (by decide +kernel)) ggX8_go_X5_windOn
set_option maxRecDepth 20000 in
theorem ggX8_go_X2_followSides : GoodIn wsX8_go wsX2_followSides := goodIn_r _ [105, 17, 19, 20, 18, 106, 107, 21, 22, 23, 24, 25, 26, 27, 28, 29, 30, 31, 32, 154, 155, 156, 157, 158, 159, 160, 161, 162] (by decide +kernel) (by decide +kernel)
set_option maxRecDepth 20000 in
theorem gX8_go_X2_followSides : GoodIn wsX8_go (wsV RX8 133 RX2 yX2_followSides wsX2_followSides) := goodIn_app (goodIn_of _ (by decide +kernel)) ggX8_go_X2_followSides
set_option maxRecDepth 20000 in
theorem ggX8_go_X5_cutNecks : GoodIn wsX8_go wsX5_cutNecks := goodIn_r _ [111, 44, 45, 112, 38, 113, 114, 115, 36, 116, 117, 69, 70, 71, 47, 48, 91, 92, 93, 24, 94, 27, 95, 96, 97, 32, 118, 119, 120, 121, 122, 123, 124, 125, 126, 127, 128, 129, 130, 131, 132, 133, 134, 26, 143, 144, 145, 146, 160, 161, 162, 163, 164, 165, 166] (by decide +kernel) (by decide +kernel)
set_option maxRecDepth 20000 in
theorem gX8_go_X5_cutNecks : GoodIn wsX8_go (wsV RX8 136 RX5 yX5_cutNecks wsX5_cutNecks) := goodIn_app (goodIn_of _ (by decide +kernel)) ggX8_go_X5_cutNecks
theorem dX8_go_0 : decode cX8_go 0 = .ok (.iload_n 1, 1) := by decide +kernel
theorem dX8_go_1 : decode cX8_go 1 = .ok (.iconst 0, 1) := by decide +kernel
theorem dX8_go_2 : decode cX8_go 2 = .ok (.sipush 200, 3) := by decide +kernel
theorem dX8_go_5 : decode cX8_go 5 = .ok (.invokestatic 77, 3) := by decide +kernel
theorem dX8_go_8 : decode cX8_go 8 = .ok (.ifCond .ne 5, 3) := by decide +kernel
theorem dX8_go_11 : decode cX8_go 11 = .ok (.iconst (-1), 1) := by decide +kernel
theorem dX8_go_12 : decode cX8_go 12 = .ok (.ireturn, 1) := by decide +kernel
theorem dX8_go_13 : decode cX8_go 13 = .ok (.iconst 0, 1) := by decide +kernel
theorem dX8_go_14 : decode cX8_go 14 = .ok (.istore_n 2, 1) := by decide +kernel
theorem dX8_go_15 : decode cX8_go 15 = .ok (.iload_n 2, 1) := by decide +kernel
theorem dX8_go_16 : decode cX8_go 16 = .ok (.iload_n 1, 1) := by decide +kernel
theorem dX8_go_17 : decode cX8_go 17 = .ok (.if_icmp .ge 82, 3) := by decide +kernel
theorem dX8_go_20 : decode cX8_go 20 = .ok (.aload_n 0, 1) := by decide +kernel
theorem dX8_go_21 : decode cX8_go 21 = .ok (.getfield 33, 3) := by decide +kernel
theorem dX8_go_24 : decode cX8_go 24 = .ok (.getfield 123, 3) := by decide +kernel
theorem dX8_go_27 : decode cX8_go 27 = .ok (.sipush 999, 3) := by decide +kernel
theorem dX8_go_30 : decode cX8_go 30 = .ok (.if_icmp .ge 69, 3) := by decide +kernel
theorem dX8_go_33 : decode cX8_go 33 = .ok (.aload_n 0, 1) := by decide +kernel
theorem dX8_go_34 : decode cX8_go 34 = .ok (.getfield 43, 3) := by decide +kernel
theorem dX8_go_37 : decode cX8_go 37 = .ok (.aload_n 0, 1) := by decide +kernel
theorem dX8_go_38 : decode cX8_go 38 = .ok (.getfield 33, 3) := by decide +kernel
theorem dX8_go_41 : decode cX8_go 41 = .ok (.getfield 88, 3) := by decide +kernel
theorem dX8_go_44 : decode cX8_go 44 = .ok (.invokevirtual 126, 3) := by decide +kernel
theorem dX8_go_47 : decode cX8_go 47 = .ok (.aload_n 0, 1) := by decide +kernel
theorem dX8_go_48 : decode cX8_go 48 = .ok (.getfield 33, 3) := by decide +kernel
theorem dX8_go_51 : decode cX8_go 51 = .ok (.aload_n 0, 1) := by decide +kernel
theorem dX8_go_52 : decode cX8_go 52 = .ok (.getfield 19, 3) := by decide +kernel
theorem dX8_go_55 : decode cX8_go 55 = .ok (.aload_n 0, 1) := by decide +kernel
theorem dX8_go_56 : decode cX8_go 56 = .ok (.getfield 19, 3) := by decide +kernel
theorem dX8_go_59 : decode cX8_go 59 = .ok (.getfield 105, 3) := by decide +kernel
theorem dX8_go_62 : decode cX8_go 62 = .ok (.invokevirtual 129, 3) := by decide +kernel
theorem dX8_go_65 : decode cX8_go 65 = .ok (.aload_n 0, 1) := by decide +kernel
theorem dX8_go_66 : decode cX8_go 66 = .ok (.getfield 43, 3) := by decide +kernel
theorem dX8_go_69 : decode cX8_go 69 = .ok (.aload_n 0, 1) := by decide +kernel
theorem dX8_go_70 : decode cX8_go 70 = .ok (.getfield 33, 3) := by decide +kernel
theorem dX8_go_73 : decode cX8_go 73 = .ok (.getfield 88, 3) := by decide +kernel
theorem dX8_go_76 : decode cX8_go 76 = .ok (.invokevirtual 133, 3) := by decide +kernel
theorem dX8_go_79 : decode cX8_go 79 = .ok (.aload_n 0, 1) := by decide +kernel
theorem dX8_go_80 : decode cX8_go 80 = .ok (.getfield 33, 3) := by decide +kernel
theorem dX8_go_83 : decode cX8_go 83 = .ok (.aload_n 0, 1) := by decide +kernel
theorem dX8_go_84 : decode cX8_go 84 = .ok (.getfield 19, 3) := by decide +kernel
theorem dX8_go_87 : decode cX8_go 87 = .ok (.getfield 120, 3) := by decide +kernel
theorem dX8_go_90 : decode cX8_go 90 = .ok (.invokevirtual 136, 3) := by decide +kernel
theorem dX8_go_93 : decode cX8_go 93 = .ok (.iinc 2 1, 3) := by decide +kernel
theorem dX8_go_96 : decode cX8_go 96 = .ok (.goto (-81), 3) := by decide +kernel
theorem dX8_go_99 : decode cX8_go 99 = .ok (.aload_n 0, 1) := by decide +kernel
theorem dX8_go_100 : decode cX8_go 100 = .ok (.getfield 33, 3) := by decide +kernel
theorem dX8_go_103 : decode cX8_go 103 = .ok (.getfield 123, 3) := by decide +kernel
theorem dX8_go_106 : decode cX8_go 106 = .ok (.ireturn, 1) := by decide +kernel
theorem dX8_point_0 : decode cX8_point 0 = .ok (.iload_n 1, 1) := by decide +kernel
theorem dX8_point_1 : decode cX8_point 1 = .ok (.iconst 0, 1) := by decide +kernel
theorem dX8_point_2 : decode cX8_point 2 = .ok (.aload_n 0, 1) := by decide +kernel
theorem dX8_point_3 : decode cX8_point 3 = .ok (.getfield 33, 3) := by decide +kernel
theorem dX8_point_6 : decode cX8_point 6 = .ok (.getfield 88, 3) := by decide +kernel
theorem dX8_point_9 : decode cX8_point 9 = .ok (.getfield 139, 3) := by decide +kernel
theorem dX8_point_12 : decode cX8_point 12 = .ok (.iconst 1, 1) := by decide +kernel
theorem dX8_point_13 : decode cX8_point 13 = .ok (.isub, 1) := by decide +kernel
theorem dX8_point_14 : decode cX8_point 14 = .ok (.invokestatic 77, 3) := by decide +kernel
theorem dX8_point_17 : decode cX8_point 17 = .ok (.ifCond .ne 13, 3) := by decide +kernel
theorem dX8_point_20 : decode cX8_point 20 = .ok (.new 140, 3) := by decide +kernel
theorem dX8_point_23 : decode cX8_point 23 = .ok (.dup, 1) := by decide +kernel
theorem dX8_point_24 : decode cX8_point 24 = .ok (.ldc 142, 2) := by decide +kernel
theorem dX8_point_26 : decode cX8_point 26 = .ok (.invokespecial 144, 3) := by decide +kernel
theorem dX8_point_29 : decode cX8_point 29 = .ok (.athrow, 1) := by decide +kernel
theorem dX8_point_30 : decode cX8_point 30 = .ok (.iload_n 2, 1) := by decide +kernel
theorem dX8_point_31 : decode cX8_point 31 = .ok (.lookupswitch 51 #[(0, 25), (1, 38)], 25) := by decide +kernel
theorem dX8_point_56 : decode cX8_point 56 = .ok (.aload_n 0, 1) := by decide +kernel
theorem dX8_point_57 : decode cX8_point 57 = .ok (.getfield 33, 3) := by decide +kernel
theorem dX8_point_60 : decode cX8_point 60 = .ok (.getfield 88, 3) := by decide +kernel
theorem dX8_point_63 : decode cX8_point 63 = .ok (.getfield 147, 3) := by decide +kernel
theorem dX8_point_66 : decode cX8_point 66 = .ok (.iload_n 1, 1) := by decide +kernel
theorem dX8_point_67 : decode cX8_point 67 = .ok (.iaload, 1) := by decide +kernel
theorem dX8_point_68 : decode cX8_point 68 = .ok (.ireturn, 1) := by decide +kernel
theorem dX8_point_69 : decode cX8_point 69 = .ok (.aload_n 0, 1) := by decide +kernel
theorem dX8_point_70 : decode cX8_point 70 = .ok (.getfield 33, 3) := by decide +kernel
theorem dX8_point_73 : decode cX8_point 73 = .ok (.getfield 88, 3) := by decide +kernel
theorem dX8_point_76 : decode cX8_point 76 = .ok (.getfield 150, 3) := by decide +kernel
theorem dX8_point_79 : decode cX8_point 79 = .ok (.iload_n 1, 1) := by decide +kernel
theorem dX8_point_80 : decode cX8_point 80 = .ok (.iaload, 1) := by decide +kernel
theorem dX8_point_81 : decode cX8_point 81 = .ok (.ireturn, 1) := by decide +kernel
theorem dX8_point_82 : decode cX8_point 82 = .ok (.new 140, 3) := by decide +kernel
theorem dX8_point_85 : decode cX8_point 85 = .ok (.dup, 1) := by decide +kernel
theorem dX8_point_86 : decode cX8_point 86 = .ok (.ldc 153, 2) := by decide +kernel
theorem dX8_point_88 : decode cX8_point 88 = .ok (.invokespecial 144, 3) := by decide +kernel
theorem dX8_point_91 : decode cX8_point 91 = .ok (.athrow, 1) := by decide +kernel
set_option maxRecDepth 20000 in
theorem ggX8_crossings_X3_countCrossings : GoodIn wsX8_crossings wsX3_countCrossings := goodIn_r _ [7, 8, 9, 10, 11, 6, 12, 13, 14, 15, 16, 17, 18, 19, 20, 21, 22, 23, 24, 25, 26, 27, 28, 29, 30, 31, 32, 33, 34, 35, 36, 49, 50, 51] (by decide +kernel) (by decide +kernel)
set_option maxRecDepth 20000 in
theorem gX8_crossings_X3_countCrossings : GoodIn wsX8_crossings (wsV RX8 155 RX3 yX3_countCrossings wsX3_countCrossings) := goodIn_app (goodIn_of _ (by decide +kernel)) ggX8_crossings_X3_countCrossings
theorem dX8_crossings_0 : decode cX8_crossings 0 = .ok (.aload_n 0, 1) := by decide +kernel
theorem dX8_crossings_1 : decode cX8_crossings 1 = .ok (.getfield 33, 3) := by decide +kernel
theorem dX8_crossings_4 : decode cX8_crossings 4 = .ok (.getfield 88, 3) := by decide +kernel
theorem dX8_crossings_7 : decode cX8_crossings 7 = .ok (.invokevirtual 155, 3) := by decide +kernel
theorem dX8_crossings_10 : decode cX8_crossings 10 = .ok (.ireturn, 1) := by decide +kernel
theorem dX8_loop_0 : decode cX8_loop 0 = .ok (.iload_n 1, 1) := by decide +kernel
theorem dX8_loop_1 : decode cX8_loop 1 = .ok (.iconst 0, 1) := by decide +kernel
theorem dX8_loop_2 : decode cX8_loop 2 = .ok (.aload_n 0, 1) := by decide +kernel
theorem dX8_loop_3 : decode cX8_loop 3 = .ok (.getfield 33, 3) := by decide +kernel
theorem dX8_loop_6 : decode cX8_loop 6 = .ok (.getfield 159, 3) := by decide +kernel
theorem dX8_loop_9 : decode cX8_loop 9 = .ok (.getfield 163, 3) := by decide +kernel
theorem dX8_loop_12 : decode cX8_loop 12 = .ok (.iconst 1, 1) := by decide +kernel
theorem dX8_loop_13 : decode cX8_loop 13 = .ok (.isub, 1) := by decide +kernel
theorem dX8_loop_14 : decode cX8_loop 14 = .ok (.invokestatic 77, 3) := by decide +kernel
theorem dX8_loop_17 : decode cX8_loop 17 = .ok (.ifCond .ne 13, 3) := by decide +kernel
theorem dX8_loop_20 : decode cX8_loop 20 = .ok (.new 140, 3) := by decide +kernel
theorem dX8_loop_23 : decode cX8_loop 23 = .ok (.dup, 1) := by decide +kernel
theorem dX8_loop_24 : decode cX8_loop 24 = .ok (.ldc 166, 2) := by decide +kernel
theorem dX8_loop_26 : decode cX8_loop 26 = .ok (.invokespecial 144, 3) := by decide +kernel
theorem dX8_loop_29 : decode cX8_loop 29 = .ok (.athrow, 1) := by decide +kernel
theorem dX8_loop_30 : decode cX8_loop 30 = .ok (.iload_n 2, 1) := by decide +kernel
theorem dX8_loop_31 : decode cX8_loop 31 = .ok (.tableswitch 64 0 2 #[25, 38, 51], 25) := by decide +kernel
theorem dX8_loop_56 : decode cX8_loop 56 = .ok (.aload_n 0, 1) := by decide +kernel
theorem dX8_loop_57 : decode cX8_loop 57 = .ok (.getfield 33, 3) := by decide +kernel
theorem dX8_loop_60 : decode cX8_loop 60 = .ok (.getfield 159, 3) := by decide +kernel
theorem dX8_loop_63 : decode cX8_loop 63 = .ok (.getfield 168, 3) := by decide +kernel
theorem dX8_loop_66 : decode cX8_loop 66 = .ok (.iload_n 1, 1) := by decide +kernel
theorem dX8_loop_67 : decode cX8_loop 67 = .ok (.iaload, 1) := by decide +kernel
theorem dX8_loop_68 : decode cX8_loop 68 = .ok (.ireturn, 1) := by decide +kernel
theorem dX8_loop_69 : decode cX8_loop 69 = .ok (.aload_n 0, 1) := by decide +kernel
theorem dX8_loop_70 : decode cX8_loop 70 = .ok (.getfield 33, 3) := by decide +kernel
theorem dX8_loop_73 : decode cX8_loop 73 = .ok (.getfield 159, 3) := by decide +kernel
theorem dX8_loop_76 : decode cX8_loop 76 = .ok (.getfield 171, 3) := by decide +kernel
theorem dX8_loop_79 : decode cX8_loop 79 = .ok (.iload_n 1, 1) := by decide +kernel
theorem dX8_loop_80 : decode cX8_loop 80 = .ok (.iaload, 1) := by decide +kernel
theorem dX8_loop_81 : decode cX8_loop 81 = .ok (.ireturn, 1) := by decide +kernel
theorem dX8_loop_82 : decode cX8_loop 82 = .ok (.aload_n 0, 1) := by decide +kernel
theorem dX8_loop_83 : decode cX8_loop 83 = .ok (.getfield 33, 3) := by decide +kernel
theorem dX8_loop_86 : decode cX8_loop 86 = .ok (.getfield 159, 3) := by decide +kernel
theorem dX8_loop_89 : decode cX8_loop 89 = .ok (.getfield 174, 3) := by decide +kernel
theorem dX8_loop_92 : decode cX8_loop 92 = .ok (.iload_n 1, 1) := by decide +kernel
theorem dX8_loop_93 : decode cX8_loop 93 = .ok (.iaload, 1) := by decide +kernel
theorem dX8_loop_94 : decode cX8_loop 94 = .ok (.ireturn, 1) := by decide +kernel
theorem dX8_loop_95 : decode cX8_loop 95 = .ok (.new 140, 3) := by decide +kernel
theorem dX8_loop_98 : decode cX8_loop 98 = .ok (.dup, 1) := by decide +kernel
theorem dX8_loop_99 : decode cX8_loop 99 = .ok (.ldc 177, 2) := by decide +kernel
theorem dX8_loop_101 : decode cX8_loop 101 = .ok (.invokespecial 144, 3) := by decide +kernel
theorem dX8_loop_104 : decode cX8_loop 104 = .ok (.athrow, 1) := by decide +kernel
set_option maxRecDepth 20000 in
theorem ggX8_side_X8_hasSide : GoodIn wsX8_side wsX8_hasSide := goodIn_r _ [6, 7, 8, 5, 9] (by decide +kernel) (by decide +kernel)
set_option maxRecDepth 20000 in
theorem gX8_side_X8_hasSide : GoodIn wsX8_side (va_wsS RX8 179 yX8_hasSide wsX8_hasSide) := goodIn_app (goodIn_of _ (by decide +kernel)) ggX8_side_X8_hasSide
set_option maxRecDepth 20000 in
theorem ggX8_side_X3_sideOf : GoodIn wsX8_side wsX3_sideOf := goodIn_r _ [14, 15, 16, 17, 18, 19, 13, 20, 21, 34, 35, 36] (by decide +kernel) (by decide +kernel)
set_option maxRecDepth 20000 in
theorem gX8_side_X3_sideOf : GoodIn wsX8_side (wsV RX8 183 RX3 yX3_sideOf wsX3_sideOf) := goodIn_app (goodIn_of _ (by decide +kernel)) ggX8_side_X3_sideOf
theorem dX8_side_0 : decode cX8_side 0 = .ok (.iload_n 1, 1) := by decide +kernel
theorem dX8_side_1 : decode cX8_side 1 = .ok (.iload_n 2, 1) := by decide +kernel
theorem dX8_side_2 : decode cX8_side 2 = .ok (.invokestatic 179, 3) := by decide +kernel
theorem dX8_side_5 : decode cX8_side 5 = .ok (.ifCond .ne 5, 3) := by decide +kernel
theorem dX8_side_8 : decode cX8_side 8 = .ok (.iconst (-1), 1) := by decide +kernel
theorem dX8_side_9 : decode cX8_side 9 = .ok (.ireturn, 1) := by decide +kernel
theorem dX8_side_10 : decode cX8_side 10 = .ok (.aload_n 0, 1) := by decide +kernel
theorem dX8_side_11 : decode cX8_side 11 = .ok (.getfield 33, 3) := by decide +kernel
theorem dX8_side_14 : decode cX8_side 14 = .ok (.getfield 88, 3) := by decide +kernel
theorem dX8_side_17 : decode cX8_side 17 = .ok (.iload_n 1, 1) := by decide +kernel
theorem dX8_side_18 : decode cX8_side 18 = .ok (.iload_n 2, 1) := by decide +kernel
theorem dX8_side_19 : decode cX8_side 19 = .ok (.invokevirtual 183, 3) := by decide +kernel
theorem dX8_side_22 : decode cX8_side 22 = .ok (.ireturn, 1) := by decide +kernel
set_option maxRecDepth 20000 in
theorem ggX8_plot_X8_hasSide : GoodIn wsX8_plot wsX8_hasSide := goodIn_r _ [7, 8, 9, 6, 10] (by decide +kernel) (by decide +kernel)
set_option maxRecDepth 20000 in
theorem gX8_plot_X8_hasSide : GoodIn wsX8_plot (va_wsS RX8 179 yX8_hasSide wsX8_hasSide) := goodIn_app (goodIn_of _ (by decide +kernel)) ggX8_plot_X8_hasSide
set_option maxRecDepth 20000 in
theorem ggX8_plot_X3_sideOf : GoodIn wsX8_plot wsX3_sideOf := goodIn_r _ [15, 16, 17, 18, 19, 20, 14, 21, 22, 45, 46, 47] (by decide +kernel) (by decide +kernel)
set_option maxRecDepth 20000 in
theorem gX8_plot_X3_sideOf : GoodIn wsX8_plot (wsV RX8 183 RX3 yX3_sideOf wsX3_sideOf) := goodIn_app (goodIn_of _ (by decide +kernel)) ggX8_plot_X3_sideOf
set_option maxRecDepth 20000 in
theorem ggX8_plot_X2_add : GoodIn wsX8_plot wsX2_add := goodIn_r _ [27, 28, 29, 30, 31, 32, 48, 49, 50, 51, 52, 53] (by decide +kernel) (by decide +kernel)
set_option maxRecDepth 20000 in
theorem gX8_plot_X2_add : GoodIn wsX8_plot (wsV RX8 187 RX2 yX2_add wsX2_add) := goodIn_app (goodIn_of _ (by decide +kernel)) ggX8_plot_X2_add
theorem dX8_plot_0 : decode cX8_plot 0 = .ok (.iload_n 1, 1) := by decide +kernel
theorem dX8_plot_1 : decode cX8_plot 1 = .ok (.iload_n 2, 1) := by decide +kernel
theorem dX8_plot_2 : decode cX8_plot 2 = .ok (.invokestatic 179, 3) := by decide +kernel
theorem dX8_plot_5 : decode cX8_plot 5 = .ok (.ifCond .ne 5, 3) := by decide +kernel
theorem dX8_plot_8 : decode cX8_plot 8 = .ok (.iconst (-1), 1) := by decide +kernel
theorem dX8_plot_9 : decode cX8_plot 9 = .ok (.ireturn, 1) := by decide +kernel
theorem dX8_plot_10 : decode cX8_plot 10 = .ok (.aload_n 0, 1) := by decide +kernel
theorem dX8_plot_11 : decode cX8_plot 11 = .ok (.getfield 43, 3) := by decide +kernel
theorem dX8_plot_14 : decode cX8_plot 14 = .ok (.iload_n 1, 1) := by decide +kernel
theorem dX8_plot_15 : decode cX8_plot 15 = .ok (.iload_n 2, 1) := by decide +kernel
theorem dX8_plot_16 : decode cX8_plot 16 = .ok (.aload_n 0, 1) := by decide +kernel
theorem dX8_plot_17 : decode cX8_plot 17 = .ok (.getfield 33, 3) := by decide +kernel
theorem dX8_plot_20 : decode cX8_plot 20 = .ok (.getfield 88, 3) := by decide +kernel
theorem dX8_plot_23 : decode cX8_plot 23 = .ok (.iload_n 1, 1) := by decide +kernel
theorem dX8_plot_24 : decode cX8_plot 24 = .ok (.iload_n 2, 1) := by decide +kernel
theorem dX8_plot_25 : decode cX8_plot 25 = .ok (.invokevirtual 183, 3) := by decide +kernel
theorem dX8_plot_28 : decode cX8_plot 28 = .ok (.invokevirtual 187, 3) := by decide +kernel
theorem dX8_plot_31 : decode cX8_plot 31 = .ok (.ireturn, 1) := by decide +kernel
theorem dX8_owner_0 : decode cX8_owner 0 = .ok (.iload_n 1, 1) := by decide +kernel
theorem dX8_owner_1 : decode cX8_owner 1 = .ok (.iconst 0, 1) := by decide +kernel
theorem dX8_owner_2 : decode cX8_owner 2 = .ok (.aload_n 0, 1) := by decide +kernel
theorem dX8_owner_3 : decode cX8_owner 3 = .ok (.getfield 43, 3) := by decide +kernel
theorem dX8_owner_6 : decode cX8_owner 6 = .ok (.getfield 190, 3) := by decide +kernel
theorem dX8_owner_9 : decode cX8_owner 9 = .ok (.iconst 1, 1) := by decide +kernel
theorem dX8_owner_10 : decode cX8_owner 10 = .ok (.isub, 1) := by decide +kernel
theorem dX8_owner_11 : decode cX8_owner 11 = .ok (.invokestatic 77, 3) := by decide +kernel
theorem dX8_owner_14 : decode cX8_owner 14 = .ok (.ifCond .ne 13, 3) := by decide +kernel
theorem dX8_owner_17 : decode cX8_owner 17 = .ok (.new 140, 3) := by decide +kernel
theorem dX8_owner_20 : decode cX8_owner 20 = .ok (.dup, 1) := by decide +kernel
theorem dX8_owner_21 : decode cX8_owner 21 = .ok (.ldc 191, 2) := by decide +kernel
theorem dX8_owner_23 : decode cX8_owner 23 = .ok (.invokespecial 144, 3) := by decide +kernel
theorem dX8_owner_26 : decode cX8_owner 26 = .ok (.athrow, 1) := by decide +kernel
theorem dX8_owner_27 : decode cX8_owner 27 = .ok (.iload_n 2, 1) := by decide +kernel
theorem dX8_owner_28 : decode cX8_owner 28 = .ok (.tableswitch 77 0 2 #[28, 38, 67], 28) := by decide +kernel
theorem dX8_owner_56 : decode cX8_owner 56 = .ok (.aload_n 0, 1) := by decide +kernel
theorem dX8_owner_57 : decode cX8_owner 57 = .ok (.getfield 43, 3) := by decide +kernel
theorem dX8_owner_60 : decode cX8_owner 60 = .ok (.getfield 193, 3) := by decide +kernel
theorem dX8_owner_63 : decode cX8_owner 63 = .ok (.iload_n 1, 1) := by decide +kernel
theorem dX8_owner_64 : decode cX8_owner 64 = .ok (.iaload, 1) := by decide +kernel
theorem dX8_owner_65 : decode cX8_owner 65 = .ok (.ireturn, 1) := by decide +kernel
theorem dX8_owner_66 : decode cX8_owner 66 = .ok (.aload_n 0, 1) := by decide +kernel
theorem dX8_owner_67 : decode cX8_owner 67 = .ok (.getfield 33, 3) := by decide +kernel
theorem dX8_owner_70 : decode cX8_owner 70 = .ok (.getfield 88, 3) := by decide +kernel
theorem dX8_owner_73 : decode cX8_owner 73 = .ok (.aload_n 0, 1) := by decide +kernel
theorem dX8_owner_74 : decode cX8_owner 74 = .ok (.getfield 43, 3) := by decide +kernel
theorem dX8_owner_77 : decode cX8_owner 77 = .ok (.getfield 196, 3) := by decide +kernel
theorem dX8_owner_80 : decode cX8_owner 80 = .ok (.iload_n 1, 1) := by decide +kernel
theorem dX8_owner_81 : decode cX8_owner 81 = .ok (.iaload, 1) := by decide +kernel
theorem dX8_owner_82 : decode cX8_owner 82 = .ok (.aload_n 0, 1) := by decide +kernel
theorem dX8_owner_83 : decode cX8_owner 83 = .ok (.getfield 43, 3) := by decide +kernel
theorem dX8_owner_86 : decode cX8_owner 86 = .ok (.getfield 197, 3) := by decide +kernel
theorem dX8_owner_89 : decode cX8_owner 89 = .ok (.iload_n 1, 1) := by decide +kernel
theorem dX8_owner_90 : decode cX8_owner 90 = .ok (.iaload, 1) := by decide +kernel
theorem dX8_owner_91 : decode cX8_owner 91 = .ok (.invokevirtual 183, 3) := by decide +kernel
theorem dX8_owner_94 : decode cX8_owner 94 = .ok (.ireturn, 1) := by decide +kernel
theorem dX8_owner_95 : decode cX8_owner 95 = .ok (.aload_n 0, 1) := by decide +kernel
theorem dX8_owner_96 : decode cX8_owner 96 = .ok (.getfield 43, 3) := by decide +kernel
theorem dX8_owner_99 : decode cX8_owner 99 = .ok (.getfield 198, 3) := by decide +kernel
theorem dX8_owner_102 : decode cX8_owner 102 = .ok (.iload_n 1, 1) := by decide +kernel
theorem dX8_owner_103 : decode cX8_owner 103 = .ok (.iaload, 1) := by decide +kernel
theorem dX8_owner_104 : decode cX8_owner 104 = .ok (.ireturn, 1) := by decide +kernel
theorem dX8_owner_105 : decode cX8_owner 105 = .ok (.new 140, 3) := by decide +kernel
theorem dX8_owner_108 : decode cX8_owner 108 = .ok (.dup, 1) := by decide +kernel
theorem dX8_owner_109 : decode cX8_owner 109 = .ok (.ldc 201, 2) := by decide +kernel
theorem dX8_owner_111 : decode cX8_owner 111 = .ok (.invokespecial 144, 3) := by decide +kernel
theorem dX8_owner_114 : decode cX8_owner 114 = .ok (.athrow, 1) := by decide +kernel
set_option maxRecDepth 20000 in
theorem ggX8_mark_X8_isWithin : GoodIn wsX8_mark wsX8_isWithin := goodIn_r _ [5] (by decide +kernel) (by decide +kernel)
set_option maxRecDepth 20000 in
theorem gX8_mark_X8_isWithin : GoodIn wsX8_mark (va_wsS RX8 77 yX8_isWithin wsX8_isWithin) := goodIn_app (goodIn_of _ (by decide +kernel)) ggX8_mark_X8_isWithin
set_option maxRecDepth 20000 in
theorem ggX8_mark_X1_add : GoodIn wsX8_mark wsX1_add := goodIn_r _ [10, 11, 12, 13, 14, 23, 24, 25, 26, 27] (by decide +kernel) (by decide +kernel)
set_option maxRecDepth 20000 in
theorem gX8_mark_X1_add : GoodIn wsX8_mark (wsV RX8 203 RX1 yX1_add wsX1_add) := goodIn_app (goodIn_of _ (by decide +kernel)) ggX8_mark_X1_add
theorem dX8_mark_0 : decode cX8_mark 0 = .ok (.iload_n 1, 1) := by decide +kernel
theorem dX8_mark_1 : decode cX8_mark 1 = .ok (.iconst 0, 1) := by decide +kernel
theorem dX8_mark_2 : decode cX8_mark 2 = .ok (.sipush 511, 3) := by decide +kernel
theorem dX8_mark_5 : decode cX8_mark 5 = .ok (.invokestatic 77, 3) := by decide +kernel
theorem dX8_mark_8 : decode cX8_mark 8 = .ok (.ifCond .eq 28, 3) := by decide +kernel
theorem dX8_mark_11 : decode cX8_mark 11 = .ok (.iload_n 2, 1) := by decide +kernel
theorem dX8_mark_12 : decode cX8_mark 12 = .ok (.iconst 0, 1) := by decide +kernel
theorem dX8_mark_13 : decode cX8_mark 13 = .ok (.sipush 511, 3) := by decide +kernel
theorem dX8_mark_16 : decode cX8_mark 16 = .ok (.invokestatic 77, 3) := by decide +kernel
theorem dX8_mark_19 : decode cX8_mark 19 = .ok (.ifCond .eq 17, 3) := by decide +kernel
theorem dX8_mark_22 : decode cX8_mark 22 = .ok (.iload_n 3, 1) := by decide +kernel
theorem dX8_mark_23 : decode cX8_mark 23 = .ok (.iconst 0, 1) := by decide +kernel
theorem dX8_mark_24 : decode cX8_mark 24 = .ok (.bipush 60, 2) := by decide +kernel
theorem dX8_mark_26 : decode cX8_mark 26 = .ok (.invokestatic 77, 3) := by decide +kernel
theorem dX8_mark_29 : decode cX8_mark 29 = .ok (.ifCond .eq 7, 3) := by decide +kernel
theorem dX8_mark_32 : decode cX8_mark 32 = .ok (.iconst 1, 1) := by decide +kernel
theorem dX8_mark_33 : decode cX8_mark 33 = .ok (.goto 4, 3) := by decide +kernel
theorem dX8_mark_36 : decode cX8_mark 36 = .ok (.iconst 0, 1) := by decide +kernel
theorem dX8_mark_37 : decode cX8_mark 37 = .ok (.istore 4, 2) := by decide +kernel
theorem dX8_mark_39 : decode cX8_mark 39 = .ok (.iload 4, 2) := by decide +kernel
theorem dX8_mark_41 : decode cX8_mark 41 = .ok (.ifCond .eq 16, 3) := by decide +kernel
theorem dX8_mark_44 : decode cX8_mark 44 = .ok (.aload_n 0, 1) := by decide +kernel
theorem dX8_mark_45 : decode cX8_mark 45 = .ok (.getfield 50, 3) := by decide +kernel
theorem dX8_mark_48 : decode cX8_mark 48 = .ok (.iload_n 1, 1) := by decide +kernel
theorem dX8_mark_49 : decode cX8_mark 49 = .ok (.iload_n 2, 1) := by decide +kernel
theorem dX8_mark_50 : decode cX8_mark 50 = .ok (.iload_n 3, 1) := by decide +kernel
theorem dX8_mark_51 : decode cX8_mark 51 = .ok (.invokevirtual 203, 3) := by decide +kernel
theorem dX8_mark_54 : decode cX8_mark 54 = .ok (.goto 4, 3) := by decide +kernel
theorem dX8_mark_57 : decode cX8_mark 57 = .ok (.iconst (-1), 1) := by decide +kernel
theorem dX8_mark_58 : decode cX8_mark 58 = .ok (.ireturn, 1) := by decide +kernel
set_option maxRecDepth 20000 in
theorem ggX8_marks_X8_isWithin : GoodIn wsX8_marks wsX8_isWithin := goodIn_r _ [7] (by decide +kernel) (by decide +kernel)
set_option maxRecDepth 20000 in
theorem gX8_marks_X8_isWithin : GoodIn wsX8_marks (va_wsS RX8 77 yX8_isWithin wsX8_isWithin) := goodIn_app (goodIn_of _ (by decide +kernel)) ggX8_marks_X8_isWithin
theorem dX8_marks_0 : decode cX8_marks 0 = .ok (.iload_n 1, 1) := by decide +kernel
theorem dX8_marks_1 : decode cX8_marks 1 = .ok (.iconst 0, 1) := by decide +kernel
theorem dX8_marks_2 : decode cX8_marks 2 = .ok (.bipush 50, 2) := by decide +kernel
theorem dX8_marks_4 : decode cX8_marks 4 = .ok (.invokestatic 77, 3) := by decide +kernel
theorem dX8_marks_7 : decode cX8_marks 7 = .ok (.ifCond .ne 5, 3) := by decide +kernel
theorem dX8_marks_10 : decode cX8_marks 10 = .ok (.iconst 0, 1) := by decide +kernel
theorem dX8_marks_11 : decode cX8_marks 11 = .ok (.ireturn, 1) := by decide +kernel
theorem dX8_marks_12 : decode cX8_marks 12 = .ok (.aload_n 0, 1) := by decide +kernel
theorem dX8_marks_13 : decode cX8_marks 13 = .ok (.getfield 50, 3) := by decide +kernel
theorem dX8_marks_16 : decode cX8_marks 16 = .ok (.iconst 0, 1) := by decide +kernel
theorem dX8_marks_17 : decode cX8_marks 17 = .ok (.putfield 204, 3) := by decide +kernel
theorem dX8_marks_20 : decode cX8_marks 20 = .ok (.aload_n 0, 1) := by decide +kernel
theorem dX8_marks_21 : decode cX8_marks 21 = .ok (.getfield 50, 3) := by decide +kernel
theorem dX8_marks_24 : decode cX8_marks 24 = .ok (.iload_n 1, 1) := by decide +kernel
theorem dX8_marks_25 : decode cX8_marks 25 = .ok (.putfield 205, 3) := by decide +kernel
theorem dX8_marks_28 : decode cX8_marks 28 = .ok (.iconst 1, 1) := by decide +kernel
theorem dX8_marks_29 : decode cX8_marks 29 = .ok (.ireturn, 1) := by decide +kernel
set_option maxRecDepth 20000 in
theorem ggX8_met_X8_isWithin : GoodIn wsX8_met wsX8_isWithin := goodIn_r _ [6] (by decide +kernel) (by decide +kernel)
set_option maxRecDepth 20000 in
theorem gX8_met_X8_isWithin : GoodIn wsX8_met (va_wsS RX8 77 yX8_isWithin wsX8_isWithin) := goodIn_app (goodIn_of _ (by decide +kernel)) ggX8_met_X8_isWithin
set_option maxRecDepth 20000 in
theorem ggX8_met_X8_meetsMaps : GoodIn wsX8_met wsX8_meetsMaps := goodIn_r _ [10, 11, 12, 13, 14, 15, 16, 17, 18, 19, 20, 21, 22, 23, 24, 25, 26, 27, 28, 29, 30, 31, 32, 33, 34, 35, 36, 37, 38, 39, 40, 41, 42, 43, 44, 45, 46, 47, 48, 49, 50, 51, 52, 53, 54, 55, 56, 57, 58, 59, 60, 61, 62, 63, 64, 65, 66, 67, 68, 69, 70, 71, 72, 73, 74, 75, 76, 77, 78, 79, 5, 80, 81, 82, 83, 84, 85, 86, 87, 88, 89, 90, 91, 92, 93, 94, 95, 96, 97, 98, 99, 100, 101, 102, 103, 104, 105, 106, 107, 108, 109, 110, 111, 112, 113, 114, 115, 116, 117, 118, 119, 120, 121, 122, 123, 124, 125, 126, 127, 128, 129, 130, 131, 132, 133, 134, 135, 136, 137, 138, 139, 140, 141, 142, 143, 144, 145, 146, 154, 155, 156, 157, 158, 159, 160, 161, 164, 165, 166, 167, 168, 169, 170, 171, 172, 173, 174, 175, 176, 177, 178, 179, 180, 181, 182, 183, 184, 185, 186] (by decide +kernel) (by decide +kernel)
set_option maxRecDepth 20000 in
theorem gX8_met_X8_meetsMaps : GoodIn wsX8_met (wsV RX8 209 RX8 yX8_meetsMaps wsX8_meetsMaps) := goodIn_app (goodIn_of _ (by decide +kernel)) ggX8_met_X8_meetsMaps
set_option maxRecDepth 20000 in
theorem ggX8_met_X4_add : GoodIn wsX8_met wsX4_add := goodIn_r _ [151, 152, 153, 162, 163] (by decide +kernel) (by decide +kernel)
set_option maxRecDepth 20000 in
theorem gX8_met_X4_add : GoodIn wsX8_met (wsV RX8 213 RX4 yX4_add wsX4_add) := goodIn_app (goodIn_of _ (by decide +kernel)) ggX8_met_X4_add
theorem dX8_met_0 : decode cX8_met 0 = .ok (.iload_n 2, 1) := by decide +kernel
theorem dX8_met_1 : decode cX8_met 1 = .ok (.iconst 0, 1) := by decide +kernel
theorem dX8_met_2 : decode cX8_met 2 = .ok (.sipush 200, 3) := by decide +kernel
theorem dX8_met_5 : decode cX8_met 5 = .ok (.invokestatic 77, 3) := by decide +kernel
theorem dX8_met_8 : decode cX8_met 8 = .ok (.ifCond .eq 20, 3) := by decide +kernel
theorem dX8_met_11 : decode cX8_met 11 = .ok (.iload_n 1, 1) := by decide +kernel
theorem dX8_met_12 : decode cX8_met 12 = .ok (.iconst 0, 1) := by decide +kernel
theorem dX8_met_13 : decode cX8_met 13 = .ok (.iload_n 2, 1) := by decide +kernel
theorem dX8_met_14 : decode cX8_met 14 = .ok (.invokestatic 77, 3) := by decide +kernel
theorem dX8_met_17 : decode cX8_met 17 = .ok (.ifCond .eq 11, 3) := by decide +kernel
theorem dX8_met_20 : decode cX8_met 20 = .ok (.iload_n 2, 1) := by decide +kernel
theorem dX8_met_21 : decode cX8_met 21 = .ok (.iload_n 1, 1) := by decide +kernel
theorem dX8_met_22 : decode cX8_met 22 = .ok (.isub, 1) := by decide +kernel
theorem dX8_met_23 : decode cX8_met 23 = .ok (.bipush 20, 2) := by decide +kernel
theorem dX8_met_25 : decode cX8_met 25 = .ok (.if_icmp .lt 5, 3) := by decide +kernel
theorem dX8_met_28 : decode cX8_met 28 = .ok (.iconst (-1), 1) := by decide +kernel
theorem dX8_met_29 : decode cX8_met 29 = .ok (.ireturn, 1) := by decide +kernel
theorem dX8_met_30 : decode cX8_met 30 = .ok (.aload_n 0, 1) := by decide +kernel
theorem dX8_met_31 : decode cX8_met 31 = .ok (.getfield 57, 3) := by decide +kernel
theorem dX8_met_34 : decode cX8_met 34 = .ok (.iconst 0, 1) := by decide +kernel
theorem dX8_met_35 : decode cX8_met 35 = .ok (.putfield 208, 3) := by decide +kernel
theorem dX8_met_38 : decode cX8_met 38 = .ok (.iload_n 1, 1) := by decide +kernel
theorem dX8_met_39 : decode cX8_met 39 = .ok (.istore_n 3, 1) := by decide +kernel
theorem dX8_met_40 : decode cX8_met 40 = .ok (.iload_n 3, 1) := by decide +kernel
theorem dX8_met_41 : decode cX8_met 41 = .ok (.iload_n 2, 1) := by decide +kernel
theorem dX8_met_42 : decode cX8_met 42 = .ok (.if_icmp .gt 25, 3) := by decide +kernel
theorem dX8_met_45 : decode cX8_met 45 = .ok (.aload_n 0, 1) := by decide +kernel
theorem dX8_met_46 : decode cX8_met 46 = .ok (.iload_n 3, 1) := by decide +kernel
theorem dX8_met_47 : decode cX8_met 47 = .ok (.invokevirtual 209, 3) := by decide +kernel
theorem dX8_met_50 : decode cX8_met 50 = .ok (.ifCond .eq 11, 3) := by decide +kernel
theorem dX8_met_53 : decode cX8_met 53 = .ok (.aload_n 0, 1) := by decide +kernel
theorem dX8_met_54 : decode cX8_met 54 = .ok (.getfield 57, 3) := by decide +kernel
theorem dX8_met_57 : decode cX8_met 57 = .ok (.iload_n 3, 1) := by decide +kernel
theorem dX8_met_58 : decode cX8_met 58 = .ok (.invokevirtual 213, 3) := by decide +kernel
theorem dX8_met_61 : decode cX8_met 61 = .ok (.iinc 3 1, 3) := by decide +kernel
theorem dX8_met_64 : decode cX8_met 64 = .ok (.goto (-24), 3) := by decide +kernel
theorem dX8_met_67 : decode cX8_met 67 = .ok (.aload_n 0, 1) := by decide +kernel
theorem dX8_met_68 : decode cX8_met 68 = .ok (.getfield 57, 3) := by decide +kernel
theorem dX8_met_71 : decode cX8_met 71 = .ok (.getfield 208, 3) := by decide +kernel
theorem dX8_met_74 : decode cX8_met 74 = .ok (.ireturn, 1) := by decide +kernel
set_option maxRecDepth 20000 in
theorem ggX8_rate_X8_isWithin : GoodIn wsX8_rate wsX8_isWithin := goodIn_r _ [7] (by decide +kernel) (by decide +kernel)
set_option maxRecDepth 20000 in
theorem gX8_rate_X8_isWithin : GoodIn wsX8_rate (va_wsS RX8 77 yX8_isWithin wsX8_isWithin) := goodIn_app (goodIn_of _ (by decide +kernel)) ggX8_rate_X8_isWithin
theorem dX8_rate_0 : decode cX8_rate 0 = .ok (.iload_n 1, 1) := by decide +kernel
theorem dX8_rate_1 : decode cX8_rate 1 = .ok (.iconst 0, 1) := by decide +kernel
theorem dX8_rate_2 : decode cX8_rate 2 = .ok (.aload_n 0, 1) := by decide +kernel
theorem dX8_rate_3 : decode cX8_rate 3 = .ok (.getfield 57, 3) := by decide +kernel
theorem dX8_rate_6 : decode cX8_rate 6 = .ok (.getfield 208, 3) := by decide +kernel
theorem dX8_rate_9 : decode cX8_rate 9 = .ok (.iconst 1, 1) := by decide +kernel
theorem dX8_rate_10 : decode cX8_rate 10 = .ok (.isub, 1) := by decide +kernel
theorem dX8_rate_11 : decode cX8_rate 11 = .ok (.invokestatic 77, 3) := by decide +kernel
theorem dX8_rate_14 : decode cX8_rate 14 = .ok (.ifCond .eq 15, 3) := by decide +kernel
theorem dX8_rate_17 : decode cX8_rate 17 = .ok (.aload_n 0, 1) := by decide +kernel
theorem dX8_rate_18 : decode cX8_rate 18 = .ok (.getfield 57, 3) := by decide +kernel
theorem dX8_rate_21 : decode cX8_rate 21 = .ok (.getfield 215, 3) := by decide +kernel
theorem dX8_rate_24 : decode cX8_rate 24 = .ok (.iload_n 1, 1) := by decide +kernel
theorem dX8_rate_25 : decode cX8_rate 25 = .ok (.iaload, 1) := by decide +kernel
theorem dX8_rate_26 : decode cX8_rate 26 = .ok (.goto 4, 3) := by decide +kernel
theorem dX8_rate_29 : decode cX8_rate 29 = .ok (.iconst (-1), 1) := by decide +kernel
theorem dX8_rate_30 : decode cX8_rate 30 = .ok (.ireturn, 1) := by decide +kernel
set_option maxRecDepth 20000 in
theorem ggX8_foretold_X8_firstYearWithCut : GoodIn wsX8_foretold wsX8_firstYearWithCut := goodIn_r _ [8, 9, 10, 11, 12, 13, 14, 15, 16, 17, 18, 19, 20, 21, 22, 23, 24, 25, 26, 27, 28, 29, 30, 31, 32, 33, 34, 35, 36, 37, 38, 39, 40, 41, 42, 43, 44, 45, 46, 47, 48, 49, 50, 51, 52, 53, 54, 55, 56, 57, 58, 59, 60, 61, 62, 63, 64, 65, 66, 7, 67, 68, 69, 70, 71, 72, 73, 74, 75, 76, 77, 78, 79, 80, 81, 82, 83, 84, 85, 86, 87, 88, 89, 90, 91, 92, 93, 94, 95, 96, 97, 98, 99, 100, 101, 102, 103, 104, 105, 106, 107, 108, 109, 110, 111, 112, 113, 114, 115, 116, 117, 118, 119, 120, 121, 122, 123, 124, 125, 126, 127, 128, 129, 130, 131, 132, 135, 136, 137, 138, 139, 140, 141, 142, 143, 144, 145, 146, 147, 148, 149, 150, 151, 152] (by decide +kernel) (by decide +kernel)
set_option maxRecDepth 20000 in
theorem gX8_foretold_X8_firstYearWithCut : GoodIn wsX8_foretold (wsV RX8 218 RX8 yX8_firstYearWithCut wsX8_firstYearWithCut) := goodIn_app (goodIn_of _ (by decide +kernel)) ggX8_foretold_X8_firstYearWithCut
theorem dX8_foretold_0 : decode cX8_foretold 0 = .ok (.iconst (-1), 1) := by decide +kernel
theorem dX8_foretold_1 : decode cX8_foretold 1 = .ok (.istore_n 2, 1) := by decide +kernel
theorem dX8_foretold_2 : decode cX8_foretold 2 = .ok (.iconst 0, 1) := by decide +kernel
theorem dX8_foretold_3 : decode cX8_foretold 3 = .ok (.istore_n 3, 1) := by decide +kernel
theorem dX8_foretold_4 : decode cX8_foretold 4 = .ok (.iload_n 3, 1) := by decide +kernel
theorem dX8_foretold_5 : decode cX8_foretold 5 = .ok (.aload_n 0, 1) := by decide +kernel
theorem dX8_foretold_6 : decode cX8_foretold 6 = .ok (.getfield 57, 3) := by decide +kernel
theorem dX8_foretold_9 : decode cX8_foretold 9 = .ok (.getfield 208, 3) := by decide +kernel
theorem dX8_foretold_12 : decode cX8_foretold 12 = .ok (.if_icmp .ge 51, 3) := by decide +kernel
theorem dX8_foretold_15 : decode cX8_foretold 15 = .ok (.aload_n 0, 1) := by decide +kernel
theorem dX8_foretold_16 : decode cX8_foretold 16 = .ok (.aload_n 0, 1) := by decide +kernel
theorem dX8_foretold_17 : decode cX8_foretold 17 = .ok (.getfield 57, 3) := by decide +kernel
theorem dX8_foretold_20 : decode cX8_foretold 20 = .ok (.getfield 215, 3) := by decide +kernel
theorem dX8_foretold_23 : decode cX8_foretold 23 = .ok (.iload_n 3, 1) := by decide +kernel
theorem dX8_foretold_24 : decode cX8_foretold 24 = .ok (.iaload, 1) := by decide +kernel
theorem dX8_foretold_25 : decode cX8_foretold 25 = .ok (.invokevirtual 218, 3) := by decide +kernel
theorem dX8_foretold_28 : decode cX8_foretold 28 = .ok (.istore 4, 2) := by decide +kernel
theorem dX8_foretold_30 : decode cX8_foretold 30 = .ok (.iload_n 2, 1) := by decide +kernel
theorem dX8_foretold_31 : decode cX8_foretold 31 = .ok (.iconst (-1), 1) := by decide +kernel
theorem dX8_foretold_32 : decode cX8_foretold 32 = .ok (.if_icmp .eq 22, 3) := by decide +kernel
theorem dX8_foretold_35 : decode cX8_foretold 35 = .ok (.iload_n 1, 1) := by decide +kernel
theorem dX8_foretold_36 : decode cX8_foretold 36 = .ok (.ifCond .eq 12, 3) := by decide +kernel
theorem dX8_foretold_39 : decode cX8_foretold 39 = .ok (.iload 4, 2) := by decide +kernel
theorem dX8_foretold_41 : decode cX8_foretold 41 = .ok (.iload_n 2, 1) := by decide +kernel
theorem dX8_foretold_42 : decode cX8_foretold 42 = .ok (.if_icmp .le 15, 3) := by decide +kernel
theorem dX8_foretold_45 : decode cX8_foretold 45 = .ok (.goto 9, 3) := by decide +kernel
theorem dX8_foretold_48 : decode cX8_foretold 48 = .ok (.iload 4, 2) := by decide +kernel
theorem dX8_foretold_50 : decode cX8_foretold 50 = .ok (.iload_n 2, 1) := by decide +kernel
theorem dX8_foretold_51 : decode cX8_foretold 51 = .ok (.if_icmp .ge 6, 3) := by decide +kernel
theorem dX8_foretold_54 : decode cX8_foretold 54 = .ok (.iload 4, 2) := by decide +kernel
theorem dX8_foretold_56 : decode cX8_foretold 56 = .ok (.istore_n 2, 1) := by decide +kernel
theorem dX8_foretold_57 : decode cX8_foretold 57 = .ok (.iinc 3 1, 3) := by decide +kernel
theorem dX8_foretold_60 : decode cX8_foretold 60 = .ok (.goto (-56), 3) := by decide +kernel
theorem dX8_foretold_63 : decode cX8_foretold 63 = .ok (.iload_n 2, 1) := by decide +kernel
theorem dX8_foretold_64 : decode cX8_foretold 64 = .ok (.ireturn, 1) := by decide +kernel
set_option maxRecDepth 20000 in
theorem ggX8_count_X3_sumOfPieces : GoodIn wsX8_count wsX3_sumOfPieces := goodIn_r _ [17, 18, 19, 20, 21, 22, 23, 24, 37, 38, 39] (by decide +kernel) (by decide +kernel)
set_option maxRecDepth 20000 in
theorem gX8_count_X3_sumOfPieces : GoodIn wsX8_count (wsV RX8 222 RX3 yX3_sumOfPieces wsX3_sumOfPieces) := goodIn_app (goodIn_of _ (by decide +kernel)) ggX8_count_X3_sumOfPieces
theorem dX8_count_0 : decode cX8_count 0 = .ok (.iload_n 1, 1) := by decide +kernel
theorem dX8_count_1 : decode cX8_count 1 = .ok (.tableswitch 108 0 6 #[43, 51, 62, 73, 81, 89, 100], 43) := by decide +kernel
theorem dX8_count_44 : decode cX8_count 44 = .ok (.aload_n 0, 1) := by decide +kernel
theorem dX8_count_45 : decode cX8_count 45 = .ok (.getfield 33, 3) := by decide +kernel
theorem dX8_count_48 : decode cX8_count 48 = .ok (.getfield 123, 3) := by decide +kernel
theorem dX8_count_51 : decode cX8_count 51 = .ok (.ireturn, 1) := by decide +kernel
theorem dX8_count_52 : decode cX8_count 52 = .ok (.aload_n 0, 1) := by decide +kernel
theorem dX8_count_53 : decode cX8_count 53 = .ok (.getfield 33, 3) := by decide +kernel
theorem dX8_count_56 : decode cX8_count 56 = .ok (.getfield 88, 3) := by decide +kernel
theorem dX8_count_59 : decode cX8_count 59 = .ok (.getfield 139, 3) := by decide +kernel
theorem dX8_count_62 : decode cX8_count 62 = .ok (.ireturn, 1) := by decide +kernel
theorem dX8_count_63 : decode cX8_count 63 = .ok (.aload_n 0, 1) := by decide +kernel
theorem dX8_count_64 : decode cX8_count 64 = .ok (.getfield 33, 3) := by decide +kernel
theorem dX8_count_67 : decode cX8_count 67 = .ok (.getfield 159, 3) := by decide +kernel
theorem dX8_count_70 : decode cX8_count 70 = .ok (.getfield 163, 3) := by decide +kernel
theorem dX8_count_73 : decode cX8_count 73 = .ok (.ireturn, 1) := by decide +kernel
theorem dX8_count_74 : decode cX8_count 74 = .ok (.aload_n 0, 1) := by decide +kernel
theorem dX8_count_75 : decode cX8_count 75 = .ok (.getfield 43, 3) := by decide +kernel
theorem dX8_count_78 : decode cX8_count 78 = .ok (.getfield 190, 3) := by decide +kernel
theorem dX8_count_81 : decode cX8_count 81 = .ok (.ireturn, 1) := by decide +kernel
theorem dX8_count_82 : decode cX8_count 82 = .ok (.aload_n 0, 1) := by decide +kernel
theorem dX8_count_83 : decode cX8_count 83 = .ok (.getfield 50, 3) := by decide +kernel
theorem dX8_count_86 : decode cX8_count 86 = .ok (.getfield 204, 3) := by decide +kernel
theorem dX8_count_89 : decode cX8_count 89 = .ok (.ireturn, 1) := by decide +kernel
theorem dX8_count_90 : decode cX8_count 90 = .ok (.aload_n 0, 1) := by decide +kernel
theorem dX8_count_91 : decode cX8_count 91 = .ok (.getfield 33, 3) := by decide +kernel
theorem dX8_count_94 : decode cX8_count 94 = .ok (.getfield 88, 3) := by decide +kernel
theorem dX8_count_97 : decode cX8_count 97 = .ok (.invokevirtual 222, 3) := by decide +kernel
theorem dX8_count_100 : decode cX8_count 100 = .ok (.ireturn, 1) := by decide +kernel
theorem dX8_count_101 : decode cX8_count 101 = .ok (.aload_n 0, 1) := by decide +kernel
theorem dX8_count_102 : decode cX8_count 102 = .ok (.getfield 10, 3) := by decide +kernel
theorem dX8_count_105 : decode cX8_count 105 = .ok (.getfield 69, 3) := by decide +kernel
theorem dX8_count_108 : decode cX8_count 108 = .ok (.ireturn, 1) := by decide +kernel
theorem dX8_count_109 : decode cX8_count 109 = .ok (.iconst (-1), 1) := by decide +kernel
theorem dX8_count_110 : decode cX8_count 110 = .ok (.ireturn, 1) := by decide +kernel
set_option maxRecDepth 20000 in
theorem ggX8_meetsMaps_X5_restart : GoodIn wsX8_meetsMaps wsX5_restart := goodIn_r _ [11, 12, 13, 14, 15, 16, 17, 18, 19, 20, 21, 22, 23, 24, 25, 26, 27, 153, 154, 155, 156, 157, 158, 159, 160, 161, 162, 163] (by decide +kernel) (by decide +kernel)
set_option maxRecDepth 20000 in
theorem gX8_meetsMaps_X5_restart : GoodIn wsX8_meetsMaps (wsV RX8 65 RX5 yX5_restart wsX5_restart) := goodIn_app (goodIn_of _ (by decide +kernel)) ggX8_meetsMaps_X5_restart
set_option maxRecDepth 20000 in
theorem ggX8_meetsMaps_X1_latestYear : GoodIn wsX8_meetsMaps wsX1_latestYear := goodIn_r _ [32, 33, 34, 35, 36, 37, 38, 164, 165, 166, 167, 168] (by decide +kernel) (by decide +kernel)
set_option maxRecDepth 20000 in
theorem gX8_meetsMaps_X1_latestYear : GoodIn wsX8_meetsMaps (wsV RX8 225 RX1 yX1_latestYear wsX1_latestYear) := goodIn_app (goodIn_of _ (by decide +kernel)) ggX8_meetsMaps_X1_latestYear
set_option maxRecDepth 20000 in
theorem ggX8_meetsMaps_X5_windOn : GoodIn wsX8_meetsMaps wsX5_windOn := goodIn_r _ [42, 15, 43, 44, 45, 46, 10, 47, 12, 48, 49, 50, 51, 52, 53, 54, 55, 56, 57, 58, 59, 60, 61, 62, 63, 64, 65, 66, 67, 68, 69, 70, 71, 72, 73, 37, 74, 75, 36, 38, 76, 25, 26, 19, 27, 21, 22, 23, 77, 78, 79, 80, 81, 82, 83, 84, 85, 86, 87, 88, 89, 90, 91, 92, 93, 94, 95, 96, 97, 98, 99, 153, 154, 155, 156, 146, 147, 148, 149, 150, 151, 152, 161, 162, 163] (by decide +kernel) (by decide +kernel)
set_option maxRecDepth 20000 in
theorem gX8_meetsMaps_X5_windOn : GoodIn wsX8_meetsMaps (wsV RX8 129 RX5 yX5_windOn wsX5_windOn) := goodIn_app (goodIn_of _ (by decide +kernel)) ggX8_meetsMaps_X5_windOn
set_option maxRecDepth 20000 in
theorem ggX8_meetsMaps_X5_cutNecks : GoodIn wsX8_meetsMaps wsX5_cutNecks := goodIn_r _ [103, 12, 48, 13, 15, 104, 105, 106, 10, 107, 108, 73, 37, 74, 50, 51, 89, 90, 91, 19, 92, 22, 93, 94, 95, 23, 109, 110, 111, 112, 113, 114, 115, 116, 117, 118, 119, 120, 121, 122, 123, 124, 125, 21, 153, 154, 155, 156, 161, 162, 163, 157, 158, 159, 160] (by decide +kernel) (by decide +kernel)
set_option maxRecDepth 20000 in
theorem gX8_meetsMaps_X5_cutNecks : GoodIn wsX8_meetsMaps (wsV RX8 136 RX5 yX5_cutNecks wsX5_cutNecks) := goodIn_app (goodIn_of _ (by decide +kernel)) ggX8_meetsMaps_X5_cutNecks
set_option maxRecDepth 20000 in
theorem ggX8_meetsMaps_X1_agree : GoodIn wsX8_meetsMaps wsX1_agree := goodIn_r _ [129, 33, 34, 130, 131, 132, 133, 134, 135, 19, 136, 21, 137, 90, 91, 92, 22, 93, 94, 37, 95, 23, 164, 165, 166, 167, 168, 161, 162, 163] (by decide +kernel) (by decide +kernel)
set_option maxRecDepth 20000 in
theorem gX8_meetsMaps_X1_agree : GoodIn wsX8_meetsMaps (wsV RX8 228 RX1 yX1_agree wsX1_agree) := goodIn_app (goodIn_of _ (by decide +kernel)) ggX8_meetsMaps_X1_agree
theorem dX8_meetsMaps_0 : decode cX8_meetsMaps 0 = .ok (.aload_n 0, 1) := by decide +kernel
theorem dX8_meetsMaps_1 : decode cX8_meetsMaps 1 = .ok (.getfield 37, 3) := by decide +kernel
theorem dX8_meetsMaps_4 : decode cX8_meetsMaps 4 = .ok (.aload_n 0, 1) := by decide +kernel
theorem dX8_meetsMaps_5 : decode cX8_meetsMaps 5 = .ok (.getfield 26, 3) := by decide +kernel
theorem dX8_meetsMaps_8 : decode cX8_meetsMaps 8 = .ok (.invokevirtual 65, 3) := by decide +kernel
theorem dX8_meetsMaps_11 : decode cX8_meetsMaps 11 = .ok (.aload_n 0, 1) := by decide +kernel
theorem dX8_meetsMaps_12 : decode cX8_meetsMaps 12 = .ok (.getfield 50, 3) := by decide +kernel
theorem dX8_meetsMaps_15 : decode cX8_meetsMaps 15 = .ok (.invokevirtual 225, 3) := by decide +kernel
theorem dX8_meetsMaps_18 : decode cX8_meetsMaps 18 = .ok (.istore_n 2, 1) := by decide +kernel
theorem dX8_meetsMaps_19 : decode cX8_meetsMaps 19 = .ok (.iconst 0, 1) := by decide +kernel
theorem dX8_meetsMaps_20 : decode cX8_meetsMaps 20 = .ok (.istore_n 3, 1) := by decide +kernel
theorem dX8_meetsMaps_21 : decode cX8_meetsMaps 21 = .ok (.iload_n 3, 1) := by decide +kernel
theorem dX8_meetsMaps_22 : decode cX8_meetsMaps 22 = .ok (.iload_n 2, 1) := by decide +kernel
theorem dX8_meetsMaps_23 : decode cX8_meetsMaps 23 = .ok (.if_icmp .gt 59, 3) := by decide +kernel
theorem dX8_meetsMaps_26 : decode cX8_meetsMaps 26 = .ok (.iload_n 3, 1) := by decide +kernel
theorem dX8_meetsMaps_27 : decode cX8_meetsMaps 27 = .ok (.ifCond .le 29, 3) := by decide +kernel
theorem dX8_meetsMaps_30 : decode cX8_meetsMaps 30 = .ok (.aload_n 0, 1) := by decide +kernel
theorem dX8_meetsMaps_31 : decode cX8_meetsMaps 31 = .ok (.getfield 37, 3) := by decide +kernel
theorem dX8_meetsMaps_34 : decode cX8_meetsMaps 34 = .ok (.aload_n 0, 1) := by decide +kernel
theorem dX8_meetsMaps_35 : decode cX8_meetsMaps 35 = .ok (.getfield 19, 3) := by decide +kernel
theorem dX8_meetsMaps_38 : decode cX8_meetsMaps 38 = .ok (.iload_n 1, 1) := by decide +kernel
theorem dX8_meetsMaps_39 : decode cX8_meetsMaps 39 = .ok (.invokevirtual 129, 3) := by decide +kernel
theorem dX8_meetsMaps_42 : decode cX8_meetsMaps 42 = .ok (.aload_n 0, 1) := by decide +kernel
theorem dX8_meetsMaps_43 : decode cX8_meetsMaps 43 = .ok (.getfield 37, 3) := by decide +kernel
theorem dX8_meetsMaps_46 : decode cX8_meetsMaps 46 = .ok (.aload_n 0, 1) := by decide +kernel
theorem dX8_meetsMaps_47 : decode cX8_meetsMaps 47 = .ok (.getfield 19, 3) := by decide +kernel
theorem dX8_meetsMaps_50 : decode cX8_meetsMaps 50 = .ok (.getfield 120, 3) := by decide +kernel
theorem dX8_meetsMaps_53 : decode cX8_meetsMaps 53 = .ok (.invokevirtual 136, 3) := by decide +kernel
theorem dX8_meetsMaps_56 : decode cX8_meetsMaps 56 = .ok (.aload_n 0, 1) := by decide +kernel
theorem dX8_meetsMaps_57 : decode cX8_meetsMaps 57 = .ok (.getfield 50, 3) := by decide +kernel
theorem dX8_meetsMaps_60 : decode cX8_meetsMaps 60 = .ok (.aload_n 0, 1) := by decide +kernel
theorem dX8_meetsMaps_61 : decode cX8_meetsMaps 61 = .ok (.getfield 37, 3) := by decide +kernel
theorem dX8_meetsMaps_64 : decode cX8_meetsMaps 64 = .ok (.getfield 88, 3) := by decide +kernel
theorem dX8_meetsMaps_67 : decode cX8_meetsMaps 67 = .ok (.iload_n 3, 1) := by decide +kernel
theorem dX8_meetsMaps_68 : decode cX8_meetsMaps 68 = .ok (.invokevirtual 228, 3) := by decide +kernel
theorem dX8_meetsMaps_71 : decode cX8_meetsMaps 71 = .ok (.ifCond .ne 5, 3) := by decide +kernel
theorem dX8_meetsMaps_74 : decode cX8_meetsMaps 74 = .ok (.iconst 0, 1) := by decide +kernel
theorem dX8_meetsMaps_75 : decode cX8_meetsMaps 75 = .ok (.ireturn, 1) := by decide +kernel
theorem dX8_meetsMaps_76 : decode cX8_meetsMaps 76 = .ok (.iinc 3 1, 3) := by decide +kernel
theorem dX8_meetsMaps_79 : decode cX8_meetsMaps 79 = .ok (.goto (-58), 3) := by decide +kernel
theorem dX8_meetsMaps_82 : decode cX8_meetsMaps 82 = .ok (.iconst 1, 1) := by decide +kernel
theorem dX8_meetsMaps_83 : decode cX8_meetsMaps 83 = .ok (.ireturn, 1) := by decide +kernel
set_option maxRecDepth 20000 in
theorem ggX8_firstYearWithCut_X5_restart : GoodIn wsX8_firstYearWithCut wsX5_restart := goodIn_r _ [11, 12, 13, 14, 15, 16, 17, 18, 19, 20, 21, 22, 23, 24, 25, 26, 27, 133, 134, 135, 136, 137, 138, 139, 140, 141, 142, 143] (by decide +kernel) (by decide +kernel)
set_option maxRecDepth 20000 in
theorem gX8_firstYearWithCut_X5_restart : GoodIn wsX8_firstYearWithCut (wsV RX8 65 RX5 yX5_restart wsX5_restart) := goodIn_app (goodIn_of _ (by decide +kernel)) ggX8_firstYearWithCut_X5_restart
set_option maxRecDepth 20000 in
theorem ggX8_firstYearWithCut_X5_windOn : GoodIn wsX8_firstYearWithCut wsX5_windOn := goodIn_r _ [31, 15, 32, 33, 34, 35, 10, 36, 12, 37, 38, 39, 40, 41, 42, 43, 44, 45, 46, 47, 48, 49, 50, 51, 52, 53, 54, 55, 56, 57, 58, 59, 60, 61, 62, 63, 64, 65, 66, 67, 68, 25, 26, 19, 27, 21, 22, 23, 69, 70, 71, 72, 73, 74, 75, 76, 77, 78, 79, 80, 81, 82, 83, 84, 85, 86, 87, 88, 89, 90, 91, 133, 134, 135, 136, 126, 127, 128, 129, 130, 131, 132, 141, 142, 143] (by decide +kernel) (by decide +kernel)
set_option maxRecDepth 20000 in
theorem gX8_firstYearWithCut_X5_windOn : GoodIn wsX8_firstYearWithCut (wsV RX8 129 RX5 yX5_windOn wsX5_windOn) := goodIn_app (goodIn_of _ (by decide +kernel)) ggX8_firstYearWithCut_X5_windOn
set_option maxRecDepth 20000 in
theorem ggX8_firstYearWithCut_X5_cutNecks : GoodIn wsX8_firstYearWithCut wsX5_cutNecks := goodIn_r _ [95, 12, 37, 13, 15, 96, 97, 98, 10, 99, 100, 62, 63, 64, 39, 40, 81, 82, 83, 19, 84, 22, 85, 86, 87, 23, 101, 102, 103, 104, 105, 106, 107, 108, 109, 110, 111, 112, 113, 114, 115, 116, 117, 21, 133, 134, 135, 136, 141, 142, 143, 137, 138, 139, 140] (by decide +kernel) (by decide +kernel)
set_option maxRecDepth 20000 in
theorem gX8_firstYearWithCut_X5_cutNecks : GoodIn wsX8_firstYearWithCut (wsV RX8 136 RX5 yX5_cutNecks wsX5_cutNecks) := goodIn_app (goodIn_of _ (by decide +kernel)) ggX8_firstYearWithCut_X5_cutNecks
theorem dX8_firstYearWithCut_0 : decode cX8_firstYearWithCut 0 = .ok (.aload_n 0, 1) := by decide +kernel
theorem dX8_firstYearWithCut_1 : decode cX8_firstYearWithCut 1 = .ok (.getfield 37, 3) := by decide +kernel
theorem dX8_firstYearWithCut_4 : decode cX8_firstYearWithCut 4 = .ok (.aload_n 0, 1) := by decide +kernel
theorem dX8_firstYearWithCut_5 : decode cX8_firstYearWithCut 5 = .ok (.getfield 26, 3) := by decide +kernel
theorem dX8_firstYearWithCut_8 : decode cX8_firstYearWithCut 8 = .ok (.invokevirtual 65, 3) := by decide +kernel
theorem dX8_firstYearWithCut_11 : decode cX8_firstYearWithCut 11 = .ok (.iconst 1, 1) := by decide +kernel
theorem dX8_firstYearWithCut_12 : decode cX8_firstYearWithCut 12 = .ok (.istore_n 2, 1) := by decide +kernel
theorem dX8_firstYearWithCut_13 : decode cX8_firstYearWithCut 13 = .ok (.iload_n 2, 1) := by decide +kernel
theorem dX8_firstYearWithCut_14 : decode cX8_firstYearWithCut 14 = .ok (.bipush 60, 2) := by decide +kernel
theorem dX8_firstYearWithCut_16 : decode cX8_firstYearWithCut 16 = .ok (.if_icmp .gt 50, 3) := by decide +kernel
theorem dX8_firstYearWithCut_19 : decode cX8_firstYearWithCut 19 = .ok (.aload_n 0, 1) := by decide +kernel
theorem dX8_firstYearWithCut_20 : decode cX8_firstYearWithCut 20 = .ok (.getfield 37, 3) := by decide +kernel
theorem dX8_firstYearWithCut_23 : decode cX8_firstYearWithCut 23 = .ok (.aload_n 0, 1) := by decide +kernel
theorem dX8_firstYearWithCut_24 : decode cX8_firstYearWithCut 24 = .ok (.getfield 19, 3) := by decide +kernel
theorem dX8_firstYearWithCut_27 : decode cX8_firstYearWithCut 27 = .ok (.iload_n 1, 1) := by decide +kernel
theorem dX8_firstYearWithCut_28 : decode cX8_firstYearWithCut 28 = .ok (.invokevirtual 129, 3) := by decide +kernel
theorem dX8_firstYearWithCut_31 : decode cX8_firstYearWithCut 31 = .ok (.aload_n 0, 1) := by decide +kernel
theorem dX8_firstYearWithCut_32 : decode cX8_firstYearWithCut 32 = .ok (.getfield 37, 3) := by decide +kernel
theorem dX8_firstYearWithCut_35 : decode cX8_firstYearWithCut 35 = .ok (.aload_n 0, 1) := by decide +kernel
theorem dX8_firstYearWithCut_36 : decode cX8_firstYearWithCut 36 = .ok (.getfield 19, 3) := by decide +kernel
theorem dX8_firstYearWithCut_39 : decode cX8_firstYearWithCut 39 = .ok (.getfield 120, 3) := by decide +kernel
theorem dX8_firstYearWithCut_42 : decode cX8_firstYearWithCut 42 = .ok (.invokevirtual 136, 3) := by decide +kernel
theorem dX8_firstYearWithCut_45 : decode cX8_firstYearWithCut 45 = .ok (.aload_n 0, 1) := by decide +kernel
theorem dX8_firstYearWithCut_46 : decode cX8_firstYearWithCut 46 = .ok (.getfield 37, 3) := by decide +kernel
theorem dX8_firstYearWithCut_49 : decode cX8_firstYearWithCut 49 = .ok (.getfield 159, 3) := by decide +kernel
theorem dX8_firstYearWithCut_52 : decode cX8_firstYearWithCut 52 = .ok (.getfield 163, 3) := by decide +kernel
theorem dX8_firstYearWithCut_55 : decode cX8_firstYearWithCut 55 = .ok (.ifCond .le 5, 3) := by decide +kernel
theorem dX8_firstYearWithCut_58 : decode cX8_firstYearWithCut 58 = .ok (.iload_n 2, 1) := by decide +kernel
theorem dX8_firstYearWithCut_59 : decode cX8_firstYearWithCut 59 = .ok (.ireturn, 1) := by decide +kernel
theorem dX8_firstYearWithCut_60 : decode cX8_firstYearWithCut 60 = .ok (.iinc 2 1, 3) := by decide +kernel
theorem dX8_firstYearWithCut_63 : decode cX8_firstYearWithCut 63 = .ok (.goto (-50), 3) := by decide +kernel
theorem dX8_firstYearWithCut_66 : decode cX8_firstYearWithCut 66 = .ok (.bipush 61, 2) := by decide +kernel
theorem dX8_firstYearWithCut_68 : decode cX8_firstYearWithCut 68 = .ok (.ireturn, 1) := by decide +kernel
set_option maxRecDepth 20000 in
theorem ggX8_hasSide_X8_isWithin : GoodIn wsX8_hasSide wsX8_isWithin := goodIn_r _ [4] (by decide +kernel) (by decide +kernel)
set_option maxRecDepth 20000 in
theorem gX8_hasSide_X8_isWithin : GoodIn wsX8_hasSide (va_wsS RX8 77 yX8_isWithin wsX8_isWithin) := goodIn_app (goodIn_of _ (by decide +kernel)) ggX8_hasSide_X8_isWithin
theorem dX8_hasSide_0 : decode cX8_hasSide 0 = .ok (.iload_n 0, 1) := by decide +kernel
theorem dX8_hasSide_1 : decode cX8_hasSide 1 = .ok (.iconst 0, 1) := by decide +kernel
theorem dX8_hasSide_2 : decode cX8_hasSide 2 = .ok (.sipush 510, 3) := by decide +kernel
theorem dX8_hasSide_5 : decode cX8_hasSide 5 = .ok (.invokestatic 77, 3) := by decide +kernel
theorem dX8_hasSide_8 : decode cX8_hasSide 8 = .ok (.ifCond .eq 18, 3) := by decide +kernel
theorem dX8_hasSide_11 : decode cX8_hasSide 11 = .ok (.iload_n 1, 1) := by decide +kernel
theorem dX8_hasSide_12 : decode cX8_hasSide 12 = .ok (.iconst 0, 1) := by decide +kernel
theorem dX8_hasSide_13 : decode cX8_hasSide 13 = .ok (.sipush 511, 3) := by decide +kernel
theorem dX8_hasSide_16 : decode cX8_hasSide 16 = .ok (.invokestatic 77, 3) := by decide +kernel
theorem dX8_hasSide_19 : decode cX8_hasSide 19 = .ok (.ifCond .eq 7, 3) := by decide +kernel
theorem dX8_hasSide_22 : decode cX8_hasSide 22 = .ok (.iconst 1, 1) := by decide +kernel
theorem dX8_hasSide_23 : decode cX8_hasSide 23 = .ok (.goto 4, 3) := by decide +kernel
theorem dX8_hasSide_26 : decode cX8_hasSide 26 = .ok (.iconst 0, 1) := by decide +kernel
theorem dX8_hasSide_27 : decode cX8_hasSide 27 = .ok (.ireturn, 1) := by decide +kernel
theorem dX8_isWithin_0 : decode cX8_isWithin 0 = .ok (.iload_n 0, 1) := by decide +kernel
theorem dX8_isWithin_1 : decode cX8_isWithin 1 = .ok (.iload_n 1, 1) := by decide +kernel
theorem dX8_isWithin_2 : decode cX8_isWithin 2 = .ok (.if_icmp .lt 12, 3) := by decide +kernel
theorem dX8_isWithin_5 : decode cX8_isWithin 5 = .ok (.iload_n 0, 1) := by decide +kernel
theorem dX8_isWithin_6 : decode cX8_isWithin 6 = .ok (.iload_n 2, 1) := by decide +kernel
theorem dX8_isWithin_7 : decode cX8_isWithin 7 = .ok (.if_icmp .gt 7, 3) := by decide +kernel
theorem dX8_isWithin_10 : decode cX8_isWithin 10 = .ok (.iconst 1, 1) := by decide +kernel
theorem dX8_isWithin_11 : decode cX8_isWithin 11 = .ok (.goto 4, 3) := by decide +kernel
theorem dX8_isWithin_14 : decode cX8_isWithin 14 = .ok (.iconst 0, 1) := by decide +kernel
theorem dX8_isWithin_15 : decode cX8_isWithin 15 = .ok (.ireturn, 1) := by decide +kernel
theorem dX8_clamp_0 : decode cX8_clamp 0 = .ok (.iload_n 1, 1) := by decide +kernel
theorem dX8_clamp_1 : decode cX8_clamp 1 = .ok (.iload_n 2, 1) := by decide +kernel
theorem dX8_clamp_2 : decode cX8_clamp 2 = .ok (.iload_n 0, 1) := by decide +kernel
theorem dX8_clamp_3 : decode cX8_clamp 3 = .ok (.invokestatic 232, 3) := by decide +kernel
theorem dX8_clamp_6 : decode cX8_clamp 6 = .ok (.invokestatic 237, 3) := by decide +kernel
theorem dX8_clamp_9 : decode cX8_clamp 9 = .ok (.ireturn, 1) := by decide +kernel
theorem dX9_thrown_0 : decode cX9_thrown 0 = .ok (.aload_n 0, 1) := by decide +kernel
theorem dX9_thrown_1 : decode cX9_thrown 1 = .ok (.getfield 1, 3) := by decide +kernel
theorem dX9_thrown_4 : decode cX9_thrown 4 = .ok (.ireturn, 1) := by decide +kernel
theorem dX9_throwsIf_0 : decode cX9_throwsIf 0 = .ok (.aload_n 0, 1) := by decide +kernel
theorem dX9_throwsIf_1 : decode cX9_throwsIf 1 = .ok (.iload_n 1, 1) := by decide +kernel
theorem dX9_throwsIf_2 : decode cX9_throwsIf 2 = .ok (.ifCond .eq 7, 3) := by decide +kernel
theorem dX9_throwsIf_5 : decode cX9_throwsIf 5 = .ok (.iconst 1, 1) := by decide +kernel
theorem dX9_throwsIf_6 : decode cX9_throwsIf 6 = .ok (.goto 4, 3) := by decide +kernel
theorem dX9_throwsIf_9 : decode cX9_throwsIf 9 = .ok (.iconst 0, 1) := by decide +kernel
theorem dX9_throwsIf_10 : decode cX9_throwsIf 10 = .ok (.putfield 1, 3) := by decide +kernel
theorem dX9_throwsIf_13 : decode cX9_throwsIf 13 = .ok (.iload_n 1, 1) := by decide +kernel
theorem dX9_throwsIf_14 : decode cX9_throwsIf 14 = .ok (.ireturn, 1) := by decide +kernel
set_option maxRecDepth 20000 in
theorem ggX9_feed_X9_four : GoodIn wsX9_feed wsX9_four := goodIn_r _ [7, 8, 2, 9, 10, 11, 12, 13, 14, 15, 16, 17, 18, 19, 20, 21, 22, 23, 24, 25, 26, 27, 28, 29, 30, 31, 32, 33, 34, 35, 36, 37, 38, 39, 40, 41, 42, 43, 44] (by decide +kernel) (by decide +kernel)
set_option maxRecDepth 20000 in
theorem gX9_feed_X9_four : GoodIn wsX9_feed (wsV RX9 10 RX9 yX9_four wsX9_four) := goodIn_app (goodIn_of _ (by decide +kernel)) ggX9_feed_X9_four
theorem dX9_feed_0 : decode cX9_feed 0 = .ok (.aload_n 0, 1) := by decide +kernel
theorem dX9_feed_1 : decode cX9_feed 1 = .ok (.iconst 0, 1) := by decide +kernel
theorem dX9_feed_2 : decode cX9_feed 2 = .ok (.putfield 1, 3) := by decide +kernel
theorem dX9_feed_5 : decode cX9_feed 5 = .ok (.aload_n 0, 1) := by decide +kernel
theorem dX9_feed_6 : decode cX9_feed 6 = .ok (.getfield 7, 3) := by decide +kernel
theorem dX9_feed_9 : decode cX9_feed 9 = .ok (.bipush 20, 2) := by decide +kernel
theorem dX9_feed_11 : decode cX9_feed 11 = .ok (.iadd, 1) := by decide +kernel
theorem dX9_feed_12 : decode cX9_feed 12 = .ok (.sipush 200, 3) := by decide +kernel
theorem dX9_feed_15 : decode cX9_feed 15 = .ok (.if_icmp .le 5, 3) := by decide +kernel
theorem dX9_feed_18 : decode cX9_feed 18 = .ok (.iconst (-1), 1) := by decide +kernel
theorem dX9_feed_19 : decode cX9_feed 19 = .ok (.ireturn, 1) := by decide +kernel
theorem dX9_feed_20 : decode cX9_feed 20 = .ok (.aload_n 0, 1) := by decide +kernel
theorem dX9_feed_21 : decode cX9_feed 21 = .ok (.iload_n 1, 1) := by decide +kernel
theorem dX9_feed_22 : decode cX9_feed 22 = .ok (.invokevirtual 10, 3) := by decide +kernel
theorem dX9_feed_25 : decode cX9_feed 25 = .ok (.aload_n 0, 1) := by decide +kernel
theorem dX9_feed_26 : decode cX9_feed 26 = .ok (.iload_n 2, 1) := by decide +kernel
theorem dX9_feed_27 : decode cX9_feed 27 = .ok (.invokevirtual 10, 3) := by decide +kernel
theorem dX9_feed_30 : decode cX9_feed 30 = .ok (.aload_n 0, 1) := by decide +kernel
theorem dX9_feed_31 : decode cX9_feed 31 = .ok (.iload_n 3, 1) := by decide +kernel
theorem dX9_feed_32 : decode cX9_feed 32 = .ok (.invokevirtual 10, 3) := by decide +kernel
theorem dX9_feed_35 : decode cX9_feed 35 = .ok (.aload_n 0, 1) := by decide +kernel
theorem dX9_feed_36 : decode cX9_feed 36 = .ok (.iload 4, 2) := by decide +kernel
theorem dX9_feed_38 : decode cX9_feed 38 = .ok (.invokevirtual 10, 3) := by decide +kernel
theorem dX9_feed_41 : decode cX9_feed 41 = .ok (.aload_n 0, 1) := by decide +kernel
theorem dX9_feed_42 : decode cX9_feed 42 = .ok (.iload 5, 2) := by decide +kernel
theorem dX9_feed_44 : decode cX9_feed 44 = .ok (.invokevirtual 10, 3) := by decide +kernel
theorem dX9_feed_47 : decode cX9_feed 47 = .ok (.aload_n 0, 1) := by decide +kernel
theorem dX9_feed_48 : decode cX9_feed 48 = .ok (.getfield 7, 3) := by decide +kernel
theorem dX9_feed_51 : decode cX9_feed 51 = .ok (.ireturn, 1) := by decide +kernel
theorem dX9_four_0 : decode cX9_four 0 = .ok (.bipush 24, 2) := by decide +kernel
theorem dX9_four_2 : decode cX9_four 2 = .ok (.istore_n 2, 1) := by decide +kernel
theorem dX9_four_3 : decode cX9_four 3 = .ok (.iload_n 2, 1) := by decide +kernel
theorem dX9_four_4 : decode cX9_four 4 = .ok (.ifCond .lt 32, 3) := by decide +kernel
theorem dX9_four_7 : decode cX9_four 7 = .ok (.aload_n 0, 1) := by decide +kernel
theorem dX9_four_8 : decode cX9_four 8 = .ok (.getfield 14, 3) := by decide +kernel
theorem dX9_four_11 : decode cX9_four 11 = .ok (.aload_n 0, 1) := by decide +kernel
theorem dX9_four_12 : decode cX9_four 12 = .ok (.getfield 7, 3) := by decide +kernel
theorem dX9_four_15 : decode cX9_four 15 = .ok (.iload_n 1, 1) := by decide +kernel
theorem dX9_four_16 : decode cX9_four 16 = .ok (.iload_n 2, 1) := by decide +kernel
theorem dX9_four_17 : decode cX9_four 17 = .ok (.ishr, 1) := by decide +kernel
theorem dX9_four_18 : decode cX9_four 18 = .ok (.i2b, 1) := by decide +kernel
theorem dX9_four_19 : decode cX9_four 19 = .ok (.bastore, 1) := by decide +kernel
theorem dX9_four_20 : decode cX9_four 20 = .ok (.aload_n 0, 1) := by decide +kernel
theorem dX9_four_21 : decode cX9_four 21 = .ok (.dup, 1) := by decide +kernel
theorem dX9_four_22 : decode cX9_four 22 = .ok (.getfield 7, 3) := by decide +kernel
theorem dX9_four_25 : decode cX9_four 25 = .ok (.iconst 1, 1) := by decide +kernel
theorem dX9_four_26 : decode cX9_four 26 = .ok (.iadd, 1) := by decide +kernel
theorem dX9_four_27 : decode cX9_four 27 = .ok (.putfield 7, 3) := by decide +kernel
theorem dX9_four_30 : decode cX9_four 30 = .ok (.iinc 2 (-8), 3) := by decide +kernel
theorem dX9_four_33 : decode cX9_four 33 = .ok (.goto (-30), 3) := by decide +kernel
theorem dX9_four_36 : decode cX9_four 36 = .ok (.return_, 1) := by decide +kernel
theorem dX9_end_0 : decode cX9_end 0 = .ok (.aload_n 0, 1) := by decide +kernel
theorem dX9_end_1 : decode cX9_end 1 = .ok (.iconst 0, 1) := by decide +kernel
theorem dX9_end_2 : decode cX9_end 2 = .ok (.putfield 1, 3) := by decide +kernel
theorem dX9_end_5 : decode cX9_end 5 = .ok (.iload_n 1, 1) := by decide +kernel
theorem dX9_end_6 : decode cX9_end 6 = .ok (.ifCond .lt 11, 3) := by decide +kernel
theorem dX9_end_9 : decode cX9_end 9 = .ok (.iload_n 1, 1) := by decide +kernel
theorem dX9_end_10 : decode cX9_end 10 = .ok (.aload_n 0, 1) := by decide +kernel
theorem dX9_end_11 : decode cX9_end 11 = .ok (.getfield 7, 3) := by decide +kernel
theorem dX9_end_14 : decode cX9_end 14 = .ok (.if_icmp .le 5, 3) := by decide +kernel
theorem dX9_end_17 : decode cX9_end 17 = .ok (.iconst 0, 1) := by decide +kernel
theorem dX9_end_18 : decode cX9_end 18 = .ok (.ireturn, 1) := by decide +kernel
theorem dX9_end_19 : decode cX9_end 19 = .ok (.aload_n 0, 1) := by decide +kernel
theorem dX9_end_20 : decode cX9_end 20 = .ok (.iload_n 1, 1) := by decide +kernel
theorem dX9_end_21 : decode cX9_end 21 = .ok (.putfield 7, 3) := by decide +kernel
theorem dX9_end_24 : decode cX9_end 24 = .ok (.iconst 1, 1) := by decide +kernel
theorem dX9_end_25 : decode cX9_end 25 = .ok (.ireturn, 1) := by decide +kernel
theorem dX9_taken_0 : decode cX9_taken 0 = .ok (.aload_n 0, 1) := by decide +kernel
theorem dX9_taken_1 : decode cX9_taken 1 = .ok (.aload_n 0, 1) := by decide +kernel
theorem dX9_taken_2 : decode cX9_taken 2 = .ok (.getfield 7, 3) := by decide +kernel
theorem dX9_taken_5 : decode cX9_taken 5 = .ok (.putfield 18, 3) := by decide +kernel
theorem dX9_taken_8 : decode cX9_taken 8 = .ok (.aload_n 0, 1) := by decide +kernel
theorem dX9_taken_9 : decode cX9_taken 9 = .ok (.iconst 0, 1) := by decide +kernel
theorem dX9_taken_10 : decode cX9_taken 10 = .ok (.putfield 7, 3) := by decide +kernel
theorem dX9_taken_13 : decode cX9_taken 13 = .ok (.return_, 1) := by decide +kernel
theorem dX9_isIn_0 : decode cX9_isIn 0 = .ok (.iload_n 0, 1) := by decide +kernel
theorem dX9_isIn_1 : decode cX9_isIn 1 = .ok (.iload_n 1, 1) := by decide +kernel
theorem dX9_isIn_2 : decode cX9_isIn 2 = .ok (.if_icmp .lt 12, 3) := by decide +kernel
theorem dX9_isIn_5 : decode cX9_isIn 5 = .ok (.iload_n 0, 1) := by decide +kernel
theorem dX9_isIn_6 : decode cX9_isIn 6 = .ok (.iload_n 2, 1) := by decide +kernel
theorem dX9_isIn_7 : decode cX9_isIn 7 = .ok (.if_icmp .gt 7, 3) := by decide +kernel
theorem dX9_isIn_10 : decode cX9_isIn 10 = .ok (.iconst 1, 1) := by decide +kernel
theorem dX9_isIn_11 : decode cX9_isIn 11 = .ok (.goto 4, 3) := by decide +kernel
theorem dX9_isIn_14 : decode cX9_isIn 14 = .ok (.iconst 0, 1) := by decide +kernel
theorem dX9_isIn_15 : decode cX9_isIn 15 = .ok (.ireturn, 1) := by decide +kernel
theorem dX9_size_0 : decode cX9_size 0 = .ok (.iload_n 0, 1) := by decide +kernel
theorem dX9_size_1 : decode cX9_size 1 = .ok (.ifCond .ge 8, 3) := by decide +kernel
theorem dX9_size_4 : decode cX9_size 4 = .ok (.iload_n 0, 1) := by decide +kernel
theorem dX9_size_5 : decode cX9_size 5 = .ok (.ineg, 1) := by decide +kernel
theorem dX9_size_6 : decode cX9_size 6 = .ok (.goto 4, 3) := by decide +kernel
theorem dX9_size_9 : decode cX9_size 9 = .ok (.iload_n 0, 1) := by decide +kernel
theorem dX9_size_10 : decode cX9_size 10 = .ok (.ireturn, 1) := by decide +kernel
set_option maxRecDepth 20000 in
theorem ggX9_init_X9_copy : GoodIn wsX9_init wsX9_copy := goodIn_r _ [38, 9, 7, 8, 39, 40, 41, 42, 43, 44, 45, 46, 47, 48, 49, 50, 51, 52, 53, 54, 55, 56, 57, 58, 59, 60, 61, 62, 63, 64, 65, 66, 67, 68, 69, 70, 71, 72, 73, 74] (by decide +kernel) (by decide +kernel)
set_option maxRecDepth 20000 in
theorem gX9_init_X9_copy : GoodIn wsX9_init (wsV RX9 109 RX9 yX9_copy wsX9_copy) := goodIn_app (goodIn_of _ (by decide +kernel)) ggX9_init_X9_copy
theorem dX9_init_0 : decode cX9_init 0 = .ok (.aload_n 0, 1) := by decide +kernel
theorem dX9_init_1 : decode cX9_init 1 = .ok (.invokespecial 21, 3) := by decide +kernel
theorem dX9_init_4 : decode cX9_init 4 = .ok (.aload_n 0, 1) := by decide +kernel
theorem dX9_init_5 : decode cX9_init 5 = .ok (.sipush 200, 3) := by decide +kernel
theorem dX9_init_8 : decode cX9_init 8 = .ok (.newarray .byte, 2) := by decide +kernel
theorem dX9_init_10 : decode cX9_init 10 = .ok (.putfield 14, 3) := by decide +kernel
theorem dX9_init_13 : decode cX9_init 13 = .ok (.aload_n 0, 1) := by decide +kernel
theorem dX9_init_14 : decode cX9_init 14 = .ok (.sipush 144, 3) := by decide +kernel
theorem dX9_init_17 : decode cX9_init 17 = .ok (.newarray .int, 2) := by decide +kernel
theorem dX9_init_19 : decode cX9_init 19 = .ok (.putfield 27, 3) := by decide +kernel
theorem dX9_init_22 : decode cX9_init 22 = .ok (.aload_n 0, 1) := by decide +kernel
theorem dX9_init_23 : decode cX9_init 23 = .ok (.sipush 144, 3) := by decide +kernel
theorem dX9_init_26 : decode cX9_init 26 = .ok (.newarray .int, 2) := by decide +kernel
theorem dX9_init_28 : decode cX9_init 28 = .ok (.putfield 31, 3) := by decide +kernel
theorem dX9_init_31 : decode cX9_init 31 = .ok (.aload_n 0, 1) := by decide +kernel
theorem dX9_init_32 : decode cX9_init 32 = .ok (.iconst 3, 1) := by decide +kernel
theorem dX9_init_33 : decode cX9_init 33 = .ok (.newarray .int, 2) := by decide +kernel
theorem dX9_init_35 : decode cX9_init 35 = .ok (.putfield 34, 3) := by decide +kernel
theorem dX9_init_38 : decode cX9_init 38 = .ok (.aload_n 0, 1) := by decide +kernel
theorem dX9_init_39 : decode cX9_init 39 = .ok (.bipush 64, 2) := by decide +kernel
theorem dX9_init_41 : decode cX9_init 41 = .ok (.newarray .int, 2) := by decide +kernel
theorem dX9_init_43 : decode cX9_init 43 = .ok (.putfield 37, 3) := by decide +kernel
theorem dX9_init_46 : decode cX9_init 46 = .ok (.aload_n 0, 1) := by decide +kernel
theorem dX9_init_47 : decode cX9_init 47 = .ok (.bipush 50, 2) := by decide +kernel
theorem dX9_init_49 : decode cX9_init 49 = .ok (.putfield 40, 3) := by decide +kernel
theorem dX9_init_52 : decode cX9_init 52 = .ok (.aload_n 0, 1) := by decide +kernel
theorem dX9_init_53 : decode cX9_init 53 = .ok (.iconst 4, 1) := by decide +kernel
theorem dX9_init_54 : decode cX9_init 54 = .ok (.putfield 43, 3) := by decide +kernel
theorem dX9_init_57 : decode cX9_init 57 = .ok (.aload_n 0, 1) := by decide +kernel
theorem dX9_init_58 : decode cX9_init 58 = .ok (.iconst 2, 1) := by decide +kernel
theorem dX9_init_59 : decode cX9_init 59 = .ok (.putfield 46, 3) := by decide +kernel
theorem dX9_init_62 : decode cX9_init 62 = .ok (.aload_n 0, 1) := by decide +kernel
theorem dX9_init_63 : decode cX9_init 63 = .ok (.iconst 1, 1) := by decide +kernel
theorem dX9_init_64 : decode cX9_init 64 = .ok (.putfield 49, 3) := by decide +kernel
theorem dX9_init_67 : decode cX9_init 67 = .ok (.aload_n 0, 1) := by decide +kernel
theorem dX9_init_68 : decode cX9_init 68 = .ok (.bipush 32, 2) := by decide +kernel
theorem dX9_init_70 : decode cX9_init 70 = .ok (.putfield 52, 3) := by decide +kernel
theorem dX9_init_73 : decode cX9_init 73 = .ok (.aload_n 0, 1) := by decide +kernel
theorem dX9_init_74 : decode cX9_init 74 = .ok (.bipush 8, 2) := by decide +kernel
theorem dX9_init_76 : decode cX9_init 76 = .ok (.putfield 55, 3) := by decide +kernel
theorem dX9_init_79 : decode cX9_init 79 = .ok (.aload_n 0, 1) := by decide +kernel
theorem dX9_init_80 : decode cX9_init 80 = .ok (.bipush 48, 2) := by decide +kernel
theorem dX9_init_82 : decode cX9_init 82 = .ok (.newarray .int, 2) := by decide +kernel
theorem dX9_init_84 : decode cX9_init 84 = .ok (.putfield 58, 3) := by decide +kernel
theorem dX9_init_87 : decode cX9_init 87 = .ok (.aload_n 0, 1) := by decide +kernel
theorem dX9_init_88 : decode cX9_init 88 = .ok (.bipush 48, 2) := by decide +kernel
theorem dX9_init_90 : decode cX9_init 90 = .ok (.newarray .int, 2) := by decide +kernel
theorem dX9_init_92 : decode cX9_init 92 = .ok (.putfield 61, 3) := by decide +kernel
theorem dX9_init_95 : decode cX9_init 95 = .ok (.aload_n 0, 1) := by decide +kernel
theorem dX9_init_96 : decode cX9_init 96 = .ok (.bipush 48, 2) := by decide +kernel
theorem dX9_init_98 : decode cX9_init 98 = .ok (.newarray .int, 2) := by decide +kernel
theorem dX9_init_100 : decode cX9_init 100 = .ok (.putfield 64, 3) := by decide +kernel
theorem dX9_init_103 : decode cX9_init 103 = .ok (.aload_n 0, 1) := by decide +kernel
theorem dX9_init_104 : decode cX9_init 104 = .ok (.bipush 48, 2) := by decide +kernel
theorem dX9_init_106 : decode cX9_init 106 = .ok (.newarray .int, 2) := by decide +kernel
theorem dX9_init_108 : decode cX9_init 108 = .ok (.putfield 67, 3) := by decide +kernel
theorem dX9_init_111 : decode cX9_init 111 = .ok (.aload_n 0, 1) := by decide +kernel
theorem dX9_init_112 : decode cX9_init 112 = .ok (.bipush 30, 2) := by decide +kernel
theorem dX9_init_114 : decode cX9_init 114 = .ok (.newarray .int, 2) := by decide +kernel
theorem dX9_init_116 : decode cX9_init 116 = .ok (.putfield 70, 3) := by decide +kernel
theorem dX9_init_119 : decode cX9_init 119 = .ok (.aload_n 0, 1) := by decide +kernel
theorem dX9_init_120 : decode cX9_init 120 = .ok (.bipush 30, 2) := by decide +kernel
theorem dX9_init_122 : decode cX9_init 122 = .ok (.newarray .int, 2) := by decide +kernel
theorem dX9_init_124 : decode cX9_init 124 = .ok (.putfield 73, 3) := by decide +kernel
theorem dX9_init_127 : decode cX9_init 127 = .ok (.aload_n 0, 1) := by decide +kernel
theorem dX9_init_128 : decode cX9_init 128 = .ok (.bipush 30, 2) := by decide +kernel
theorem dX9_init_130 : decode cX9_init 130 = .ok (.newarray .int, 2) := by decide +kernel
theorem dX9_init_132 : decode cX9_init 132 = .ok (.putfield 76, 3) := by decide +kernel
theorem dX9_init_135 : decode cX9_init 135 = .ok (.aload_n 0, 1) := by decide +kernel
theorem dX9_init_136 : decode cX9_init 136 = .ok (.bipush 20, 2) := by decide +kernel
theorem dX9_init_138 : decode cX9_init 138 = .ok (.newarray .int, 2) := by decide +kernel
theorem dX9_init_140 : decode cX9_init 140 = .ok (.putfield 79, 3) := by decide +kernel
theorem dX9_init_143 : decode cX9_init 143 = .ok (.aload_n 0, 1) := by decide +kernel
theorem dX9_init_144 : decode cX9_init 144 = .ok (.bipush 20, 2) := by decide +kernel
theorem dX9_init_146 : decode cX9_init 146 = .ok (.newarray .int, 2) := by decide +kernel
theorem dX9_init_148 : decode cX9_init 148 = .ok (.putfield 82, 3) := by decide +kernel
theorem dX9_init_151 : decode cX9_init 151 = .ok (.aload_n 0, 1) := by decide +kernel
theorem dX9_init_152 : decode cX9_init 152 = .ok (.bipush 20, 2) := by decide +kernel
theorem dX9_init_154 : decode cX9_init 154 = .ok (.newarray .int, 2) := by decide +kernel
theorem dX9_init_156 : decode cX9_init 156 = .ok (.putfield 85, 3) := by decide +kernel
theorem dX9_init_159 : decode cX9_init 159 = .ok (.aload_n 0, 1) := by decide +kernel
theorem dX9_init_160 : decode cX9_init 160 = .ok (.bipush 20, 2) := by decide +kernel
theorem dX9_init_162 : decode cX9_init 162 = .ok (.newarray .int, 2) := by decide +kernel
theorem dX9_init_164 : decode cX9_init 164 = .ok (.putfield 88, 3) := by decide +kernel
theorem dX9_init_167 : decode cX9_init 167 = .ok (.aload_n 0, 1) := by decide +kernel
theorem dX9_init_168 : decode cX9_init 168 = .ok (.bipush 20, 2) := by decide +kernel
theorem dX9_init_170 : decode cX9_init 170 = .ok (.newarray .int, 2) := by decide +kernel
theorem dX9_init_172 : decode cX9_init 172 = .ok (.putfield 91, 3) := by decide +kernel
theorem dX9_init_175 : decode cX9_init 175 = .ok (.aload_n 0, 1) := by decide +kernel
theorem dX9_init_176 : decode cX9_init 176 = .ok (.bipush 30, 2) := by decide +kernel
theorem dX9_init_178 : decode cX9_init 178 = .ok (.newarray .int, 2) := by decide +kernel
theorem dX9_init_180 : decode cX9_init 180 = .ok (.putfield 94, 3) := by decide +kernel
theorem dX9_init_183 : decode cX9_init 183 = .ok (.aload_n 0, 1) := by decide +kernel
theorem dX9_init_184 : decode cX9_init 184 = .ok (.bipush 30, 2) := by decide +kernel
theorem dX9_init_186 : decode cX9_init 186 = .ok (.newarray .int, 2) := by decide +kernel
theorem dX9_init_188 : decode cX9_init 188 = .ok (.putfield 97, 3) := by decide +kernel
theorem dX9_init_191 : decode cX9_init 191 = .ok (.aload_n 0, 1) := by decide +kernel
theorem dX9_init_192 : decode cX9_init 192 = .ok (.bipush 30, 2) := by decide +kernel
theorem dX9_init_194 : decode cX9_init 194 = .ok (.newarray .int, 2) := by decide +kernel
theorem dX9_init_196 : decode cX9_init 196 = .ok (.putfield 100, 3) := by decide +kernel
theorem dX9_init_199 : decode cX9_init 199 = .ok (.aload_n 0, 1) := by decide +kernel
theorem dX9_init_200 : decode cX9_init 200 = .ok (.bipush 20, 2) := by decide +kernel
theorem dX9_init_202 : decode cX9_init 202 = .ok (.newarray .int, 2) := by decide +kernel
theorem dX9_init_204 : decode cX9_init 204 = .ok (.putfield 103, 3) := by decide +kernel
theorem dX9_init_207 : decode cX9_init 207 = .ok (.aload_n 0, 1) := by decide +kernel
theorem dX9_init_208 : decode cX9_init 208 = .ok (.bipush 8, 2) := by decide +kernel
theorem dX9_init_210 : decode cX9_init 210 = .ok (.putfield 106, 3) := by decide +kernel
theorem dX9_init_213 : decode cX9_init 213 = .ok (.iconst 0, 1) := by decide +kernel
theorem dX9_init_214 : decode cX9_init 214 = .ok (.istore_n 1, 1) := by decide +kernel
theorem dX9_init_215 : decode cX9_init 215 = .ok (.iload_n 1, 1) := by decide +kernel
theorem dX9_init_216 : decode cX9_init 216 = .ok (.bipush 64, 2) := by decide +kernel
theorem dX9_init_218 : decode cX9_init 218 = .ok (.if_icmp .ge 16, 3) := by decide +kernel
theorem dX9_init_221 : decode cX9_init 221 = .ok (.aload_n 0, 1) := by decide +kernel
