theorem dX9_init_222 : decode cX9_init 222 = .ok (.getfield 37, 3) := by decide +kernel
theorem dX9_init_225 : decode cX9_init 225 = .ok (.iload_n 1, 1) := by decide +kernel
theorem dX9_init_226 : decode cX9_init 226 = .ok (.iconst 5, 1) := by decide +kernel
theorem dX9_init_227 : decode cX9_init 227 = .ok (.iastore, 1) := by decide +kernel
theorem dX9_init_228 : decode cX9_init 228 = .ok (.iinc 1 1, 3) := by decide +kernel
theorem dX9_init_231 : decode cX9_init 231 = .ok (.goto (-16), 3) := by decide +kernel
theorem dX9_init_234 : decode cX9_init 234 = .ok (.aload_n 0, 1) := by decide +kernel
theorem dX9_init_235 : decode cX9_init 235 = .ok (.getfield 34, 3) := by decide +kernel
theorem dX9_init_238 : decode cX9_init 238 = .ok (.iconst 2, 1) := by decide +kernel
theorem dX9_init_239 : decode cX9_init 239 = .ok (.iconst 5, 1) := by decide +kernel
theorem dX9_init_240 : decode cX9_init 240 = .ok (.iastore, 1) := by decide +kernel
theorem dX9_init_241 : decode cX9_init 241 = .ok (.iconst 0, 1) := by decide +kernel
theorem dX9_init_242 : decode cX9_init 242 = .ok (.istore_n 1, 1) := by decide +kernel
theorem dX9_init_243 : decode cX9_init 243 = .ok (.iload_n 1, 1) := by decide +kernel
theorem dX9_init_244 : decode cX9_init 244 = .ok (.iconst 5, 1) := by decide +kernel
theorem dX9_init_245 : decode cX9_init 245 = .ok (.if_icmp .ge 46, 3) := by decide +kernel
theorem dX9_init_248 : decode cX9_init 248 = .ok (.aload_n 0, 1) := by decide +kernel
theorem dX9_init_249 : decode cX9_init 249 = .ok (.getfield 27, 3) := by decide +kernel
theorem dX9_init_252 : decode cX9_init 252 = .ok (.bipush 96, 2) := by decide +kernel
theorem dX9_init_254 : decode cX9_init 254 = .ok (.iload_n 1, 1) := by decide +kernel
theorem dX9_init_255 : decode cX9_init 255 = .ok (.iadd, 1) := by decide +kernel
theorem dX9_init_256 : decode cX9_init 256 = .ok (.iload_n 1, 1) := by decide +kernel
theorem dX9_init_257 : decode cX9_init 257 = .ok (.iconst 4, 1) := by decide +kernel
theorem dX9_init_258 : decode cX9_init 258 = .ok (.if_icmp .ge 11, 3) := by decide +kernel
theorem dX9_init_261 : decode cX9_init 261 = .ok (.sipush 128, 3) := by decide +kernel
theorem dX9_init_264 : decode cX9_init 264 = .ok (.iload_n 1, 1) := by decide +kernel
theorem dX9_init_265 : decode cX9_init 265 = .ok (.imul, 1) := by decide +kernel
theorem dX9_init_266 : decode cX9_init 266 = .ok (.goto 6, 3) := by decide +kernel
theorem dX9_init_269 : decode cX9_init 269 = .ok (.sipush 511, 3) := by decide +kernel
theorem dX9_init_272 : decode cX9_init 272 = .ok (.iastore, 1) := by decide +kernel
theorem dX9_init_273 : decode cX9_init 273 = .ok (.aload_n 0, 1) := by decide +kernel
theorem dX9_init_274 : decode cX9_init 274 = .ok (.getfield 31, 3) := by decide +kernel
theorem dX9_init_277 : decode cX9_init 277 = .ok (.bipush 96, 2) := by decide +kernel
theorem dX9_init_279 : decode cX9_init 279 = .ok (.iload_n 1, 1) := by decide +kernel
theorem dX9_init_280 : decode cX9_init 280 = .ok (.iadd, 1) := by decide +kernel
theorem dX9_init_281 : decode cX9_init 281 = .ok (.sipush 256, 3) := by decide +kernel
theorem dX9_init_284 : decode cX9_init 284 = .ok (.iastore, 1) := by decide +kernel
theorem dX9_init_285 : decode cX9_init 285 = .ok (.iinc 1 1, 3) := by decide +kernel
theorem dX9_init_288 : decode cX9_init 288 = .ok (.goto (-45), 3) := by decide +kernel
theorem dX9_init_291 : decode cX9_init 291 = .ok (.aload_n 0, 1) := by decide +kernel
theorem dX9_init_292 : decode cX9_init 292 = .ok (.iconst 2, 1) := by decide +kernel
theorem dX9_init_293 : decode cX9_init 293 = .ok (.iconst 0, 1) := by decide +kernel
theorem dX9_init_294 : decode cX9_init 294 = .ok (.invokevirtual 109, 3) := by decide +kernel
theorem dX9_init_297 : decode cX9_init 297 = .ok (.return_, 1) := by decide +kernel
theorem dX9_copy_0 : decode cX9_copy 0 = .ok (.aload_n 0, 1) := by decide +kernel
theorem dX9_copy_1 : decode cX9_copy 1 = .ok (.getfield 34, 3) := by decide +kernel
theorem dX9_copy_4 : decode cX9_copy 4 = .ok (.iload_n 2, 1) := by decide +kernel
theorem dX9_copy_5 : decode cX9_copy 5 = .ok (.aload_n 0, 1) := by decide +kernel
theorem dX9_copy_6 : decode cX9_copy 6 = .ok (.getfield 34, 3) := by decide +kernel
theorem dX9_copy_9 : decode cX9_copy 9 = .ok (.iload_n 1, 1) := by decide +kernel
theorem dX9_copy_10 : decode cX9_copy 10 = .ok (.iaload, 1) := by decide +kernel
theorem dX9_copy_11 : decode cX9_copy 11 = .ok (.iastore, 1) := by decide +kernel
theorem dX9_copy_12 : decode cX9_copy 12 = .ok (.iconst 0, 1) := by decide +kernel
theorem dX9_copy_13 : decode cX9_copy 13 = .ok (.istore_n 3, 1) := by decide +kernel
theorem dX9_copy_14 : decode cX9_copy 14 = .ok (.iload_n 3, 1) := by decide +kernel
theorem dX9_copy_15 : decode cX9_copy 15 = .ok (.aload_n 0, 1) := by decide +kernel
theorem dX9_copy_16 : decode cX9_copy 16 = .ok (.getfield 34, 3) := by decide +kernel
theorem dX9_copy_19 : decode cX9_copy 19 = .ok (.iload_n 1, 1) := by decide +kernel
theorem dX9_copy_20 : decode cX9_copy 20 = .ok (.iaload, 1) := by decide +kernel
theorem dX9_copy_21 : decode cX9_copy 21 = .ok (.if_icmp .ge 53, 3) := by decide +kernel
theorem dX9_copy_24 : decode cX9_copy 24 = .ok (.aload_n 0, 1) := by decide +kernel
theorem dX9_copy_25 : decode cX9_copy 25 = .ok (.getfield 27, 3) := by decide +kernel
theorem dX9_copy_28 : decode cX9_copy 28 = .ok (.bipush 48, 2) := by decide +kernel
theorem dX9_copy_30 : decode cX9_copy 30 = .ok (.iload_n 2, 1) := by decide +kernel
theorem dX9_copy_31 : decode cX9_copy 31 = .ok (.imul, 1) := by decide +kernel
theorem dX9_copy_32 : decode cX9_copy 32 = .ok (.iload_n 3, 1) := by decide +kernel
theorem dX9_copy_33 : decode cX9_copy 33 = .ok (.iadd, 1) := by decide +kernel
theorem dX9_copy_34 : decode cX9_copy 34 = .ok (.aload_n 0, 1) := by decide +kernel
theorem dX9_copy_35 : decode cX9_copy 35 = .ok (.getfield 27, 3) := by decide +kernel
theorem dX9_copy_38 : decode cX9_copy 38 = .ok (.bipush 48, 2) := by decide +kernel
theorem dX9_copy_40 : decode cX9_copy 40 = .ok (.iload_n 1, 1) := by decide +kernel
theorem dX9_copy_41 : decode cX9_copy 41 = .ok (.imul, 1) := by decide +kernel
theorem dX9_copy_42 : decode cX9_copy 42 = .ok (.iload_n 3, 1) := by decide +kernel
theorem dX9_copy_43 : decode cX9_copy 43 = .ok (.iadd, 1) := by decide +kernel
theorem dX9_copy_44 : decode cX9_copy 44 = .ok (.iaload, 1) := by decide +kernel
theorem dX9_copy_45 : decode cX9_copy 45 = .ok (.iastore, 1) := by decide +kernel
theorem dX9_copy_46 : decode cX9_copy 46 = .ok (.aload_n 0, 1) := by decide +kernel
theorem dX9_copy_47 : decode cX9_copy 47 = .ok (.getfield 31, 3) := by decide +kernel
theorem dX9_copy_50 : decode cX9_copy 50 = .ok (.bipush 48, 2) := by decide +kernel
theorem dX9_copy_52 : decode cX9_copy 52 = .ok (.iload_n 2, 1) := by decide +kernel
theorem dX9_copy_53 : decode cX9_copy 53 = .ok (.imul, 1) := by decide +kernel
theorem dX9_copy_54 : decode cX9_copy 54 = .ok (.iload_n 3, 1) := by decide +kernel
theorem dX9_copy_55 : decode cX9_copy 55 = .ok (.iadd, 1) := by decide +kernel
theorem dX9_copy_56 : decode cX9_copy 56 = .ok (.aload_n 0, 1) := by decide +kernel
theorem dX9_copy_57 : decode cX9_copy 57 = .ok (.getfield 31, 3) := by decide +kernel
theorem dX9_copy_60 : decode cX9_copy 60 = .ok (.bipush 48, 2) := by decide +kernel
theorem dX9_copy_62 : decode cX9_copy 62 = .ok (.iload_n 1, 1) := by decide +kernel
theorem dX9_copy_63 : decode cX9_copy 63 = .ok (.imul, 1) := by decide +kernel
theorem dX9_copy_64 : decode cX9_copy 64 = .ok (.iload_n 3, 1) := by decide +kernel
theorem dX9_copy_65 : decode cX9_copy 65 = .ok (.iadd, 1) := by decide +kernel
theorem dX9_copy_66 : decode cX9_copy 66 = .ok (.iaload, 1) := by decide +kernel
theorem dX9_copy_67 : decode cX9_copy 67 = .ok (.iastore, 1) := by decide +kernel
theorem dX9_copy_68 : decode cX9_copy 68 = .ok (.iinc 3 1, 3) := by decide +kernel
theorem dX9_copy_71 : decode cX9_copy 71 = .ok (.goto (-57), 3) := by decide +kernel
theorem dX9_copy_74 : decode cX9_copy 74 = .ok (.return_, 1) := by decide +kernel
theorem dX9_two_0 : decode cX9_two 0 = .ok (.aload_n 0, 1) := by decide +kernel
theorem dX9_two_1 : decode cX9_two 1 = .ok (.getfield 14, 3) := by decide +kernel
theorem dX9_two_4 : decode cX9_two 4 = .ok (.iload_n 1, 1) := by decide +kernel
theorem dX9_two_5 : decode cX9_two 5 = .ok (.baload, 1) := by decide +kernel
theorem dX9_two_6 : decode cX9_two 6 = .ok (.sipush 255, 3) := by decide +kernel
theorem dX9_two_9 : decode cX9_two 9 = .ok (.iand, 1) := by decide +kernel
theorem dX9_two_10 : decode cX9_two 10 = .ok (.bipush 8, 2) := by decide +kernel
theorem dX9_two_12 : decode cX9_two 12 = .ok (.ishl, 1) := by decide +kernel
theorem dX9_two_13 : decode cX9_two 13 = .ok (.aload_n 0, 1) := by decide +kernel
theorem dX9_two_14 : decode cX9_two 14 = .ok (.getfield 14, 3) := by decide +kernel
theorem dX9_two_17 : decode cX9_two 17 = .ok (.iload_n 1, 1) := by decide +kernel
theorem dX9_two_18 : decode cX9_two 18 = .ok (.iconst 1, 1) := by decide +kernel
theorem dX9_two_19 : decode cX9_two 19 = .ok (.iadd, 1) := by decide +kernel
theorem dX9_two_20 : decode cX9_two 20 = .ok (.baload, 1) := by decide +kernel
theorem dX9_two_21 : decode cX9_two 21 = .ok (.sipush 255, 3) := by decide +kernel
theorem dX9_two_24 : decode cX9_two 24 = .ok (.iand, 1) := by decide +kernel
theorem dX9_two_25 : decode cX9_two 25 = .ok (.ior, 1) := by decide +kernel
theorem dX9_two_26 : decode cX9_two 26 = .ok (.ireturn, 1) := by decide +kernel
set_option maxRecDepth 20000 in
theorem ggX9_line_X9_taken : GoodIn wsX9_line wsX9_taken := goodIn_r _ [17, 18, 2, 32, 33, 34, 35, 36, 37, 38, 39, 40, 41, 42, 43, 44, 45, 46, 47, 48, 49, 50, 51, 52, 53, 54, 55, 56, 57, 58, 59, 60, 61, 62, 63, 64, 65, 66, 67] (by decide +kernel) (by decide +kernel)
set_option maxRecDepth 20000 in
theorem gX9_line_X9_taken : GoodIn wsX9_line (wsV RX9 113 RX9 yX9_taken wsX9_taken) := goodIn_app (goodIn_of _ (by decide +kernel)) ggX9_line_X9_taken
set_option maxRecDepth 20000 in
theorem ggX9_line_X9_two : GoodIn wsX9_line wsX9_two := goodIn_r _ [22, 23, 32, 33, 34, 35, 36, 37, 38, 39, 40, 41, 42, 43, 44, 45, 46, 47, 48, 49, 50, 51, 52, 53, 54, 55, 56, 57, 58, 59, 60, 61, 62, 63, 64, 65, 66, 67] (by decide +kernel) (by decide +kernel)
set_option maxRecDepth 20000 in
theorem gX9_line_X9_two : GoodIn wsX9_line (wsV RX9 116 RX9 yX9_two wsX9_two) := goodIn_app (goodIn_of _ (by decide +kernel)) ggX9_line_X9_two
set_option maxRecDepth 20000 in
theorem ggX9_line_X9_copy : GoodIn wsX9_line wsX9_copy := goodIn_r _ [27, 3, 4, 5, 32, 33, 34, 35, 36, 37, 38, 39, 40, 41, 42, 43, 44, 45, 46, 47, 48, 49, 50, 51, 52, 53, 54, 55, 56, 57, 58, 59, 60, 61, 62, 63, 64, 65, 66, 67] (by decide +kernel) (by decide +kernel)
set_option maxRecDepth 20000 in
theorem gX9_line_X9_copy : GoodIn wsX9_line (wsV RX9 109 RX9 yX9_copy wsX9_copy) := goodIn_app (goodIn_of _ (by decide +kernel)) ggX9_line_X9_copy
set_option maxRecDepth 20000 in
theorem ggX9_line_X9_sideOf : GoodIn wsX9_line wsX9_sideOf := goodIn_r _ [31, 3, 4, 5, 32, 33, 34, 35, 36, 37, 38, 39, 40, 41, 42, 43, 44, 45, 46, 47, 48, 49, 50, 51, 52, 53, 54, 55, 56, 57, 58, 59, 60, 61, 62, 63, 64, 65, 66, 67] (by decide +kernel) (by decide +kernel)
set_option maxRecDepth 20000 in
theorem gX9_line_X9_sideOf : GoodIn wsX9_line (wsV RX9 129 RX9 yX9_sideOf wsX9_sideOf) := goodIn_app (goodIn_of _ (by decide +kernel)) ggX9_line_X9_sideOf
theorem dX9_line_0 : decode cX9_line 0 = .ok (.aload_n 0, 1) := by decide +kernel
theorem dX9_line_1 : decode cX9_line 1 = .ok (.iconst 0, 1) := by decide +kernel
theorem dX9_line_2 : decode cX9_line 2 = .ok (.putfield 1, 3) := by decide +kernel
theorem dX9_line_5 : decode cX9_line 5 = .ok (.aload_n 0, 1) := by decide +kernel
theorem dX9_line_6 : decode cX9_line 6 = .ok (.invokevirtual 113, 3) := by decide +kernel
theorem dX9_line_9 : decode cX9_line 9 = .ok (.aload_n 0, 1) := by decide +kernel
theorem dX9_line_10 : decode cX9_line 10 = .ok (.getfield 18, 3) := by decide +kernel
theorem dX9_line_13 : decode cX9_line 13 = .ok (.iconst 4, 1) := by decide +kernel
theorem dX9_line_14 : decode cX9_line 14 = .ok (.irem, 1) := by decide +kernel
theorem dX9_line_15 : decode cX9_line 15 = .ok (.ifCond .ne 22, 3) := by decide +kernel
theorem dX9_line_18 : decode cX9_line 18 = .ok (.aload_n 0, 1) := by decide +kernel
theorem dX9_line_19 : decode cX9_line 19 = .ok (.getfield 18, 3) := by decide +kernel
theorem dX9_line_22 : decode cX9_line 22 = .ok (.bipush 16, 2) := by decide +kernel
theorem dX9_line_24 : decode cX9_line 24 = .ok (.if_icmp .lt 13, 3) := by decide +kernel
theorem dX9_line_27 : decode cX9_line 27 = .ok (.aload_n 0, 1) := by decide +kernel
theorem dX9_line_28 : decode cX9_line 28 = .ok (.getfield 18, 3) := by decide +kernel
theorem dX9_line_31 : decode cX9_line 31 = .ok (.sipush 192, 3) := by decide +kernel
theorem dX9_line_34 : decode cX9_line 34 = .ok (.if_icmp .le 5, 3) := by decide +kernel
theorem dX9_line_37 : decode cX9_line 37 = .ok (.iconst 0, 1) := by decide +kernel
theorem dX9_line_38 : decode cX9_line 38 = .ok (.ireturn, 1) := by decide +kernel
theorem dX9_line_39 : decode cX9_line 39 = .ok (.iconst 0, 1) := by decide +kernel
theorem dX9_line_40 : decode cX9_line 40 = .ok (.istore_n 1, 1) := by decide +kernel
theorem dX9_line_41 : decode cX9_line 41 = .ok (.iload_n 1, 1) := by decide +kernel
theorem dX9_line_42 : decode cX9_line 42 = .ok (.aload_n 0, 1) := by decide +kernel
theorem dX9_line_43 : decode cX9_line 43 = .ok (.getfield 18, 3) := by decide +kernel
theorem dX9_line_46 : decode cX9_line 46 = .ok (.if_icmp .ge 22, 3) := by decide +kernel
theorem dX9_line_49 : decode cX9_line 49 = .ok (.aload_n 0, 1) := by decide +kernel
theorem dX9_line_50 : decode cX9_line 50 = .ok (.iload_n 1, 1) := by decide +kernel
theorem dX9_line_51 : decode cX9_line 51 = .ok (.invokevirtual 116, 3) := by decide +kernel
theorem dX9_line_54 : decode cX9_line 54 = .ok (.sipush 511, 3) := by decide +kernel
theorem dX9_line_57 : decode cX9_line 57 = .ok (.if_icmp .le 5, 3) := by decide +kernel
theorem dX9_line_60 : decode cX9_line 60 = .ok (.iconst 0, 1) := by decide +kernel
theorem dX9_line_61 : decode cX9_line 61 = .ok (.ireturn, 1) := by decide +kernel
theorem dX9_line_62 : decode cX9_line 62 = .ok (.iinc 1 2, 3) := by decide +kernel
theorem dX9_line_65 : decode cX9_line 65 = .ok (.goto (-24), 3) := by decide +kernel
theorem dX9_line_68 : decode cX9_line 68 = .ok (.aload_n 0, 1) := by decide +kernel
theorem dX9_line_69 : decode cX9_line 69 = .ok (.getfield 34, 3) := by decide +kernel
theorem dX9_line_72 : decode cX9_line 72 = .ok (.iconst 2, 1) := by decide +kernel
theorem dX9_line_73 : decode cX9_line 73 = .ok (.aload_n 0, 1) := by decide +kernel
theorem dX9_line_74 : decode cX9_line 74 = .ok (.getfield 18, 3) := by decide +kernel
theorem dX9_line_77 : decode cX9_line 77 = .ok (.iconst 4, 1) := by decide +kernel
theorem dX9_line_78 : decode cX9_line 78 = .ok (.idiv, 1) := by decide +kernel
theorem dX9_line_79 : decode cX9_line 79 = .ok (.iastore, 1) := by decide +kernel
theorem dX9_line_80 : decode cX9_line 80 = .ok (.iconst 0, 1) := by decide +kernel
theorem dX9_line_81 : decode cX9_line 81 = .ok (.istore_n 1, 1) := by decide +kernel
theorem dX9_line_82 : decode cX9_line 82 = .ok (.iload_n 1, 1) := by decide +kernel
theorem dX9_line_83 : decode cX9_line 83 = .ok (.aload_n 0, 1) := by decide +kernel
theorem dX9_line_84 : decode cX9_line 84 = .ok (.getfield 18, 3) := by decide +kernel
theorem dX9_line_87 : decode cX9_line 87 = .ok (.iconst 4, 1) := by decide +kernel
theorem dX9_line_88 : decode cX9_line 88 = .ok (.idiv, 1) := by decide +kernel
theorem dX9_line_89 : decode cX9_line 89 = .ok (.if_icmp .ge 43, 3) := by decide +kernel
theorem dX9_line_92 : decode cX9_line 92 = .ok (.aload_n 0, 1) := by decide +kernel
theorem dX9_line_93 : decode cX9_line 93 = .ok (.getfield 27, 3) := by decide +kernel
theorem dX9_line_96 : decode cX9_line 96 = .ok (.bipush 96, 2) := by decide +kernel
theorem dX9_line_98 : decode cX9_line 98 = .ok (.iload_n 1, 1) := by decide +kernel
theorem dX9_line_99 : decode cX9_line 99 = .ok (.iadd, 1) := by decide +kernel
theorem dX9_line_100 : decode cX9_line 100 = .ok (.aload_n 0, 1) := by decide +kernel
theorem dX9_line_101 : decode cX9_line 101 = .ok (.iconst 4, 1) := by decide +kernel
theorem dX9_line_102 : decode cX9_line 102 = .ok (.iload_n 1, 1) := by decide +kernel
theorem dX9_line_103 : decode cX9_line 103 = .ok (.imul, 1) := by decide +kernel
theorem dX9_line_104 : decode cX9_line 104 = .ok (.invokevirtual 116, 3) := by decide +kernel
theorem dX9_line_107 : decode cX9_line 107 = .ok (.iastore, 1) := by decide +kernel
theorem dX9_line_108 : decode cX9_line 108 = .ok (.aload_n 0, 1) := by decide +kernel
theorem dX9_line_109 : decode cX9_line 109 = .ok (.getfield 31, 3) := by decide +kernel
theorem dX9_line_112 : decode cX9_line 112 = .ok (.bipush 96, 2) := by decide +kernel
theorem dX9_line_114 : decode cX9_line 114 = .ok (.iload_n 1, 1) := by decide +kernel
theorem dX9_line_115 : decode cX9_line 115 = .ok (.iadd, 1) := by decide +kernel
theorem dX9_line_116 : decode cX9_line 116 = .ok (.aload_n 0, 1) := by decide +kernel
theorem dX9_line_117 : decode cX9_line 117 = .ok (.iconst 4, 1) := by decide +kernel
theorem dX9_line_118 : decode cX9_line 118 = .ok (.iload_n 1, 1) := by decide +kernel
theorem dX9_line_119 : decode cX9_line 119 = .ok (.imul, 1) := by decide +kernel
theorem dX9_line_120 : decode cX9_line 120 = .ok (.iconst 2, 1) := by decide +kernel
theorem dX9_line_121 : decode cX9_line 121 = .ok (.iadd, 1) := by decide +kernel
theorem dX9_line_122 : decode cX9_line 122 = .ok (.invokevirtual 116, 3) := by decide +kernel
theorem dX9_line_125 : decode cX9_line 125 = .ok (.iastore, 1) := by decide +kernel
theorem dX9_line_126 : decode cX9_line 126 = .ok (.iinc 1 1, 3) := by decide +kernel
theorem dX9_line_129 : decode cX9_line 129 = .ok (.goto (-47), 3) := by decide +kernel
theorem dX9_line_132 : decode cX9_line 132 = .ok (.aload_n 0, 1) := by decide +kernel
theorem dX9_line_133 : decode cX9_line 133 = .ok (.iconst 2, 1) := by decide +kernel
theorem dX9_line_134 : decode cX9_line 134 = .ok (.iconst 0, 1) := by decide +kernel
theorem dX9_line_135 : decode cX9_line 135 = .ok (.invokevirtual 109, 3) := by decide +kernel
theorem dX9_line_138 : decode cX9_line 138 = .ok (.aload_n 0, 1) := by decide +kernel
theorem dX9_line_139 : decode cX9_line 139 = .ok (.iconst 0, 1) := by decide +kernel
theorem dX9_line_140 : decode cX9_line 140 = .ok (.putfield 120, 3) := by decide +kernel
theorem dX9_line_143 : decode cX9_line 143 = .ok (.aload_n 0, 1) := by decide +kernel
theorem dX9_line_144 : decode cX9_line 144 = .ok (.iconst 0, 1) := by decide +kernel
theorem dX9_line_145 : decode cX9_line 145 = .ok (.putfield 123, 3) := by decide +kernel
theorem dX9_line_148 : decode cX9_line 148 = .ok (.iconst 0, 1) := by decide +kernel
theorem dX9_line_149 : decode cX9_line 149 = .ok (.istore_n 1, 1) := by decide +kernel
theorem dX9_line_150 : decode cX9_line 150 = .ok (.iload_n 1, 1) := by decide +kernel
theorem dX9_line_151 : decode cX9_line 151 = .ok (.aload_n 0, 1) := by decide +kernel
theorem dX9_line_152 : decode cX9_line 152 = .ok (.getfield 126, 3) := by decide +kernel
theorem dX9_line_155 : decode cX9_line 155 = .ok (.if_icmp .ge 39, 3) := by decide +kernel
theorem dX9_line_158 : decode cX9_line 158 = .ok (.aload_n 0, 1) := by decide +kernel
theorem dX9_line_159 : decode cX9_line 159 = .ok (.getfield 85, 3) := by decide +kernel
theorem dX9_line_162 : decode cX9_line 162 = .ok (.iload_n 1, 1) := by decide +kernel
theorem dX9_line_163 : decode cX9_line 163 = .ok (.aload_n 0, 1) := by decide +kernel
theorem dX9_line_164 : decode cX9_line 164 = .ok (.iconst 0, 1) := by decide +kernel
theorem dX9_line_165 : decode cX9_line 165 = .ok (.aload_n 0, 1) := by decide +kernel
theorem dX9_line_166 : decode cX9_line 166 = .ok (.getfield 79, 3) := by decide +kernel
theorem dX9_line_169 : decode cX9_line 169 = .ok (.iload_n 1, 1) := by decide +kernel
theorem dX9_line_170 : decode cX9_line 170 = .ok (.iaload, 1) := by decide +kernel
theorem dX9_line_171 : decode cX9_line 171 = .ok (.aload_n 0, 1) := by decide +kernel
theorem dX9_line_172 : decode cX9_line 172 = .ok (.getfield 82, 3) := by decide +kernel
theorem dX9_line_175 : decode cX9_line 175 = .ok (.iload_n 1, 1) := by decide +kernel
theorem dX9_line_176 : decode cX9_line 176 = .ok (.iaload, 1) := by decide +kernel
theorem dX9_line_177 : decode cX9_line 177 = .ok (.invokevirtual 129, 3) := by decide +kernel
theorem dX9_line_180 : decode cX9_line 180 = .ok (.iastore, 1) := by decide +kernel
theorem dX9_line_181 : decode cX9_line 181 = .ok (.aload_n 0, 1) := by decide +kernel
theorem dX9_line_182 : decode cX9_line 182 = .ok (.getfield 88, 3) := by decide +kernel
theorem dX9_line_185 : decode cX9_line 185 = .ok (.iload_n 1, 1) := by decide +kernel
theorem dX9_line_186 : decode cX9_line 186 = .ok (.iconst 0, 1) := by decide +kernel
theorem dX9_line_187 : decode cX9_line 187 = .ok (.iastore, 1) := by decide +kernel
theorem dX9_line_188 : decode cX9_line 188 = .ok (.iinc 1 1, 3) := by decide +kernel
theorem dX9_line_191 : decode cX9_line 191 = .ok (.goto (-41), 3) := by decide +kernel
theorem dX9_line_194 : decode cX9_line 194 = .ok (.iconst 1, 1) := by decide +kernel
theorem dX9_line_195 : decode cX9_line 195 = .ok (.ireturn, 1) := by decide +kernel
set_option maxRecDepth 20000 in
theorem ggX9_banks_X9_taken : GoodIn wsX9_banks wsX9_taken := goodIn_r _ [9, 10, 2, 14, 15, 16, 17, 18, 19, 20, 21, 22, 23, 24, 25, 26, 27, 28, 29, 30, 31, 32, 33, 34, 35, 36, 37, 38, 39, 40, 41, 42, 43, 44, 45, 46, 47, 48, 49] (by decide +kernel) (by decide +kernel)
set_option maxRecDepth 20000 in
theorem gX9_banks_X9_taken : GoodIn wsX9_banks (wsV RX9 113 RX9 yX9_taken wsX9_taken) := goodIn_app (goodIn_of _ (by decide +kernel)) ggX9_banks_X9_taken
set_option maxRecDepth 20000 in
theorem ggX9_banks_X9_isIn : GoodIn wsX9_banks wsX9_isIn := goodIn_r _ [13] (by decide +kernel) (by decide +kernel)
set_option maxRecDepth 20000 in
theorem gX9_banks_X9_isIn : GoodIn wsX9_banks (va_wsS RX9 133 yX9_isIn wsX9_isIn) := goodIn_app (goodIn_of _ (by decide +kernel)) ggX9_banks_X9_isIn
theorem dX9_banks_0 : decode cX9_banks 0 = .ok (.aload_n 0, 1) := by decide +kernel
theorem dX9_banks_1 : decode cX9_banks 1 = .ok (.iconst 0, 1) := by decide +kernel
theorem dX9_banks_2 : decode cX9_banks 2 = .ok (.putfield 1, 3) := by decide +kernel
theorem dX9_banks_5 : decode cX9_banks 5 = .ok (.aload_n 0, 1) := by decide +kernel
theorem dX9_banks_6 : decode cX9_banks 6 = .ok (.invokevirtual 113, 3) := by decide +kernel
theorem dX9_banks_9 : decode cX9_banks 9 = .ok (.aload_n 0, 1) := by decide +kernel
theorem dX9_banks_10 : decode cX9_banks 10 = .ok (.getfield 18, 3) := by decide +kernel
theorem dX9_banks_13 : decode cX9_banks 13 = .ok (.bipush 64, 2) := by decide +kernel
theorem dX9_banks_15 : decode cX9_banks 15 = .ok (.if_icmp .eq 5, 3) := by decide +kernel
theorem dX9_banks_18 : decode cX9_banks 18 = .ok (.iconst 0, 1) := by decide +kernel
theorem dX9_banks_19 : decode cX9_banks 19 = .ok (.ireturn, 1) := by decide +kernel
theorem dX9_banks_20 : decode cX9_banks 20 = .ok (.iconst 0, 1) := by decide +kernel
theorem dX9_banks_21 : decode cX9_banks 21 = .ok (.istore_n 1, 1) := by decide +kernel
theorem dX9_banks_22 : decode cX9_banks 22 = .ok (.iload_n 1, 1) := by decide +kernel
theorem dX9_banks_23 : decode cX9_banks 23 = .ok (.bipush 64, 2) := by decide +kernel
theorem dX9_banks_25 : decode cX9_banks 25 = .ok (.if_icmp .ge 26, 3) := by decide +kernel
theorem dX9_banks_28 : decode cX9_banks 28 = .ok (.aload_n 0, 1) := by decide +kernel
theorem dX9_banks_29 : decode cX9_banks 29 = .ok (.getfield 14, 3) := by decide +kernel
theorem dX9_banks_32 : decode cX9_banks 32 = .ok (.iload_n 1, 1) := by decide +kernel
theorem dX9_banks_33 : decode cX9_banks 33 = .ok (.baload, 1) := by decide +kernel
theorem dX9_banks_34 : decode cX9_banks 34 = .ok (.iconst 0, 1) := by decide +kernel
theorem dX9_banks_35 : decode cX9_banks 35 = .ok (.bipush 9, 2) := by decide +kernel
theorem dX9_banks_37 : decode cX9_banks 37 = .ok (.invokestatic 133, 3) := by decide +kernel
theorem dX9_banks_40 : decode cX9_banks 40 = .ok (.ifCond .ne 5, 3) := by decide +kernel
theorem dX9_banks_43 : decode cX9_banks 43 = .ok (.iconst 0, 1) := by decide +kernel
theorem dX9_banks_44 : decode cX9_banks 44 = .ok (.ireturn, 1) := by decide +kernel
theorem dX9_banks_45 : decode cX9_banks 45 = .ok (.iinc 1 1, 3) := by decide +kernel
theorem dX9_banks_48 : decode cX9_banks 48 = .ok (.goto (-26), 3) := by decide +kernel
theorem dX9_banks_51 : decode cX9_banks 51 = .ok (.iconst 0, 1) := by decide +kernel
theorem dX9_banks_52 : decode cX9_banks 52 = .ok (.istore_n 1, 1) := by decide +kernel
theorem dX9_banks_53 : decode cX9_banks 53 = .ok (.iload_n 1, 1) := by decide +kernel
theorem dX9_banks_54 : decode cX9_banks 54 = .ok (.bipush 64, 2) := by decide +kernel
theorem dX9_banks_56 : decode cX9_banks 56 = .ok (.if_icmp .ge 21, 3) := by decide +kernel
theorem dX9_banks_59 : decode cX9_banks 59 = .ok (.aload_n 0, 1) := by decide +kernel
theorem dX9_banks_60 : decode cX9_banks 60 = .ok (.getfield 37, 3) := by decide +kernel
theorem dX9_banks_63 : decode cX9_banks 63 = .ok (.iload_n 1, 1) := by decide +kernel
theorem dX9_banks_64 : decode cX9_banks 64 = .ok (.aload_n 0, 1) := by decide +kernel
theorem dX9_banks_65 : decode cX9_banks 65 = .ok (.getfield 14, 3) := by decide +kernel
theorem dX9_banks_68 : decode cX9_banks 68 = .ok (.iload_n 1, 1) := by decide +kernel
theorem dX9_banks_69 : decode cX9_banks 69 = .ok (.baload, 1) := by decide +kernel
theorem dX9_banks_70 : decode cX9_banks 70 = .ok (.iastore, 1) := by decide +kernel
theorem dX9_banks_71 : decode cX9_banks 71 = .ok (.iinc 1 1, 3) := by decide +kernel
theorem dX9_banks_74 : decode cX9_banks 74 = .ok (.goto (-21), 3) := by decide +kernel
theorem dX9_banks_77 : decode cX9_banks 77 = .ok (.iconst 1, 1) := by decide +kernel
theorem dX9_banks_78 : decode cX9_banks 78 = .ok (.ireturn, 1) := by decide +kernel
set_option maxRecDepth 20000 in
theorem ggX9_set_X9_isIn : GoodIn wsX9_set wsX9_isIn := goodIn_r _ [11] (by decide +kernel) (by decide +kernel)
set_option maxRecDepth 20000 in
theorem gX9_set_X9_isIn : GoodIn wsX9_set (va_wsS RX9 133 yX9_isIn wsX9_isIn) := goodIn_app (goodIn_of _ (by decide +kernel)) ggX9_set_X9_isIn
theorem dX9_set_0 : decode cX9_set 0 = .ok (.aload_n 0, 1) := by decide +kernel
theorem dX9_set_1 : decode cX9_set 1 = .ok (.iconst 0, 1) := by decide +kernel
theorem dX9_set_2 : decode cX9_set 2 = .ok (.putfield 1, 3) := by decide +kernel
theorem dX9_set_5 : decode cX9_set 5 = .ok (.iload_n 1, 1) := by decide +kernel
theorem dX9_set_6 : decode cX9_set 6 = .ok (.iconst 0, 1) := by decide +kernel
theorem dX9_set_7 : decode cX9_set 7 = .ok (.sipush 200, 3) := by decide +kernel
theorem dX9_set_10 : decode cX9_set 10 = .ok (.invokestatic 133, 3) := by decide +kernel
theorem dX9_set_13 : decode cX9_set 13 = .ok (.ifCond .eq 57, 3) := by decide +kernel
theorem dX9_set_16 : decode cX9_set 16 = .ok (.iload_n 2, 1) := by decide +kernel
theorem dX9_set_17 : decode cX9_set 17 = .ok (.iconst 0, 1) := by decide +kernel
theorem dX9_set_18 : decode cX9_set 18 = .ok (.bipush 9, 2) := by decide +kernel
theorem dX9_set_20 : decode cX9_set 20 = .ok (.invokestatic 133, 3) := by decide +kernel
theorem dX9_set_23 : decode cX9_set 23 = .ok (.ifCond .eq 47, 3) := by decide +kernel
theorem dX9_set_26 : decode cX9_set 26 = .ok (.iload_n 3, 1) := by decide +kernel
theorem dX9_set_27 : decode cX9_set 27 = .ok (.iconst 0, 1) := by decide +kernel
theorem dX9_set_28 : decode cX9_set 28 = .ok (.bipush 9, 2) := by decide +kernel
theorem dX9_set_30 : decode cX9_set 30 = .ok (.invokestatic 133, 3) := by decide +kernel
theorem dX9_set_33 : decode cX9_set 33 = .ok (.ifCond .eq 37, 3) := by decide +kernel
theorem dX9_set_36 : decode cX9_set 36 = .ok (.iload 4, 2) := by decide +kernel
theorem dX9_set_38 : decode cX9_set 38 = .ok (.iconst 0, 1) := by decide +kernel
theorem dX9_set_39 : decode cX9_set 39 = .ok (.bipush 9, 2) := by decide +kernel
theorem dX9_set_41 : decode cX9_set 41 = .ok (.invokestatic 133, 3) := by decide +kernel
theorem dX9_set_44 : decode cX9_set 44 = .ok (.ifCond .eq 26, 3) := by decide +kernel
theorem dX9_set_47 : decode cX9_set 47 = .ok (.iload 5, 2) := by decide +kernel
theorem dX9_set_49 : decode cX9_set 49 = .ok (.bipush 8, 2) := by decide +kernel
theorem dX9_set_51 : decode cX9_set 51 = .ok (.bipush 64, 2) := by decide +kernel
theorem dX9_set_53 : decode cX9_set 53 = .ok (.invokestatic 133, 3) := by decide +kernel
theorem dX9_set_56 : decode cX9_set 56 = .ok (.ifCond .eq 14, 3) := by decide +kernel
theorem dX9_set_59 : decode cX9_set 59 = .ok (.iload 6, 2) := by decide +kernel
theorem dX9_set_61 : decode cX9_set 61 = .ok (.iconst 1, 1) := by decide +kernel
theorem dX9_set_62 : decode cX9_set 62 = .ok (.bipush 32, 2) := by decide +kernel
theorem dX9_set_64 : decode cX9_set 64 = .ok (.invokestatic 133, 3) := by decide +kernel
theorem dX9_set_67 : decode cX9_set 67 = .ok (.ifCond .ne 5, 3) := by decide +kernel
theorem dX9_set_70 : decode cX9_set 70 = .ok (.iconst 0, 1) := by decide +kernel
theorem dX9_set_71 : decode cX9_set 71 = .ok (.ireturn, 1) := by decide +kernel
theorem dX9_set_72 : decode cX9_set 72 = .ok (.aload_n 0, 1) := by decide +kernel
theorem dX9_set_73 : decode cX9_set 73 = .ok (.iload_n 1, 1) := by decide +kernel
theorem dX9_set_74 : decode cX9_set 74 = .ok (.putfield 40, 3) := by decide +kernel
theorem dX9_set_77 : decode cX9_set 77 = .ok (.aload_n 0, 1) := by decide +kernel
theorem dX9_set_78 : decode cX9_set 78 = .ok (.iload_n 2, 1) := by decide +kernel
theorem dX9_set_79 : decode cX9_set 79 = .ok (.putfield 43, 3) := by decide +kernel
theorem dX9_set_82 : decode cX9_set 82 = .ok (.aload_n 0, 1) := by decide +kernel
theorem dX9_set_83 : decode cX9_set 83 = .ok (.iload_n 3, 1) := by decide +kernel
theorem dX9_set_84 : decode cX9_set 84 = .ok (.putfield 46, 3) := by decide +kernel
theorem dX9_set_87 : decode cX9_set 87 = .ok (.aload_n 0, 1) := by decide +kernel
theorem dX9_set_88 : decode cX9_set 88 = .ok (.iload 4, 2) := by decide +kernel
theorem dX9_set_90 : decode cX9_set 90 = .ok (.putfield 49, 3) := by decide +kernel
theorem dX9_set_93 : decode cX9_set 93 = .ok (.aload_n 0, 1) := by decide +kernel
theorem dX9_set_94 : decode cX9_set 94 = .ok (.iload 5, 2) := by decide +kernel
theorem dX9_set_96 : decode cX9_set 96 = .ok (.putfield 52, 3) := by decide +kernel
theorem dX9_set_99 : decode cX9_set 99 = .ok (.aload_n 0, 1) := by decide +kernel
theorem dX9_set_100 : decode cX9_set 100 = .ok (.iload 6, 2) := by decide +kernel
theorem dX9_set_102 : decode cX9_set 102 = .ok (.putfield 55, 3) := by decide +kernel
theorem dX9_set_105 : decode cX9_set 105 = .ok (.iconst 1, 1) := by decide +kernel
theorem dX9_set_106 : decode cX9_set 106 = .ok (.ireturn, 1) := by decide +kernel
theorem dX9_bend_0 : decode cX9_bend 0 = .ok (.iload_n 2, 1) := by decide +kernel
theorem dX9_bend_1 : decode cX9_bend 1 = .ok (.iconst 1, 1) := by decide +kernel
theorem dX9_bend_2 : decode cX9_bend 2 = .ok (.if_icmp .lt 15, 3) := by decide +kernel
theorem dX9_bend_5 : decode cX9_bend 5 = .ok (.iload_n 2, 1) := by decide +kernel
theorem dX9_bend_6 : decode cX9_bend 6 = .ok (.aload_n 0, 1) := by decide +kernel
theorem dX9_bend_7 : decode cX9_bend 7 = .ok (.getfield 34, 3) := by decide +kernel
theorem dX9_bend_10 : decode cX9_bend 10 = .ok (.iload_n 1, 1) := by decide +kernel
theorem dX9_bend_11 : decode cX9_bend 11 = .ok (.iaload, 1) := by decide +kernel
theorem dX9_bend_12 : decode cX9_bend 12 = .ok (.iconst 1, 1) := by decide +kernel
theorem dX9_bend_13 : decode cX9_bend 13 = .ok (.isub, 1) := by decide +kernel
theorem dX9_bend_14 : decode cX9_bend 14 = .ok (.if_icmp .lt 5, 3) := by decide +kernel
theorem dX9_bend_17 : decode cX9_bend 17 = .ok (.iconst 0, 1) := by decide +kernel
theorem dX9_bend_18 : decode cX9_bend 18 = .ok (.ireturn, 1) := by decide +kernel
theorem dX9_bend_19 : decode cX9_bend 19 = .ok (.bipush 48, 2) := by decide +kernel
theorem dX9_bend_21 : decode cX9_bend 21 = .ok (.iload_n 1, 1) := by decide +kernel
theorem dX9_bend_22 : decode cX9_bend 22 = .ok (.imul, 1) := by decide +kernel
theorem dX9_bend_23 : decode cX9_bend 23 = .ok (.iload_n 2, 1) := by decide +kernel
theorem dX9_bend_24 : decode cX9_bend 24 = .ok (.iadd, 1) := by decide +kernel
theorem dX9_bend_25 : decode cX9_bend 25 = .ok (.istore 4, 2) := by decide +kernel
theorem dX9_bend_27 : decode cX9_bend 27 = .ok (.iload_n 3, 1) := by decide +kernel
theorem dX9_bend_28 : decode cX9_bend 28 = .ok (.ifCond .eq 35, 3) := by decide +kernel
theorem dX9_bend_31 : decode cX9_bend 31 = .ok (.aload_n 0, 1) := by decide +kernel
theorem dX9_bend_32 : decode cX9_bend 32 = .ok (.getfield 27, 3) := by decide +kernel
theorem dX9_bend_35 : decode cX9_bend 35 = .ok (.iload 4, 2) := by decide +kernel
theorem dX9_bend_37 : decode cX9_bend 37 = .ok (.iconst 1, 1) := by decide +kernel
theorem dX9_bend_38 : decode cX9_bend 38 = .ok (.isub, 1) := by decide +kernel
theorem dX9_bend_39 : decode cX9_bend 39 = .ok (.iaload, 1) := by decide +kernel
theorem dX9_bend_40 : decode cX9_bend 40 = .ok (.aload_n 0, 1) := by decide +kernel
theorem dX9_bend_41 : decode cX9_bend 41 = .ok (.getfield 27, 3) := by decide +kernel
theorem dX9_bend_44 : decode cX9_bend 44 = .ok (.iload 4, 2) := by decide +kernel
theorem dX9_bend_46 : decode cX9_bend 46 = .ok (.iconst 1, 1) := by decide +kernel
theorem dX9_bend_47 : decode cX9_bend 47 = .ok (.iadd, 1) := by decide +kernel
theorem dX9_bend_48 : decode cX9_bend 48 = .ok (.iaload, 1) := by decide +kernel
theorem dX9_bend_49 : decode cX9_bend 49 = .ok (.iadd, 1) := by decide +kernel
theorem dX9_bend_50 : decode cX9_bend 50 = .ok (.iconst 2, 1) := by decide +kernel
theorem dX9_bend_51 : decode cX9_bend 51 = .ok (.aload_n 0, 1) := by decide +kernel
theorem dX9_bend_52 : decode cX9_bend 52 = .ok (.getfield 27, 3) := by decide +kernel
theorem dX9_bend_55 : decode cX9_bend 55 = .ok (.iload 4, 2) := by decide +kernel
theorem dX9_bend_57 : decode cX9_bend 57 = .ok (.iaload, 1) := by decide +kernel
theorem dX9_bend_58 : decode cX9_bend 58 = .ok (.imul, 1) := by decide +kernel
theorem dX9_bend_59 : decode cX9_bend 59 = .ok (.isub, 1) := by decide +kernel
theorem dX9_bend_60 : decode cX9_bend 60 = .ok (.goto 32, 3) := by decide +kernel
theorem dX9_bend_63 : decode cX9_bend 63 = .ok (.aload_n 0, 1) := by decide +kernel
theorem dX9_bend_64 : decode cX9_bend 64 = .ok (.getfield 31, 3) := by decide +kernel
theorem dX9_bend_67 : decode cX9_bend 67 = .ok (.iload 4, 2) := by decide +kernel
theorem dX9_bend_69 : decode cX9_bend 69 = .ok (.iconst 1, 1) := by decide +kernel
theorem dX9_bend_70 : decode cX9_bend 70 = .ok (.isub, 1) := by decide +kernel
theorem dX9_bend_71 : decode cX9_bend 71 = .ok (.iaload, 1) := by decide +kernel
theorem dX9_bend_72 : decode cX9_bend 72 = .ok (.aload_n 0, 1) := by decide +kernel
theorem dX9_bend_73 : decode cX9_bend 73 = .ok (.getfield 31, 3) := by decide +kernel
theorem dX9_bend_76 : decode cX9_bend 76 = .ok (.iload 4, 2) := by decide +kernel
theorem dX9_bend_78 : decode cX9_bend 78 = .ok (.iconst 1, 1) := by decide +kernel
theorem dX9_bend_79 : decode cX9_bend 79 = .ok (.iadd, 1) := by decide +kernel
theorem dX9_bend_80 : decode cX9_bend 80 = .ok (.iaload, 1) := by decide +kernel
theorem dX9_bend_81 : decode cX9_bend 81 = .ok (.iadd, 1) := by decide +kernel
theorem dX9_bend_82 : decode cX9_bend 82 = .ok (.iconst 2, 1) := by decide +kernel
theorem dX9_bend_83 : decode cX9_bend 83 = .ok (.aload_n 0, 1) := by decide +kernel
theorem dX9_bend_84 : decode cX9_bend 84 = .ok (.getfield 31, 3) := by decide +kernel
theorem dX9_bend_87 : decode cX9_bend 87 = .ok (.iload 4, 2) := by decide +kernel
theorem dX9_bend_89 : decode cX9_bend 89 = .ok (.iaload, 1) := by decide +kernel
theorem dX9_bend_90 : decode cX9_bend 90 = .ok (.imul, 1) := by decide +kernel
theorem dX9_bend_91 : decode cX9_bend 91 = .ok (.isub, 1) := by decide +kernel
theorem dX9_bend_92 : decode cX9_bend 92 = .ok (.ireturn, 1) := by decide +kernel
set_option maxRecDepth 20000 in
theorem ggX9_moved_X9_bend : GoodIn wsX9_moved wsX9_bend := goodIn_r _ [11, 12, 6, 5, 13, 14, 15, 16, 17, 18, 19, 20, 21, 22, 23, 24, 25, 26, 27, 28, 29, 30, 31, 32, 33, 34, 35, 36, 37, 38, 39, 40, 41, 42, 43, 44, 45, 46, 47, 48] (by decide +kernel) (by decide +kernel)
set_option maxRecDepth 20000 in
theorem gX9_moved_X9_bend : GoodIn wsX9_moved (wsV RX9 137 RX9 yX9_bend wsX9_bend) := goodIn_app (goodIn_of _ (by decide +kernel)) ggX9_moved_X9_bend
theorem dX9_moved_0 : decode cX9_moved 0 = .ok (.bipush 48, 2) := by decide +kernel
theorem dX9_moved_2 : decode cX9_moved 2 = .ok (.iload_n 1, 1) := by decide +kernel
theorem dX9_moved_3 : decode cX9_moved 3 = .ok (.imul, 1) := by decide +kernel
theorem dX9_moved_4 : decode cX9_moved 4 = .ok (.iload_n 2, 1) := by decide +kernel
theorem dX9_moved_5 : decode cX9_moved 5 = .ok (.iadd, 1) := by decide +kernel
theorem dX9_moved_6 : decode cX9_moved 6 = .ok (.istore 5, 2) := by decide +kernel
theorem dX9_moved_8 : decode cX9_moved 8 = .ok (.aload_n 0, 1) := by decide +kernel
theorem dX9_moved_9 : decode cX9_moved 9 = .ok (.getfield 43, 3) := by decide +kernel
theorem dX9_moved_12 : decode cX9_moved 12 = .ok (.aload_n 0, 1) := by decide +kernel
theorem dX9_moved_13 : decode cX9_moved 13 = .ok (.iload_n 1, 1) := by decide +kernel
theorem dX9_moved_14 : decode cX9_moved 14 = .ok (.iload_n 2, 1) := by decide +kernel
theorem dX9_moved_15 : decode cX9_moved 15 = .ok (.iload 4, 2) := by decide +kernel
theorem dX9_moved_17 : decode cX9_moved 17 = .ok (.invokevirtual 137, 3) := by decide +kernel
theorem dX9_moved_20 : decode cX9_moved 20 = .ok (.imul, 1) := by decide +kernel
theorem dX9_moved_21 : decode cX9_moved 21 = .ok (.aload_n 0, 1) := by decide +kernel
theorem dX9_moved_22 : decode cX9_moved 22 = .ok (.getfield 46, 3) := by decide +kernel
theorem dX9_moved_25 : decode cX9_moved 25 = .ok (.aload_n 0, 1) := by decide +kernel
theorem dX9_moved_26 : decode cX9_moved 26 = .ok (.iload_n 1, 1) := by decide +kernel
theorem dX9_moved_27 : decode cX9_moved 27 = .ok (.iload_n 2, 1) := by decide +kernel
theorem dX9_moved_28 : decode cX9_moved 28 = .ok (.iconst 1, 1) := by decide +kernel
theorem dX9_moved_29 : decode cX9_moved 29 = .ok (.isub, 1) := by decide +kernel
theorem dX9_moved_30 : decode cX9_moved 30 = .ok (.iload 4, 2) := by decide +kernel
theorem dX9_moved_32 : decode cX9_moved 32 = .ok (.invokevirtual 137, 3) := by decide +kernel
theorem dX9_moved_35 : decode cX9_moved 35 = .ok (.imul, 1) := by decide +kernel
theorem dX9_moved_36 : decode cX9_moved 36 = .ok (.iadd, 1) := by decide +kernel
theorem dX9_moved_37 : decode cX9_moved 37 = .ok (.aload_n 0, 1) := by decide +kernel
theorem dX9_moved_38 : decode cX9_moved 38 = .ok (.getfield 49, 3) := by decide +kernel
theorem dX9_moved_41 : decode cX9_moved 41 = .ok (.aload_n 0, 1) := by decide +kernel
theorem dX9_moved_42 : decode cX9_moved 42 = .ok (.iload_n 1, 1) := by decide +kernel
theorem dX9_moved_43 : decode cX9_moved 43 = .ok (.iload_n 2, 1) := by decide +kernel
theorem dX9_moved_44 : decode cX9_moved 44 = .ok (.iconst 2, 1) := by decide +kernel
theorem dX9_moved_45 : decode cX9_moved 45 = .ok (.isub, 1) := by decide +kernel
theorem dX9_moved_46 : decode cX9_moved 46 = .ok (.iload 4, 2) := by decide +kernel
theorem dX9_moved_48 : decode cX9_moved 48 = .ok (.invokevirtual 137, 3) := by decide +kernel
theorem dX9_moved_51 : decode cX9_moved 51 = .ok (.imul, 1) := by decide +kernel
theorem dX9_moved_52 : decode cX9_moved 52 = .ok (.iadd, 1) := by decide +kernel
theorem dX9_moved_53 : decode cX9_moved 53 = .ok (.istore 6, 2) := by decide +kernel
theorem dX9_moved_55 : decode cX9_moved 55 = .ok (.iload 6, 2) := by decide +kernel
theorem dX9_moved_57 : decode cX9_moved 57 = .ok (.iload_n 3, 1) := by decide +kernel
theorem dX9_moved_58 : decode cX9_moved 58 = .ok (.imul, 1) := by decide +kernel
theorem dX9_moved_59 : decode cX9_moved 59 = .ok (.aload_n 0, 1) := by decide +kernel
theorem dX9_moved_60 : decode cX9_moved 60 = .ok (.getfield 37, 3) := by decide +kernel
theorem dX9_moved_63 : decode cX9_moved 63 = .ok (.bipush 8, 2) := by decide +kernel
theorem dX9_moved_65 : decode cX9_moved 65 = .ok (.aload_n 0, 1) := by decide +kernel
theorem dX9_moved_66 : decode cX9_moved 66 = .ok (.getfield 31, 3) := by decide +kernel
theorem dX9_moved_69 : decode cX9_moved 69 = .ok (.iload 5, 2) := by decide +kernel
theorem dX9_moved_71 : decode cX9_moved 71 = .ok (.iaload, 1) := by decide +kernel
theorem dX9_moved_72 : decode cX9_moved 72 = .ok (.bipush 64, 2) := by decide +kernel
theorem dX9_moved_74 : decode cX9_moved 74 = .ok (.idiv, 1) := by decide +kernel
theorem dX9_moved_75 : decode cX9_moved 75 = .ok (.imul, 1) := by decide +kernel
theorem dX9_moved_76 : decode cX9_moved 76 = .ok (.aload_n 0, 1) := by decide +kernel
theorem dX9_moved_77 : decode cX9_moved 77 = .ok (.getfield 27, 3) := by decide +kernel
theorem dX9_moved_80 : decode cX9_moved 80 = .ok (.iload 5, 2) := by decide +kernel
theorem dX9_moved_82 : decode cX9_moved 82 = .ok (.iaload, 1) := by decide +kernel
theorem dX9_moved_83 : decode cX9_moved 83 = .ok (.bipush 64, 2) := by decide +kernel
theorem dX9_moved_85 : decode cX9_moved 85 = .ok (.idiv, 1) := by decide +kernel
theorem dX9_moved_86 : decode cX9_moved 86 = .ok (.iadd, 1) := by decide +kernel
theorem dX9_moved_87 : decode cX9_moved 87 = .ok (.iaload, 1) := by decide +kernel
theorem dX9_moved_88 : decode cX9_moved 88 = .ok (.imul, 1) := by decide +kernel
theorem dX9_moved_89 : decode cX9_moved 89 = .ok (.sipush 10000, 3) := by decide +kernel
theorem dX9_moved_92 : decode cX9_moved 92 = .ok (.idiv, 1) := by decide +kernel
theorem dX9_moved_93 : decode cX9_moved 93 = .ok (.ineg, 1) := by decide +kernel
theorem dX9_moved_94 : decode cX9_moved 94 = .ok (.istore 7, 2) := by decide +kernel
theorem dX9_moved_96 : decode cX9_moved 96 = .ok (.iload 7, 2) := by decide +kernel
theorem dX9_moved_98 : decode cX9_moved 98 = .ok (.bipush 8, 2) := by decide +kernel
theorem dX9_moved_100 : decode cX9_moved 100 = .ok (.if_icmp .le 8, 3) := by decide +kernel
theorem dX9_moved_103 : decode cX9_moved 103 = .ok (.bipush 8, 2) := by decide +kernel
theorem dX9_moved_105 : decode cX9_moved 105 = .ok (.goto 17, 3) := by decide +kernel
theorem dX9_moved_108 : decode cX9_moved 108 = .ok (.iload 7, 2) := by decide +kernel
theorem dX9_moved_110 : decode cX9_moved 110 = .ok (.bipush (-8), 2) := by decide +kernel
theorem dX9_moved_112 : decode cX9_moved 112 = .ok (.if_icmp .ge 8, 3) := by decide +kernel
theorem dX9_moved_115 : decode cX9_moved 115 = .ok (.bipush (-8), 2) := by decide +kernel
theorem dX9_moved_117 : decode cX9_moved 117 = .ok (.goto 5, 3) := by decide +kernel
theorem dX9_moved_120 : decode cX9_moved 120 = .ok (.iload 7, 2) := by decide +kernel
theorem dX9_moved_122 : decode cX9_moved 122 = .ok (.istore 7, 2) := by decide +kernel
theorem dX9_moved_124 : decode cX9_moved 124 = .ok (.iload 4, 2) := by decide +kernel
theorem dX9_moved_126 : decode cX9_moved 126 = .ok (.ifCond .eq 13, 3) := by decide +kernel
theorem dX9_moved_129 : decode cX9_moved 129 = .ok (.aload_n 0, 1) := by decide +kernel
theorem dX9_moved_130 : decode cX9_moved 130 = .ok (.getfield 27, 3) := by decide +kernel
theorem dX9_moved_133 : decode cX9_moved 133 = .ok (.iload 5, 2) := by decide +kernel
theorem dX9_moved_135 : decode cX9_moved 135 = .ok (.iaload, 1) := by decide +kernel
theorem dX9_moved_136 : decode cX9_moved 136 = .ok (.goto 10, 3) := by decide +kernel
theorem dX9_moved_139 : decode cX9_moved 139 = .ok (.aload_n 0, 1) := by decide +kernel
theorem dX9_moved_140 : decode cX9_moved 140 = .ok (.getfield 31, 3) := by decide +kernel
theorem dX9_moved_143 : decode cX9_moved 143 = .ok (.iload 5, 2) := by decide +kernel
theorem dX9_moved_145 : decode cX9_moved 145 = .ok (.iaload, 1) := by decide +kernel
theorem dX9_moved_146 : decode cX9_moved 146 = .ok (.iload 7, 2) := by decide +kernel
theorem dX9_moved_148 : decode cX9_moved 148 = .ok (.iadd, 1) := by decide +kernel
theorem dX9_moved_149 : decode cX9_moved 149 = .ok (.istore 8, 2) := by decide +kernel
theorem dX9_moved_151 : decode cX9_moved 151 = .ok (.iload 8, 2) := by decide +kernel
theorem dX9_moved_153 : decode cX9_moved 153 = .ok (.ifCond .ge 7, 3) := by decide +kernel
theorem dX9_moved_156 : decode cX9_moved 156 = .ok (.iconst 0, 1) := by decide +kernel
theorem dX9_moved_157 : decode cX9_moved 157 = .ok (.goto 19, 3) := by decide +kernel
theorem dX9_moved_160 : decode cX9_moved 160 = .ok (.iload 8, 2) := by decide +kernel
theorem dX9_moved_162 : decode cX9_moved 162 = .ok (.sipush 511, 3) := by decide +kernel
theorem dX9_moved_165 : decode cX9_moved 165 = .ok (.if_icmp .le 9, 3) := by decide +kernel
theorem dX9_moved_168 : decode cX9_moved 168 = .ok (.sipush 511, 3) := by decide +kernel
theorem dX9_moved_171 : decode cX9_moved 171 = .ok (.goto 5, 3) := by decide +kernel
theorem dX9_moved_174 : decode cX9_moved 174 = .ok (.iload 8, 2) := by decide +kernel
theorem dX9_moved_176 : decode cX9_moved 176 = .ok (.ireturn, 1) := by decide +kernel
set_option maxRecDepth 20000 in
theorem ggX9_move_X9_moved : GoodIn wsX9_move wsX9_moved := goodIn_r _ [10, 11, 12, 13, 14, 5, 4, 15, 16, 17, 9, 18, 1, 19, 20, 21, 22, 23, 24, 25, 26, 27, 28, 29, 30, 31, 32, 33, 34, 35, 36, 37, 38, 39, 40, 41, 42, 43, 44, 45, 46, 47, 48, 49, 50, 51, 52, 53, 54] (by decide +kernel) (by decide +kernel)
set_option maxRecDepth 20000 in
theorem gX9_move_X9_moved : GoodIn wsX9_move (wsV RX9 141 RX9 yX9_moved wsX9_moved) := goodIn_app (goodIn_of _ (by decide +kernel)) ggX9_move_X9_moved
theorem dX9_move_0 : decode cX9_move 0 = .ok (.iconst 1, 1) := by decide +kernel
theorem dX9_move_1 : decode cX9_move 1 = .ok (.istore_n 3, 1) := by decide +kernel
theorem dX9_move_2 : decode cX9_move 2 = .ok (.iload_n 3, 1) := by decide +kernel
theorem dX9_move_3 : decode cX9_move 3 = .ok (.aload_n 0, 1) := by decide +kernel
theorem dX9_move_4 : decode cX9_move 4 = .ok (.getfield 34, 3) := by decide +kernel
theorem dX9_move_7 : decode cX9_move 7 = .ok (.iload_n 1, 1) := by decide +kernel
theorem dX9_move_8 : decode cX9_move 8 = .ok (.iaload, 1) := by decide +kernel
theorem dX9_move_9 : decode cX9_move 9 = .ok (.iconst 1, 1) := by decide +kernel
theorem dX9_move_10 : decode cX9_move 10 = .ok (.isub, 1) := by decide +kernel
theorem dX9_move_11 : decode cX9_move 11 = .ok (.if_icmp .ge 37, 3) := by decide +kernel
theorem dX9_move_14 : decode cX9_move 14 = .ok (.aload_n 0, 1) := by decide +kernel
theorem dX9_move_15 : decode cX9_move 15 = .ok (.getfield 58, 3) := by decide +kernel
theorem dX9_move_18 : decode cX9_move 18 = .ok (.iload_n 3, 1) := by decide +kernel
theorem dX9_move_19 : decode cX9_move 19 = .ok (.aload_n 0, 1) := by decide +kernel
theorem dX9_move_20 : decode cX9_move 20 = .ok (.iload_n 1, 1) := by decide +kernel
theorem dX9_move_21 : decode cX9_move 21 = .ok (.iload_n 3, 1) := by decide +kernel
theorem dX9_move_22 : decode cX9_move 22 = .ok (.iload_n 2, 1) := by decide +kernel
theorem dX9_move_23 : decode cX9_move 23 = .ok (.iconst 1, 1) := by decide +kernel
theorem dX9_move_24 : decode cX9_move 24 = .ok (.invokevirtual 141, 3) := by decide +kernel
theorem dX9_move_27 : decode cX9_move 27 = .ok (.iastore, 1) := by decide +kernel
theorem dX9_move_28 : decode cX9_move 28 = .ok (.aload_n 0, 1) := by decide +kernel
theorem dX9_move_29 : decode cX9_move 29 = .ok (.getfield 61, 3) := by decide +kernel
theorem dX9_move_32 : decode cX9_move 32 = .ok (.iload_n 3, 1) := by decide +kernel
theorem dX9_move_33 : decode cX9_move 33 = .ok (.aload_n 0, 1) := by decide +kernel
theorem dX9_move_34 : decode cX9_move 34 = .ok (.iload_n 1, 1) := by decide +kernel
theorem dX9_move_35 : decode cX9_move 35 = .ok (.iload_n 3, 1) := by decide +kernel
theorem dX9_move_36 : decode cX9_move 36 = .ok (.iload_n 2, 1) := by decide +kernel
theorem dX9_move_37 : decode cX9_move 37 = .ok (.iconst 0, 1) := by decide +kernel
theorem dX9_move_38 : decode cX9_move 38 = .ok (.invokevirtual 141, 3) := by decide +kernel
theorem dX9_move_41 : decode cX9_move 41 = .ok (.iastore, 1) := by decide +kernel
theorem dX9_move_42 : decode cX9_move 42 = .ok (.iinc 3 1, 3) := by decide +kernel
theorem dX9_move_45 : decode cX9_move 45 = .ok (.goto (-43), 3) := by decide +kernel
theorem dX9_move_48 : decode cX9_move 48 = .ok (.iconst 1, 1) := by decide +kernel
theorem dX9_move_49 : decode cX9_move 49 = .ok (.istore_n 3, 1) := by decide +kernel
theorem dX9_move_50 : decode cX9_move 50 = .ok (.iload_n 3, 1) := by decide +kernel
theorem dX9_move_51 : decode cX9_move 51 = .ok (.aload_n 0, 1) := by decide +kernel
theorem dX9_move_52 : decode cX9_move 52 = .ok (.getfield 34, 3) := by decide +kernel
theorem dX9_move_55 : decode cX9_move 55 = .ok (.iload_n 1, 1) := by decide +kernel
theorem dX9_move_56 : decode cX9_move 56 = .ok (.iaload, 1) := by decide +kernel
theorem dX9_move_57 : decode cX9_move 57 = .ok (.iconst 1, 1) := by decide +kernel
theorem dX9_move_58 : decode cX9_move 58 = .ok (.isub, 1) := by decide +kernel
theorem dX9_move_59 : decode cX9_move 59 = .ok (.if_icmp .ge 43, 3) := by decide +kernel
theorem dX9_move_62 : decode cX9_move 62 = .ok (.aload_n 0, 1) := by decide +kernel
theorem dX9_move_63 : decode cX9_move 63 = .ok (.getfield 27, 3) := by decide +kernel
theorem dX9_move_66 : decode cX9_move 66 = .ok (.bipush 48, 2) := by decide +kernel
theorem dX9_move_68 : decode cX9_move 68 = .ok (.iload_n 1, 1) := by decide +kernel
theorem dX9_move_69 : decode cX9_move 69 = .ok (.imul, 1) := by decide +kernel
theorem dX9_move_70 : decode cX9_move 70 = .ok (.iload_n 3, 1) := by decide +kernel
theorem dX9_move_71 : decode cX9_move 71 = .ok (.iadd, 1) := by decide +kernel
theorem dX9_move_72 : decode cX9_move 72 = .ok (.aload_n 0, 1) := by decide +kernel
theorem dX9_move_73 : decode cX9_move 73 = .ok (.getfield 58, 3) := by decide +kernel
theorem dX9_move_76 : decode cX9_move 76 = .ok (.iload_n 3, 1) := by decide +kernel
theorem dX9_move_77 : decode cX9_move 77 = .ok (.iaload, 1) := by decide +kernel
theorem dX9_move_78 : decode cX9_move 78 = .ok (.iastore, 1) := by decide +kernel
theorem dX9_move_79 : decode cX9_move 79 = .ok (.aload_n 0, 1) := by decide +kernel
theorem dX9_move_80 : decode cX9_move 80 = .ok (.getfield 31, 3) := by decide +kernel
theorem dX9_move_83 : decode cX9_move 83 = .ok (.bipush 48, 2) := by decide +kernel
theorem dX9_move_85 : decode cX9_move 85 = .ok (.iload_n 1, 1) := by decide +kernel
theorem dX9_move_86 : decode cX9_move 86 = .ok (.imul, 1) := by decide +kernel
theorem dX9_move_87 : decode cX9_move 87 = .ok (.iload_n 3, 1) := by decide +kernel
theorem dX9_move_88 : decode cX9_move 88 = .ok (.iadd, 1) := by decide +kernel
theorem dX9_move_89 : decode cX9_move 89 = .ok (.aload_n 0, 1) := by decide +kernel
theorem dX9_move_90 : decode cX9_move 90 = .ok (.getfield 61, 3) := by decide +kernel
theorem dX9_move_93 : decode cX9_move 93 = .ok (.iload_n 3, 1) := by decide +kernel
theorem dX9_move_94 : decode cX9_move 94 = .ok (.iaload, 1) := by decide +kernel
theorem dX9_move_95 : decode cX9_move 95 = .ok (.iastore, 1) := by decide +kernel
theorem dX9_move_96 : decode cX9_move 96 = .ok (.iinc 3 1, 3) := by decide +kernel
theorem dX9_move_99 : decode cX9_move 99 = .ok (.goto (-49), 3) := by decide +kernel
theorem dX9_move_102 : decode cX9_move 102 = .ok (.return_, 1) := by decide +kernel
set_option maxRecDepth 20000 in
theorem ggX9_space_X9_size : GoodIn wsX9_space wsX9_size := goodIn_r _ [10] (by decide +kernel) (by decide +kernel)
set_option maxRecDepth 20000 in
theorem gX9_space_X9_size : GoodIn wsX9_space (va_wsS RX9 145 yX9_size wsX9_size) := goodIn_app (goodIn_of _ (by decide +kernel)) ggX9_space_X9_size
theorem dX9_space_0 : decode cX9_space 0 = .ok (.bipush 48, 2) := by decide +kernel
theorem dX9_space_2 : decode cX9_space 2 = .ok (.iload_n 1, 1) := by decide +kernel
theorem dX9_space_3 : decode cX9_space 3 = .ok (.imul, 1) := by decide +kernel
theorem dX9_space_4 : decode cX9_space 4 = .ok (.istore_n 2, 1) := by decide +kernel
theorem dX9_space_5 : decode cX9_space 5 = .ok (.aload_n 0, 1) := by decide +kernel
theorem dX9_space_6 : decode cX9_space 6 = .ok (.getfield 34, 3) := by decide +kernel
theorem dX9_space_9 : decode cX9_space 9 = .ok (.iload_n 1, 1) := by decide +kernel
theorem dX9_space_10 : decode cX9_space 10 = .ok (.iaload, 1) := by decide +kernel
theorem dX9_space_11 : decode cX9_space 11 = .ok (.istore_n 3, 1) := by decide +kernel
theorem dX9_space_12 : decode cX9_space 12 = .ok (.iconst 1, 1) := by decide +kernel
theorem dX9_space_13 : decode cX9_space 13 = .ok (.istore 4, 2) := by decide +kernel
theorem dX9_space_15 : decode cX9_space 15 = .ok (.iconst 1, 1) := by decide +kernel
theorem dX9_space_16 : decode cX9_space 16 = .ok (.istore 5, 2) := by decide +kernel
theorem dX9_space_18 : decode cX9_space 18 = .ok (.iload 5, 2) := by decide +kernel
theorem dX9_space_20 : decode cX9_space 20 = .ok (.aload_n 0, 1) := by decide +kernel
theorem dX9_space_21 : decode cX9_space 21 = .ok (.getfield 34, 3) := by decide +kernel
theorem dX9_space_24 : decode cX9_space 24 = .ok (.iload_n 1, 1) := by decide +kernel
theorem dX9_space_25 : decode cX9_space 25 = .ok (.iaload, 1) := by decide +kernel
theorem dX9_space_26 : decode cX9_space 26 = .ok (.if_icmp .ge 140, 3) := by decide +kernel
theorem dX9_space_29 : decode cX9_space 29 = .ok (.aload_n 0, 1) := by decide +kernel
theorem dX9_space_30 : decode cX9_space 30 = .ok (.getfield 27, 3) := by decide +kernel
theorem dX9_space_33 : decode cX9_space 33 = .ok (.iload_n 2, 1) := by decide +kernel
theorem dX9_space_34 : decode cX9_space 34 = .ok (.iload 5, 2) := by decide +kernel
theorem dX9_space_36 : decode cX9_space 36 = .ok (.iadd, 1) := by decide +kernel
theorem dX9_space_37 : decode cX9_space 37 = .ok (.iaload, 1) := by decide +kernel
theorem dX9_space_38 : decode cX9_space 38 = .ok (.aload_n 0, 1) := by decide +kernel
theorem dX9_space_39 : decode cX9_space 39 = .ok (.getfield 27, 3) := by decide +kernel
theorem dX9_space_42 : decode cX9_space 42 = .ok (.iload_n 2, 1) := by decide +kernel
theorem dX9_space_43 : decode cX9_space 43 = .ok (.iload 4, 2) := by decide +kernel
theorem dX9_space_45 : decode cX9_space 45 = .ok (.iadd, 1) := by decide +kernel
theorem dX9_space_46 : decode cX9_space 46 = .ok (.iconst 1, 1) := by decide +kernel
theorem dX9_space_47 : decode cX9_space 47 = .ok (.isub, 1) := by decide +kernel
theorem dX9_space_48 : decode cX9_space 48 = .ok (.iaload, 1) := by decide +kernel
theorem dX9_space_49 : decode cX9_space 49 = .ok (.isub, 1) := by decide +kernel
theorem dX9_space_50 : decode cX9_space 50 = .ok (.invokestatic 145, 3) := by decide +kernel
theorem dX9_space_53 : decode cX9_space 53 = .ok (.iconst 4, 1) := by decide +kernel
theorem dX9_space_54 : decode cX9_space 54 = .ok (.if_icmp .ge 35, 3) := by decide +kernel
theorem dX9_space_57 : decode cX9_space 57 = .ok (.aload_n 0, 1) := by decide +kernel
theorem dX9_space_58 : decode cX9_space 58 = .ok (.getfield 31, 3) := by decide +kernel
theorem dX9_space_61 : decode cX9_space 61 = .ok (.iload_n 2, 1) := by decide +kernel
theorem dX9_space_62 : decode cX9_space 62 = .ok (.iload 5, 2) := by decide +kernel
theorem dX9_space_64 : decode cX9_space 64 = .ok (.iadd, 1) := by decide +kernel
theorem dX9_space_65 : decode cX9_space 65 = .ok (.iaload, 1) := by decide +kernel
theorem dX9_space_66 : decode cX9_space 66 = .ok (.aload_n 0, 1) := by decide +kernel
theorem dX9_space_67 : decode cX9_space 67 = .ok (.getfield 31, 3) := by decide +kernel
theorem dX9_space_70 : decode cX9_space 70 = .ok (.iload_n 2, 1) := by decide +kernel
theorem dX9_space_71 : decode cX9_space 71 = .ok (.iload 4, 2) := by decide +kernel
theorem dX9_space_73 : decode cX9_space 73 = .ok (.iadd, 1) := by decide +kernel
theorem dX9_space_74 : decode cX9_space 74 = .ok (.iconst 1, 1) := by decide +kernel
theorem dX9_space_75 : decode cX9_space 75 = .ok (.isub, 1) := by decide +kernel
theorem dX9_space_76 : decode cX9_space 76 = .ok (.iaload, 1) := by decide +kernel
theorem dX9_space_77 : decode cX9_space 77 = .ok (.isub, 1) := by decide +kernel
theorem dX9_space_78 : decode cX9_space 78 = .ok (.invokestatic 145, 3) := by decide +kernel
theorem dX9_space_81 : decode cX9_space 81 = .ok (.iconst 4, 1) := by decide +kernel
theorem dX9_space_82 : decode cX9_space 82 = .ok (.if_icmp .ge 7, 3) := by decide +kernel
theorem dX9_space_85 : decode cX9_space 85 = .ok (.iconst 1, 1) := by decide +kernel
theorem dX9_space_86 : decode cX9_space 86 = .ok (.goto 4, 3) := by decide +kernel
theorem dX9_space_89 : decode cX9_space 89 = .ok (.iconst 0, 1) := by decide +kernel
theorem dX9_space_90 : decode cX9_space 90 = .ok (.istore 6, 2) := by decide +kernel
theorem dX9_space_92 : decode cX9_space 92 = .ok (.iload 5, 2) := by decide +kernel
theorem dX9_space_94 : decode cX9_space 94 = .ok (.aload_n 0, 1) := by decide +kernel
theorem dX9_space_95 : decode cX9_space 95 = .ok (.getfield 34, 3) := by decide +kernel
theorem dX9_space_98 : decode cX9_space 98 = .ok (.iload_n 1, 1) := by decide +kernel
theorem dX9_space_99 : decode cX9_space 99 = .ok (.iaload, 1) := by decide +kernel
theorem dX9_space_100 : decode cX9_space 100 = .ok (.iconst 1, 1) := by decide +kernel
theorem dX9_space_101 : decode cX9_space 101 = .ok (.isub, 1) := by decide +kernel
theorem dX9_space_102 : decode cX9_space 102 = .ok (.if_icmp .ge 19, 3) := by decide +kernel
theorem dX9_space_105 : decode cX9_space 105 = .ok (.iload 6, 2) := by decide +kernel
theorem dX9_space_107 : decode cX9_space 107 = .ok (.ifCond .eq 14, 3) := by decide +kernel
theorem dX9_space_110 : decode cX9_space 110 = .ok (.iload_n 3, 1) := by decide +kernel
theorem dX9_space_111 : decode cX9_space 111 = .ok (.iconst 4, 1) := by decide +kernel
theorem dX9_space_112 : decode cX9_space 112 = .ok (.if_icmp .le 9, 3) := by decide +kernel
theorem dX9_space_115 : decode cX9_space 115 = .ok (.iinc 3 (-1), 3) := by decide +kernel
theorem dX9_space_118 : decode cX9_space 118 = .ok (.goto 42, 3) := by decide +kernel
theorem dX9_space_121 : decode cX9_space 121 = .ok (.aload_n 0, 1) := by decide +kernel
theorem dX9_space_122 : decode cX9_space 122 = .ok (.getfield 27, 3) := by decide +kernel
theorem dX9_space_125 : decode cX9_space 125 = .ok (.iload_n 2, 1) := by decide +kernel
theorem dX9_space_126 : decode cX9_space 126 = .ok (.iload 4, 2) := by decide +kernel
theorem dX9_space_128 : decode cX9_space 128 = .ok (.iadd, 1) := by decide +kernel
theorem dX9_space_129 : decode cX9_space 129 = .ok (.aload_n 0, 1) := by decide +kernel
theorem dX9_space_130 : decode cX9_space 130 = .ok (.getfield 27, 3) := by decide +kernel
theorem dX9_space_133 : decode cX9_space 133 = .ok (.iload_n 2, 1) := by decide +kernel
theorem dX9_space_134 : decode cX9_space 134 = .ok (.iload 5, 2) := by decide +kernel
theorem dX9_space_136 : decode cX9_space 136 = .ok (.iadd, 1) := by decide +kernel
theorem dX9_space_137 : decode cX9_space 137 = .ok (.iaload, 1) := by decide +kernel
theorem dX9_space_138 : decode cX9_space 138 = .ok (.iastore, 1) := by decide +kernel
theorem dX9_space_139 : decode cX9_space 139 = .ok (.aload_n 0, 1) := by decide +kernel
theorem dX9_space_140 : decode cX9_space 140 = .ok (.getfield 31, 3) := by decide +kernel
theorem dX9_space_143 : decode cX9_space 143 = .ok (.iload_n 2, 1) := by decide +kernel
theorem dX9_space_144 : decode cX9_space 144 = .ok (.iload 4, 2) := by decide +kernel
theorem dX9_space_146 : decode cX9_space 146 = .ok (.iadd, 1) := by decide +kernel
theorem dX9_space_147 : decode cX9_space 147 = .ok (.aload_n 0, 1) := by decide +kernel
theorem dX9_space_148 : decode cX9_space 148 = .ok (.getfield 31, 3) := by decide +kernel
theorem dX9_space_151 : decode cX9_space 151 = .ok (.iload_n 2, 1) := by decide +kernel
theorem dX9_space_152 : decode cX9_space 152 = .ok (.iload 5, 2) := by decide +kernel
theorem dX9_space_154 : decode cX9_space 154 = .ok (.iadd, 1) := by decide +kernel
theorem dX9_space_155 : decode cX9_space 155 = .ok (.iaload, 1) := by decide +kernel
theorem dX9_space_156 : decode cX9_space 156 = .ok (.iastore, 1) := by decide +kernel
theorem dX9_space_157 : decode cX9_space 157 = .ok (.iinc 4 1, 3) := by decide +kernel
theorem dX9_space_160 : decode cX9_space 160 = .ok (.iinc 5 1, 3) := by decide +kernel
theorem dX9_space_163 : decode cX9_space 163 = .ok (.goto (-145), 3) := by decide +kernel
theorem dX9_space_166 : decode cX9_space 166 = .ok (.iconst 0, 1) := by decide +kernel
theorem dX9_space_167 : decode cX9_space 167 = .ok (.istore 5, 2) := by decide +kernel
theorem dX9_space_169 : decode cX9_space 169 = .ok (.iload 5, 2) := by decide +kernel
theorem dX9_space_171 : decode cX9_space 171 = .ok (.iload 4, 2) := by decide +kernel
theorem dX9_space_173 : decode cX9_space 173 = .ok (.if_icmp .ge 41, 3) := by decide +kernel
theorem dX9_space_176 : decode cX9_space 176 = .ok (.aload_n 0, 1) := by decide +kernel
theorem dX9_space_177 : decode cX9_space 177 = .ok (.getfield 64, 3) := by decide +kernel
theorem dX9_space_180 : decode cX9_space 180 = .ok (.iload 5, 2) := by decide +kernel
theorem dX9_space_182 : decode cX9_space 182 = .ok (.aload_n 0, 1) := by decide +kernel
theorem dX9_space_183 : decode cX9_space 183 = .ok (.getfield 27, 3) := by decide +kernel
theorem dX9_space_186 : decode cX9_space 186 = .ok (.iload_n 2, 1) := by decide +kernel
theorem dX9_space_187 : decode cX9_space 187 = .ok (.iload 5, 2) := by decide +kernel
theorem dX9_space_189 : decode cX9_space 189 = .ok (.iadd, 1) := by decide +kernel
theorem dX9_space_190 : decode cX9_space 190 = .ok (.iaload, 1) := by decide +kernel
theorem dX9_space_191 : decode cX9_space 191 = .ok (.iastore, 1) := by decide +kernel
theorem dX9_space_192 : decode cX9_space 192 = .ok (.aload_n 0, 1) := by decide +kernel
theorem dX9_space_193 : decode cX9_space 193 = .ok (.getfield 67, 3) := by decide +kernel
theorem dX9_space_196 : decode cX9_space 196 = .ok (.iload 5, 2) := by decide +kernel
theorem dX9_space_198 : decode cX9_space 198 = .ok (.aload_n 0, 1) := by decide +kernel
theorem dX9_space_199 : decode cX9_space 199 = .ok (.getfield 31, 3) := by decide +kernel
theorem dX9_space_202 : decode cX9_space 202 = .ok (.iload_n 2, 1) := by decide +kernel
theorem dX9_space_203 : decode cX9_space 203 = .ok (.iload 5, 2) := by decide +kernel
theorem dX9_space_205 : decode cX9_space 205 = .ok (.iadd, 1) := by decide +kernel
theorem dX9_space_206 : decode cX9_space 206 = .ok (.iaload, 1) := by decide +kernel
theorem dX9_space_207 : decode cX9_space 207 = .ok (.iastore, 1) := by decide +kernel
theorem dX9_space_208 : decode cX9_space 208 = .ok (.iinc 5 1, 3) := by decide +kernel
theorem dX9_space_211 : decode cX9_space 211 = .ok (.goto (-42), 3) := by decide +kernel
theorem dX9_space_214 : decode cX9_space 214 = .ok (.iload 4, 2) := by decide +kernel
theorem dX9_space_216 : decode cX9_space 216 = .ok (.istore 5, 2) := by decide +kernel
theorem dX9_space_218 : decode cX9_space 218 = .ok (.iconst 1, 1) := by decide +kernel
theorem dX9_space_219 : decode cX9_space 219 = .ok (.istore 6, 2) := by decide +kernel
theorem dX9_space_221 : decode cX9_space 221 = .ok (.iconst 1, 1) := by decide +kernel
theorem dX9_space_222 : decode cX9_space 222 = .ok (.istore 7, 2) := by decide +kernel
theorem dX9_space_224 : decode cX9_space 224 = .ok (.iload 7, 2) := by decide +kernel
theorem dX9_space_226 : decode cX9_space 226 = .ok (.iload 4, 2) := by decide +kernel
theorem dX9_space_228 : decode cX9_space 228 = .ok (.if_icmp .ge 179, 3) := by decide +kernel
theorem dX9_space_231 : decode cX9_space 231 = .ok (.aload_n 0, 1) := by decide +kernel
theorem dX9_space_232 : decode cX9_space 232 = .ok (.getfield 64, 3) := by decide +kernel
theorem dX9_space_235 : decode cX9_space 235 = .ok (.iload 7, 2) := by decide +kernel
theorem dX9_space_237 : decode cX9_space 237 = .ok (.iaload, 1) := by decide +kernel
theorem dX9_space_238 : decode cX9_space 238 = .ok (.aload_n 0, 1) := by decide +kernel
theorem dX9_space_239 : decode cX9_space 239 = .ok (.getfield 64, 3) := by decide +kernel
theorem dX9_space_242 : decode cX9_space 242 = .ok (.iload 7, 2) := by decide +kernel
theorem dX9_space_244 : decode cX9_space 244 = .ok (.iconst 1, 1) := by decide +kernel
theorem dX9_space_245 : decode cX9_space 245 = .ok (.isub, 1) := by decide +kernel
theorem dX9_space_246 : decode cX9_space 246 = .ok (.iaload, 1) := by decide +kernel
theorem dX9_space_247 : decode cX9_space 247 = .ok (.isub, 1) := by decide +kernel
theorem dX9_space_248 : decode cX9_space 248 = .ok (.invokestatic 145, 3) := by decide +kernel
theorem dX9_space_251 : decode cX9_space 251 = .ok (.aload_n 0, 1) := by decide +kernel
theorem dX9_space_252 : decode cX9_space 252 = .ok (.getfield 52, 3) := by decide +kernel
theorem dX9_space_255 : decode cX9_space 255 = .ok (.if_icmp .gt 30, 3) := by decide +kernel
theorem dX9_space_258 : decode cX9_space 258 = .ok (.aload_n 0, 1) := by decide +kernel
theorem dX9_space_259 : decode cX9_space 259 = .ok (.getfield 67, 3) := by decide +kernel
theorem dX9_space_262 : decode cX9_space 262 = .ok (.iload 7, 2) := by decide +kernel
theorem dX9_space_264 : decode cX9_space 264 = .ok (.iaload, 1) := by decide +kernel
theorem dX9_space_265 : decode cX9_space 265 = .ok (.aload_n 0, 1) := by decide +kernel
theorem dX9_space_266 : decode cX9_space 266 = .ok (.getfield 67, 3) := by decide +kernel
theorem dX9_space_269 : decode cX9_space 269 = .ok (.iload 7, 2) := by decide +kernel
theorem dX9_space_271 : decode cX9_space 271 = .ok (.iconst 1, 1) := by decide +kernel
theorem dX9_space_272 : decode cX9_space 272 = .ok (.isub, 1) := by decide +kernel
theorem dX9_space_273 : decode cX9_space 273 = .ok (.iaload, 1) := by decide +kernel
theorem dX9_space_274 : decode cX9_space 274 = .ok (.isub, 1) := by decide +kernel
theorem dX9_space_275 : decode cX9_space 275 = .ok (.invokestatic 145, 3) := by decide +kernel
theorem dX9_space_278 : decode cX9_space 278 = .ok (.aload_n 0, 1) := by decide +kernel
theorem dX9_space_279 : decode cX9_space 279 = .ok (.getfield 52, 3) := by decide +kernel
theorem dX9_space_282 : decode cX9_space 282 = .ok (.if_icmp .le 7, 3) := by decide +kernel
theorem dX9_space_285 : decode cX9_space 285 = .ok (.iconst 1, 1) := by decide +kernel
theorem dX9_space_286 : decode cX9_space 286 = .ok (.goto 4, 3) := by decide +kernel
theorem dX9_space_289 : decode cX9_space 289 = .ok (.iconst 0, 1) := by decide +kernel
theorem dX9_space_290 : decode cX9_space 290 = .ok (.istore 8, 2) := by decide +kernel
theorem dX9_space_292 : decode cX9_space 292 = .ok (.iload 8, 2) := by decide +kernel
theorem dX9_space_294 : decode cX9_space 294 = .ok (.ifCond .eq 72, 3) := by decide +kernel
theorem dX9_space_297 : decode cX9_space 297 = .ok (.iload 5, 2) := by decide +kernel
theorem dX9_space_299 : decode cX9_space 299 = .ok (.bipush 48, 2) := by decide +kernel
theorem dX9_space_301 : decode cX9_space 301 = .ok (.if_icmp .ge 65, 3) := by decide +kernel
theorem dX9_space_304 : decode cX9_space 304 = .ok (.aload_n 0, 1) := by decide +kernel
theorem dX9_space_305 : decode cX9_space 305 = .ok (.getfield 27, 3) := by decide +kernel
theorem dX9_space_308 : decode cX9_space 308 = .ok (.iload_n 2, 1) := by decide +kernel
theorem dX9_space_309 : decode cX9_space 309 = .ok (.iload 6, 2) := by decide +kernel
theorem dX9_space_311 : decode cX9_space 311 = .ok (.iadd, 1) := by decide +kernel
theorem dX9_space_312 : decode cX9_space 312 = .ok (.aload_n 0, 1) := by decide +kernel
theorem dX9_space_313 : decode cX9_space 313 = .ok (.getfield 64, 3) := by decide +kernel
theorem dX9_space_316 : decode cX9_space 316 = .ok (.iload 7, 2) := by decide +kernel
theorem dX9_space_318 : decode cX9_space 318 = .ok (.iaload, 1) := by decide +kernel
theorem dX9_space_319 : decode cX9_space 319 = .ok (.aload_n 0, 1) := by decide +kernel
theorem dX9_space_320 : decode cX9_space 320 = .ok (.getfield 64, 3) := by decide +kernel
theorem dX9_space_323 : decode cX9_space 323 = .ok (.iload 7, 2) := by decide +kernel
theorem dX9_space_325 : decode cX9_space 325 = .ok (.iconst 1, 1) := by decide +kernel
theorem dX9_space_326 : decode cX9_space 326 = .ok (.isub, 1) := by decide +kernel
theorem dX9_space_327 : decode cX9_space 327 = .ok (.iaload, 1) := by decide +kernel
theorem dX9_space_328 : decode cX9_space 328 = .ok (.iadd, 1) := by decide +kernel
theorem dX9_space_329 : decode cX9_space 329 = .ok (.iconst 2, 1) := by decide +kernel
theorem dX9_space_330 : decode cX9_space 330 = .ok (.idiv, 1) := by decide +kernel
theorem dX9_space_331 : decode cX9_space 331 = .ok (.iastore, 1) := by decide +kernel
theorem dX9_space_332 : decode cX9_space 332 = .ok (.aload_n 0, 1) := by decide +kernel
theorem dX9_space_333 : decode cX9_space 333 = .ok (.getfield 31, 3) := by decide +kernel
theorem dX9_space_336 : decode cX9_space 336 = .ok (.iload_n 2, 1) := by decide +kernel
theorem dX9_space_337 : decode cX9_space 337 = .ok (.iload 6, 2) := by decide +kernel
theorem dX9_space_339 : decode cX9_space 339 = .ok (.iadd, 1) := by decide +kernel
theorem dX9_space_340 : decode cX9_space 340 = .ok (.aload_n 0, 1) := by decide +kernel
theorem dX9_space_341 : decode cX9_space 341 = .ok (.getfield 67, 3) := by decide +kernel
theorem dX9_space_344 : decode cX9_space 344 = .ok (.iload 7, 2) := by decide +kernel
theorem dX9_space_346 : decode cX9_space 346 = .ok (.iaload, 1) := by decide +kernel
theorem dX9_space_347 : decode cX9_space 347 = .ok (.aload_n 0, 1) := by decide +kernel
theorem dX9_space_348 : decode cX9_space 348 = .ok (.getfield 67, 3) := by decide +kernel
theorem dX9_space_351 : decode cX9_space 351 = .ok (.iload 7, 2) := by decide +kernel
theorem dX9_space_353 : decode cX9_space 353 = .ok (.iconst 1, 1) := by decide +kernel
theorem dX9_space_354 : decode cX9_space 354 = .ok (.isub, 1) := by decide +kernel
theorem dX9_space_355 : decode cX9_space 355 = .ok (.iaload, 1) := by decide +kernel
theorem dX9_space_356 : decode cX9_space 356 = .ok (.iadd, 1) := by decide +kernel
theorem dX9_space_357 : decode cX9_space 357 = .ok (.iconst 2, 1) := by decide +kernel
theorem dX9_space_358 : decode cX9_space 358 = .ok (.idiv, 1) := by decide +kernel
theorem dX9_space_359 : decode cX9_space 359 = .ok (.iastore, 1) := by decide +kernel
theorem dX9_space_360 : decode cX9_space 360 = .ok (.iinc 6 1, 3) := by decide +kernel
theorem dX9_space_363 : decode cX9_space 363 = .ok (.iinc 5 1, 3) := by decide +kernel
theorem dX9_space_366 : decode cX9_space 366 = .ok (.aload_n 0, 1) := by decide +kernel
theorem dX9_space_367 : decode cX9_space 367 = .ok (.getfield 27, 3) := by decide +kernel
theorem dX9_space_370 : decode cX9_space 370 = .ok (.iload_n 2, 1) := by decide +kernel
theorem dX9_space_371 : decode cX9_space 371 = .ok (.iload 6, 2) := by decide +kernel
theorem dX9_space_373 : decode cX9_space 373 = .ok (.iadd, 1) := by decide +kernel
theorem dX9_space_374 : decode cX9_space 374 = .ok (.aload_n 0, 1) := by decide +kernel
theorem dX9_space_375 : decode cX9_space 375 = .ok (.getfield 64, 3) := by decide +kernel
theorem dX9_space_378 : decode cX9_space 378 = .ok (.iload 7, 2) := by decide +kernel
theorem dX9_space_380 : decode cX9_space 380 = .ok (.iaload, 1) := by decide +kernel
theorem dX9_space_381 : decode cX9_space 381 = .ok (.iastore, 1) := by decide +kernel
theorem dX9_space_382 : decode cX9_space 382 = .ok (.aload_n 0, 1) := by decide +kernel
theorem dX9_space_383 : decode cX9_space 383 = .ok (.getfield 31, 3) := by decide +kernel
theorem dX9_space_386 : decode cX9_space 386 = .ok (.iload_n 2, 1) := by decide +kernel
theorem dX9_space_387 : decode cX9_space 387 = .ok (.iload 6, 2) := by decide +kernel
theorem dX9_space_389 : decode cX9_space 389 = .ok (.iadd, 1) := by decide +kernel
theorem dX9_space_390 : decode cX9_space 390 = .ok (.aload_n 0, 1) := by decide +kernel
theorem dX9_space_391 : decode cX9_space 391 = .ok (.getfield 67, 3) := by decide +kernel
theorem dX9_space_394 : decode cX9_space 394 = .ok (.iload 7, 2) := by decide +kernel
theorem dX9_space_396 : decode cX9_space 396 = .ok (.iaload, 1) := by decide +kernel
theorem dX9_space_397 : decode cX9_space 397 = .ok (.iastore, 1) := by decide +kernel
theorem dX9_space_398 : decode cX9_space 398 = .ok (.iinc 6 1, 3) := by decide +kernel
theorem dX9_space_401 : decode cX9_space 401 = .ok (.iinc 7 1, 3) := by decide +kernel
theorem dX9_space_404 : decode cX9_space 404 = .ok (.goto (-180), 3) := by decide +kernel
theorem dX9_space_407 : decode cX9_space 407 = .ok (.aload_n 0, 1) := by decide +kernel
theorem dX9_space_408 : decode cX9_space 408 = .ok (.getfield 34, 3) := by decide +kernel
theorem dX9_space_411 : decode cX9_space 411 = .ok (.iload_n 1, 1) := by decide +kernel
theorem dX9_space_412 : decode cX9_space 412 = .ok (.iload 5, 2) := by decide +kernel
theorem dX9_space_414 : decode cX9_space 414 = .ok (.iastore, 1) := by decide +kernel
theorem dX9_space_415 : decode cX9_space 415 = .ok (.return_, 1) := by decide +kernel
set_option maxRecDepth 20000 in
theorem ggX9_isNear_X9_size : GoodIn wsX9_isNear wsX9_size := goodIn_r _ [8] (by decide +kernel) (by decide +kernel)
set_option maxRecDepth 20000 in
theorem gX9_isNear_X9_size : GoodIn wsX9_isNear (va_wsS RX9 145 yX9_size wsX9_size) := goodIn_app (goodIn_of _ (by decide +kernel)) ggX9_isNear_X9_size
theorem dX9_isNear_0 : decode cX9_isNear 0 = .ok (.bipush 48, 2) := by decide +kernel
theorem dX9_isNear_2 : decode cX9_isNear 2 = .ok (.iload_n 1, 1) := by decide +kernel
theorem dX9_isNear_3 : decode cX9_isNear 3 = .ok (.imul, 1) := by decide +kernel
theorem dX9_isNear_4 : decode cX9_isNear 4 = .ok (.istore 4, 2) := by decide +kernel
theorem dX9_isNear_6 : decode cX9_isNear 6 = .ok (.aload_n 0, 1) := by decide +kernel
theorem dX9_isNear_7 : decode cX9_isNear 7 = .ok (.getfield 27, 3) := by decide +kernel
theorem dX9_isNear_10 : decode cX9_isNear 10 = .ok (.iload 4, 2) := by decide +kernel
theorem dX9_isNear_12 : decode cX9_isNear 12 = .ok (.iload_n 2, 1) := by decide +kernel
theorem dX9_isNear_13 : decode cX9_isNear 13 = .ok (.iadd, 1) := by decide +kernel
theorem dX9_isNear_14 : decode cX9_isNear 14 = .ok (.iaload, 1) := by decide +kernel
theorem dX9_isNear_15 : decode cX9_isNear 15 = .ok (.aload_n 0, 1) := by decide +kernel
theorem dX9_isNear_16 : decode cX9_isNear 16 = .ok (.getfield 27, 3) := by decide +kernel
theorem dX9_isNear_19 : decode cX9_isNear 19 = .ok (.iload 4, 2) := by decide +kernel
theorem dX9_isNear_21 : decode cX9_isNear 21 = .ok (.iload_n 3, 1) := by decide +kernel
theorem dX9_isNear_22 : decode cX9_isNear 22 = .ok (.iadd, 1) := by decide +kernel
theorem dX9_isNear_23 : decode cX9_isNear 23 = .ok (.iaload, 1) := by decide +kernel
theorem dX9_isNear_24 : decode cX9_isNear 24 = .ok (.isub, 1) := by decide +kernel
theorem dX9_isNear_25 : decode cX9_isNear 25 = .ok (.invokestatic 145, 3) := by decide +kernel
theorem dX9_isNear_28 : decode cX9_isNear 28 = .ok (.aload_n 0, 1) := by decide +kernel
theorem dX9_isNear_29 : decode cX9_isNear 29 = .ok (.getfield 55, 3) := by decide +kernel
theorem dX9_isNear_32 : decode cX9_isNear 32 = .ok (.if_icmp .gt 52, 3) := by decide +kernel
theorem dX9_isNear_35 : decode cX9_isNear 35 = .ok (.aload_n 0, 1) := by decide +kernel
theorem dX9_isNear_36 : decode cX9_isNear 36 = .ok (.getfield 31, 3) := by decide +kernel
theorem dX9_isNear_39 : decode cX9_isNear 39 = .ok (.iload 4, 2) := by decide +kernel
theorem dX9_isNear_41 : decode cX9_isNear 41 = .ok (.iload_n 2, 1) := by decide +kernel
theorem dX9_isNear_42 : decode cX9_isNear 42 = .ok (.iadd, 1) := by decide +kernel
theorem dX9_isNear_43 : decode cX9_isNear 43 = .ok (.iaload, 1) := by decide +kernel
theorem dX9_isNear_44 : decode cX9_isNear 44 = .ok (.aload_n 0, 1) := by decide +kernel
theorem dX9_isNear_45 : decode cX9_isNear 45 = .ok (.getfield 31, 3) := by decide +kernel
theorem dX9_isNear_48 : decode cX9_isNear 48 = .ok (.iload 4, 2) := by decide +kernel
theorem dX9_isNear_50 : decode cX9_isNear 50 = .ok (.iload_n 3, 1) := by decide +kernel
theorem dX9_isNear_51 : decode cX9_isNear 51 = .ok (.iadd, 1) := by decide +kernel
theorem dX9_isNear_52 : decode cX9_isNear 52 = .ok (.iaload, 1) := by decide +kernel
theorem dX9_isNear_53 : decode cX9_isNear 53 = .ok (.isub, 1) := by decide +kernel
theorem dX9_isNear_54 : decode cX9_isNear 54 = .ok (.invokestatic 145, 3) := by decide +kernel
theorem dX9_isNear_57 : decode cX9_isNear 57 = .ok (.aload_n 0, 1) := by decide +kernel
theorem dX9_isNear_58 : decode cX9_isNear 58 = .ok (.getfield 55, 3) := by decide +kernel
theorem dX9_isNear_61 : decode cX9_isNear 61 = .ok (.if_icmp .gt 23, 3) := by decide +kernel
theorem dX9_isNear_64 : decode cX9_isNear 64 = .ok (.aload_n 0, 1) := by decide +kernel
theorem dX9_isNear_65 : decode cX9_isNear 65 = .ok (.getfield 34, 3) := by decide +kernel
theorem dX9_isNear_68 : decode cX9_isNear 68 = .ok (.iload_n 1, 1) := by decide +kernel
theorem dX9_isNear_69 : decode cX9_isNear 69 = .ok (.iaload, 1) := by decide +kernel
theorem dX9_isNear_70 : decode cX9_isNear 70 = .ok (.iload_n 3, 1) := by decide +kernel
theorem dX9_isNear_71 : decode cX9_isNear 71 = .ok (.iload_n 2, 1) := by decide +kernel
theorem dX9_isNear_72 : decode cX9_isNear 72 = .ok (.isub, 1) := by decide +kernel
theorem dX9_isNear_73 : decode cX9_isNear 73 = .ok (.iconst 1, 1) := by decide +kernel
theorem dX9_isNear_74 : decode cX9_isNear 74 = .ok (.isub, 1) := by decide +kernel
theorem dX9_isNear_75 : decode cX9_isNear 75 = .ok (.isub, 1) := by decide +kernel
theorem dX9_isNear_76 : decode cX9_isNear 76 = .ok (.iconst 4, 1) := by decide +kernel
theorem dX9_isNear_77 : decode cX9_isNear 77 = .ok (.if_icmp .lt 7, 3) := by decide +kernel
theorem dX9_isNear_80 : decode cX9_isNear 80 = .ok (.iconst 1, 1) := by decide +kernel
theorem dX9_isNear_81 : decode cX9_isNear 81 = .ok (.goto 4, 3) := by decide +kernel
theorem dX9_isNear_84 : decode cX9_isNear 84 = .ok (.iconst 0, 1) := by decide +kernel
theorem dX9_isNear_85 : decode cX9_isNear 85 = .ok (.ireturn, 1) := by decide +kernel
set_option maxRecDepth 20000 in
theorem ggX9_area_X9_size : GoodIn wsX9_area wsX9_size := goodIn_r _ [6] (by decide +kernel) (by decide +kernel)
set_option maxRecDepth 20000 in
theorem gX9_area_X9_size : GoodIn wsX9_area (va_wsS RX9 145 yX9_size wsX9_size) := goodIn_app (goodIn_of _ (by decide +kernel)) ggX9_area_X9_size
theorem dX9_area_0 : decode cX9_area 0 = .ok (.bipush 48, 2) := by decide +kernel
theorem dX9_area_2 : decode cX9_area 2 = .ok (.iload_n 1, 1) := by decide +kernel
theorem dX9_area_3 : decode cX9_area 3 = .ok (.imul, 1) := by decide +kernel
theorem dX9_area_4 : decode cX9_area 4 = .ok (.istore 4, 2) := by decide +kernel
theorem dX9_area_6 : decode cX9_area 6 = .ok (.iconst 0, 1) := by decide +kernel
theorem dX9_area_7 : decode cX9_area 7 = .ok (.istore 5, 2) := by decide +kernel
theorem dX9_area_9 : decode cX9_area 9 = .ok (.iload_n 2, 1) := by decide +kernel
theorem dX9_area_10 : decode cX9_area 10 = .ok (.istore 6, 2) := by decide +kernel
theorem dX9_area_12 : decode cX9_area 12 = .ok (.iload 6, 2) := by decide +kernel
theorem dX9_area_14 : decode cX9_area 14 = .ok (.iload_n 3, 1) := by decide +kernel
theorem dX9_area_15 : decode cX9_area 15 = .ok (.if_icmp .gt 73, 3) := by decide +kernel
theorem dX9_area_18 : decode cX9_area 18 = .ok (.iload 6, 2) := by decide +kernel
theorem dX9_area_20 : decode cX9_area 20 = .ok (.iload_n 3, 1) := by decide +kernel
theorem dX9_area_21 : decode cX9_area 21 = .ok (.if_icmp .ne 7, 3) := by decide +kernel
theorem dX9_area_24 : decode cX9_area 24 = .ok (.iload_n 2, 1) := by decide +kernel
theorem dX9_area_25 : decode cX9_area 25 = .ok (.goto 7, 3) := by decide +kernel
theorem dX9_area_28 : decode cX9_area 28 = .ok (.iload 6, 2) := by decide +kernel
theorem dX9_area_30 : decode cX9_area 30 = .ok (.iconst 1, 1) := by decide +kernel
theorem dX9_area_31 : decode cX9_area 31 = .ok (.iadd, 1) := by decide +kernel
theorem dX9_area_32 : decode cX9_area 32 = .ok (.istore 7, 2) := by decide +kernel
theorem dX9_area_34 : decode cX9_area 34 = .ok (.iload 5, 2) := by decide +kernel
theorem dX9_area_36 : decode cX9_area 36 = .ok (.aload_n 0, 1) := by decide +kernel
theorem dX9_area_37 : decode cX9_area 37 = .ok (.getfield 27, 3) := by decide +kernel
theorem dX9_area_40 : decode cX9_area 40 = .ok (.iload 4, 2) := by decide +kernel
theorem dX9_area_42 : decode cX9_area 42 = .ok (.iload 6, 2) := by decide +kernel
theorem dX9_area_44 : decode cX9_area 44 = .ok (.iadd, 1) := by decide +kernel
theorem dX9_area_45 : decode cX9_area 45 = .ok (.iaload, 1) := by decide +kernel
theorem dX9_area_46 : decode cX9_area 46 = .ok (.aload_n 0, 1) := by decide +kernel
theorem dX9_area_47 : decode cX9_area 47 = .ok (.getfield 31, 3) := by decide +kernel
theorem dX9_area_50 : decode cX9_area 50 = .ok (.iload 4, 2) := by decide +kernel
theorem dX9_area_52 : decode cX9_area 52 = .ok (.iload 7, 2) := by decide +kernel
theorem dX9_area_54 : decode cX9_area 54 = .ok (.iadd, 1) := by decide +kernel
theorem dX9_area_55 : decode cX9_area 55 = .ok (.iaload, 1) := by decide +kernel
theorem dX9_area_56 : decode cX9_area 56 = .ok (.imul, 1) := by decide +kernel
theorem dX9_area_57 : decode cX9_area 57 = .ok (.aload_n 0, 1) := by decide +kernel
theorem dX9_area_58 : decode cX9_area 58 = .ok (.getfield 27, 3) := by decide +kernel
theorem dX9_area_61 : decode cX9_area 61 = .ok (.iload 4, 2) := by decide +kernel
theorem dX9_area_63 : decode cX9_area 63 = .ok (.iload 7, 2) := by decide +kernel
theorem dX9_area_65 : decode cX9_area 65 = .ok (.iadd, 1) := by decide +kernel
theorem dX9_area_66 : decode cX9_area 66 = .ok (.iaload, 1) := by decide +kernel
theorem dX9_area_67 : decode cX9_area 67 = .ok (.aload_n 0, 1) := by decide +kernel
theorem dX9_area_68 : decode cX9_area 68 = .ok (.getfield 31, 3) := by decide +kernel
theorem dX9_area_71 : decode cX9_area 71 = .ok (.iload 4, 2) := by decide +kernel
theorem dX9_area_73 : decode cX9_area 73 = .ok (.iload 6, 2) := by decide +kernel
theorem dX9_area_75 : decode cX9_area 75 = .ok (.iadd, 1) := by decide +kernel
theorem dX9_area_76 : decode cX9_area 76 = .ok (.iaload, 1) := by decide +kernel
theorem dX9_area_77 : decode cX9_area 77 = .ok (.imul, 1) := by decide +kernel
theorem dX9_area_78 : decode cX9_area 78 = .ok (.isub, 1) := by decide +kernel
theorem dX9_area_79 : decode cX9_area 79 = .ok (.iadd, 1) := by decide +kernel
theorem dX9_area_80 : decode cX9_area 80 = .ok (.istore 5, 2) := by decide +kernel
theorem dX9_area_82 : decode cX9_area 82 = .ok (.iinc 6 1, 3) := by decide +kernel
theorem dX9_area_85 : decode cX9_area 85 = .ok (.goto (-73), 3) := by decide +kernel
theorem dX9_area_88 : decode cX9_area 88 = .ok (.iload 5, 2) := by decide +kernel
theorem dX9_area_90 : decode cX9_area 90 = .ok (.invokestatic 145, 3) := by decide +kernel
theorem dX9_area_93 : decode cX9_area 93 = .ok (.ireturn, 1) := by decide +kernel
set_option maxRecDepth 20000 in
theorem ggX9_cut_X9_isNear : GoodIn wsX9_cut wsX9_isNear := goodIn_r _ [8, 2, 9, 3, 1, 10, 11, 7, 12, 26, 27, 28, 29, 30, 31, 32, 33, 34, 35, 36, 37, 38, 39, 40, 41, 42, 43, 44, 45, 46, 47, 48, 49, 50, 51, 52, 53, 54, 55, 56, 57, 58, 59, 60, 61] (by decide +kernel) (by decide +kernel)
set_option maxRecDepth 20000 in
theorem gX9_cut_X9_isNear : GoodIn wsX9_cut (wsV RX9 147 RX9 yX9_isNear wsX9_isNear) := goodIn_app (goodIn_of _ (by decide +kernel)) ggX9_cut_X9_isNear
set_option maxRecDepth 20000 in
theorem ggX9_cut_X9_note : GoodIn wsX9_cut wsX9_note := goodIn_r _ [16, 17, 18, 19, 20, 21, 22, 23, 24, 7, 25, 2, 3, 10, 11, 12, 26, 27, 28, 29, 30, 31, 32, 33, 34, 35, 36, 37, 38, 39, 40, 41, 42, 43, 44, 45, 46, 47, 48, 49, 50, 51, 52, 53, 54, 55, 56, 57, 58, 59, 60, 61] (by decide +kernel) (by decide +kernel)
set_option maxRecDepth 20000 in
theorem gX9_cut_X9_note : GoodIn wsX9_cut (wsV RX9 150 RX9 yX9_note wsX9_note) := goodIn_app (goodIn_of _ (by decide +kernel)) ggX9_cut_X9_note
theorem dX9_cut_0 : decode cX9_cut 0 = .ok (.iconst 0, 1) := by decide +kernel
theorem dX9_cut_1 : decode cX9_cut 1 = .ok (.istore_n 2, 1) := by decide +kernel
theorem dX9_cut_2 : decode cX9_cut 2 = .ok (.iconst 1, 1) := by decide +kernel
theorem dX9_cut_3 : decode cX9_cut 3 = .ok (.istore_n 3, 1) := by decide +kernel
theorem dX9_cut_4 : decode cX9_cut 4 = .ok (.iload_n 3, 1) := by decide +kernel
theorem dX9_cut_5 : decode cX9_cut 5 = .ok (.ifCond .eq 192, 3) := by decide +kernel
theorem dX9_cut_8 : decode cX9_cut 8 = .ok (.iconst 0, 1) := by decide +kernel
theorem dX9_cut_9 : decode cX9_cut 9 = .ok (.istore_n 3, 1) := by decide +kernel
theorem dX9_cut_10 : decode cX9_cut 10 = .ok (.iconst 0, 1) := by decide +kernel
theorem dX9_cut_11 : decode cX9_cut 11 = .ok (.istore 4, 2) := by decide +kernel
theorem dX9_cut_13 : decode cX9_cut 13 = .ok (.iload 4, 2) := by decide +kernel
theorem dX9_cut_15 : decode cX9_cut 15 = .ok (.aload_n 0, 1) := by decide +kernel
theorem dX9_cut_16 : decode cX9_cut 16 = .ok (.getfield 34, 3) := by decide +kernel
theorem dX9_cut_19 : decode cX9_cut 19 = .ok (.iload_n 1, 1) := by decide +kernel
theorem dX9_cut_20 : decode cX9_cut 20 = .ok (.iaload, 1) := by decide +kernel
theorem dX9_cut_21 : decode cX9_cut 21 = .ok (.if_icmp .ge 173, 3) := by decide +kernel
theorem dX9_cut_24 : decode cX9_cut 24 = .ok (.iload_n 3, 1) := by decide +kernel
theorem dX9_cut_25 : decode cX9_cut 25 = .ok (.ifCond .ne 169, 3) := by decide +kernel
theorem dX9_cut_28 : decode cX9_cut 28 = .ok (.aload_n 0, 1) := by decide +kernel
theorem dX9_cut_29 : decode cX9_cut 29 = .ok (.getfield 34, 3) := by decide +kernel
theorem dX9_cut_32 : decode cX9_cut 32 = .ok (.iload_n 1, 1) := by decide +kernel
theorem dX9_cut_33 : decode cX9_cut 33 = .ok (.iaload, 1) := by decide +kernel
theorem dX9_cut_34 : decode cX9_cut 34 = .ok (.iconst 1, 1) := by decide +kernel
theorem dX9_cut_35 : decode cX9_cut 35 = .ok (.isub, 1) := by decide +kernel
theorem dX9_cut_36 : decode cX9_cut 36 = .ok (.istore 5, 2) := by decide +kernel
theorem dX9_cut_38 : decode cX9_cut 38 = .ok (.iload 5, 2) := by decide +kernel
theorem dX9_cut_40 : decode cX9_cut 40 = .ok (.iload 4, 2) := by decide +kernel
theorem dX9_cut_42 : decode cX9_cut 42 = .ok (.iconst 3, 1) := by decide +kernel
theorem dX9_cut_43 : decode cX9_cut 43 = .ok (.iadd, 1) := by decide +kernel
theorem dX9_cut_44 : decode cX9_cut 44 = .ok (.if_icmp .lt 21, 3) := by decide +kernel
theorem dX9_cut_47 : decode cX9_cut 47 = .ok (.aload_n 0, 1) := by decide +kernel
theorem dX9_cut_48 : decode cX9_cut 48 = .ok (.iload_n 1, 1) := by decide +kernel
theorem dX9_cut_49 : decode cX9_cut 49 = .ok (.iload 4, 2) := by decide +kernel
theorem dX9_cut_51 : decode cX9_cut 51 = .ok (.iload 5, 2) := by decide +kernel
theorem dX9_cut_53 : decode cX9_cut 53 = .ok (.invokevirtual 147, 3) := by decide +kernel
theorem dX9_cut_56 : decode cX9_cut 56 = .ok (.ifCond .ne 9, 3) := by decide +kernel
theorem dX9_cut_59 : decode cX9_cut 59 = .ok (.iinc 5 (-1), 3) := by decide +kernel
theorem dX9_cut_62 : decode cX9_cut 62 = .ok (.goto (-24), 3) := by decide +kernel
theorem dX9_cut_65 : decode cX9_cut 65 = .ok (.iload 5, 2) := by decide +kernel
theorem dX9_cut_67 : decode cX9_cut 67 = .ok (.iload 4, 2) := by decide +kernel
theorem dX9_cut_69 : decode cX9_cut 69 = .ok (.iconst 3, 1) := by decide +kernel
theorem dX9_cut_70 : decode cX9_cut 70 = .ok (.iadd, 1) := by decide +kernel
theorem dX9_cut_71 : decode cX9_cut 71 = .ok (.if_icmp .ge 6, 3) := by decide +kernel
theorem dX9_cut_74 : decode cX9_cut 74 = .ok (.goto 114, 3) := by decide +kernel
theorem dX9_cut_77 : decode cX9_cut 77 = .ok (.iconst 1, 1) := by decide +kernel
theorem dX9_cut_78 : decode cX9_cut 78 = .ok (.istore_n 3, 1) := by decide +kernel
theorem dX9_cut_79 : decode cX9_cut 79 = .ok (.iconst 1, 1) := by decide +kernel
theorem dX9_cut_80 : decode cX9_cut 80 = .ok (.istore_n 2, 1) := by decide +kernel
theorem dX9_cut_81 : decode cX9_cut 81 = .ok (.iload_n 1, 1) := by decide +kernel
theorem dX9_cut_82 : decode cX9_cut 82 = .ok (.ifCond .ne 11, 3) := by decide +kernel
theorem dX9_cut_85 : decode cX9_cut 85 = .ok (.aload_n 0, 1) := by decide +kernel
theorem dX9_cut_86 : decode cX9_cut 86 = .ok (.iload 4, 2) := by decide +kernel
theorem dX9_cut_88 : decode cX9_cut 88 = .ok (.iload 5, 2) := by decide +kernel
theorem dX9_cut_90 : decode cX9_cut 90 = .ok (.invokevirtual 150, 3) := by decide +kernel
theorem dX9_cut_93 : decode cX9_cut 93 = .ok (.iload 5, 2) := by decide +kernel
theorem dX9_cut_95 : decode cX9_cut 95 = .ok (.iload 4, 2) := by decide +kernel
theorem dX9_cut_97 : decode cX9_cut 97 = .ok (.isub, 1) := by decide +kernel
theorem dX9_cut_98 : decode cX9_cut 98 = .ok (.iconst 1, 1) := by decide +kernel
theorem dX9_cut_99 : decode cX9_cut 99 = .ok (.isub, 1) := by decide +kernel
theorem dX9_cut_100 : decode cX9_cut 100 = .ok (.istore 6, 2) := by decide +kernel
theorem dX9_cut_102 : decode cX9_cut 102 = .ok (.iload 5, 2) := by decide +kernel
theorem dX9_cut_104 : decode cX9_cut 104 = .ok (.istore 7, 2) := by decide +kernel
theorem dX9_cut_106 : decode cX9_cut 106 = .ok (.iload 7, 2) := by decide +kernel
theorem dX9_cut_108 : decode cX9_cut 108 = .ok (.aload_n 0, 1) := by decide +kernel
theorem dX9_cut_109 : decode cX9_cut 109 = .ok (.getfield 34, 3) := by decide +kernel
theorem dX9_cut_112 : decode cX9_cut 112 = .ok (.iload_n 1, 1) := by decide +kernel
theorem dX9_cut_113 : decode cX9_cut 113 = .ok (.iaload, 1) := by decide +kernel
theorem dX9_cut_114 : decode cX9_cut 114 = .ok (.if_icmp .ge 63, 3) := by decide +kernel
theorem dX9_cut_117 : decode cX9_cut 117 = .ok (.aload_n 0, 1) := by decide +kernel
theorem dX9_cut_118 : decode cX9_cut 118 = .ok (.getfield 27, 3) := by decide +kernel
theorem dX9_cut_121 : decode cX9_cut 121 = .ok (.bipush 48, 2) := by decide +kernel
theorem dX9_cut_123 : decode cX9_cut 123 = .ok (.iload_n 1, 1) := by decide +kernel
theorem dX9_cut_124 : decode cX9_cut 124 = .ok (.imul, 1) := by decide +kernel
theorem dX9_cut_125 : decode cX9_cut 125 = .ok (.iload 7, 2) := by decide +kernel
theorem dX9_cut_127 : decode cX9_cut 127 = .ok (.iadd, 1) := by decide +kernel
theorem dX9_cut_128 : decode cX9_cut 128 = .ok (.iload 6, 2) := by decide +kernel
theorem dX9_cut_130 : decode cX9_cut 130 = .ok (.isub, 1) := by decide +kernel
theorem dX9_cut_131 : decode cX9_cut 131 = .ok (.aload_n 0, 1) := by decide +kernel
theorem dX9_cut_132 : decode cX9_cut 132 = .ok (.getfield 27, 3) := by decide +kernel
theorem dX9_cut_135 : decode cX9_cut 135 = .ok (.bipush 48, 2) := by decide +kernel
theorem dX9_cut_137 : decode cX9_cut 137 = .ok (.iload_n 1, 1) := by decide +kernel
theorem dX9_cut_138 : decode cX9_cut 138 = .ok (.imul, 1) := by decide +kernel
theorem dX9_cut_139 : decode cX9_cut 139 = .ok (.iload 7, 2) := by decide +kernel
theorem dX9_cut_141 : decode cX9_cut 141 = .ok (.iadd, 1) := by decide +kernel
theorem dX9_cut_142 : decode cX9_cut 142 = .ok (.iaload, 1) := by decide +kernel
theorem dX9_cut_143 : decode cX9_cut 143 = .ok (.iastore, 1) := by decide +kernel
theorem dX9_cut_144 : decode cX9_cut 144 = .ok (.aload_n 0, 1) := by decide +kernel
theorem dX9_cut_145 : decode cX9_cut 145 = .ok (.getfield 31, 3) := by decide +kernel
theorem dX9_cut_148 : decode cX9_cut 148 = .ok (.bipush 48, 2) := by decide +kernel
theorem dX9_cut_150 : decode cX9_cut 150 = .ok (.iload_n 1, 1) := by decide +kernel
theorem dX9_cut_151 : decode cX9_cut 151 = .ok (.imul, 1) := by decide +kernel
theorem dX9_cut_152 : decode cX9_cut 152 = .ok (.iload 7, 2) := by decide +kernel
theorem dX9_cut_154 : decode cX9_cut 154 = .ok (.iadd, 1) := by decide +kernel
theorem dX9_cut_155 : decode cX9_cut 155 = .ok (.iload 6, 2) := by decide +kernel
theorem dX9_cut_157 : decode cX9_cut 157 = .ok (.isub, 1) := by decide +kernel
theorem dX9_cut_158 : decode cX9_cut 158 = .ok (.aload_n 0, 1) := by decide +kernel
theorem dX9_cut_159 : decode cX9_cut 159 = .ok (.getfield 31, 3) := by decide +kernel
theorem dX9_cut_162 : decode cX9_cut 162 = .ok (.bipush 48, 2) := by decide +kernel
theorem dX9_cut_164 : decode cX9_cut 164 = .ok (.iload_n 1, 1) := by decide +kernel
theorem dX9_cut_165 : decode cX9_cut 165 = .ok (.imul, 1) := by decide +kernel
theorem dX9_cut_166 : decode cX9_cut 166 = .ok (.iload 7, 2) := by decide +kernel
theorem dX9_cut_168 : decode cX9_cut 168 = .ok (.iadd, 1) := by decide +kernel
theorem dX9_cut_169 : decode cX9_cut 169 = .ok (.iaload, 1) := by decide +kernel
theorem dX9_cut_170 : decode cX9_cut 170 = .ok (.iastore, 1) := by decide +kernel
theorem dX9_cut_171 : decode cX9_cut 171 = .ok (.iinc 7 1, 3) := by decide +kernel
theorem dX9_cut_174 : decode cX9_cut 174 = .ok (.goto (-68), 3) := by decide +kernel
theorem dX9_cut_177 : decode cX9_cut 177 = .ok (.aload_n 0, 1) := by decide +kernel
theorem dX9_cut_178 : decode cX9_cut 178 = .ok (.getfield 34, 3) := by decide +kernel
theorem dX9_cut_181 : decode cX9_cut 181 = .ok (.iload_n 1, 1) := by decide +kernel
theorem dX9_cut_182 : decode cX9_cut 182 = .ok (.dup2, 1) := by decide +kernel
theorem dX9_cut_183 : decode cX9_cut 183 = .ok (.iaload, 1) := by decide +kernel
theorem dX9_cut_184 : decode cX9_cut 184 = .ok (.iload 6, 2) := by decide +kernel
theorem dX9_cut_186 : decode cX9_cut 186 = .ok (.isub, 1) := by decide +kernel
theorem dX9_cut_187 : decode cX9_cut 187 = .ok (.iastore, 1) := by decide +kernel
theorem dX9_cut_188 : decode cX9_cut 188 = .ok (.iinc 4 1, 3) := by decide +kernel
theorem dX9_cut_191 : decode cX9_cut 191 = .ok (.goto (-178), 3) := by decide +kernel
theorem dX9_cut_194 : decode cX9_cut 194 = .ok (.goto (-190), 3) := by decide +kernel
theorem dX9_cut_197 : decode cX9_cut 197 = .ok (.iload_n 2, 1) := by decide +kernel
theorem dX9_cut_198 : decode cX9_cut 198 = .ok (.ireturn, 1) := by decide +kernel
set_option maxRecDepth 20000 in
theorem ggX9_note_X9_area : GoodIn wsX9_note wsX9_area := goodIn_r _ [10, 11, 12, 13, 14, 9, 15, 16, 17, 18, 19, 20, 21, 22, 23, 24, 25, 26, 27, 28, 29, 30, 31, 32, 33, 34, 35, 36, 37, 38, 39, 40, 41, 42, 43, 44, 45, 46, 47, 48, 49, 50, 51] (by decide +kernel) (by decide +kernel)
set_option maxRecDepth 20000 in
theorem gX9_note_X9_area : GoodIn wsX9_note (wsV RX9 153 RX9 yX9_area wsX9_area) := goodIn_app (goodIn_of _ (by decide +kernel)) ggX9_note_X9_area
theorem dX9_note_0 : decode cX9_note 0 = .ok (.aload_n 0, 1) := by decide +kernel
theorem dX9_note_1 : decode cX9_note 1 = .ok (.getfield 123, 3) := by decide +kernel
theorem dX9_note_4 : decode cX9_note 4 = .ok (.bipush 30, 2) := by decide +kernel
theorem dX9_note_6 : decode cX9_note 6 = .ok (.if_icmp .ne 4, 3) := by decide +kernel
theorem dX9_note_9 : decode cX9_note 9 = .ok (.return_, 1) := by decide +kernel
theorem dX9_note_10 : decode cX9_note 10 = .ok (.aload_n 0, 1) := by decide +kernel
theorem dX9_note_11 : decode cX9_note 11 = .ok (.getfield 70, 3) := by decide +kernel
theorem dX9_note_14 : decode cX9_note 14 = .ok (.aload_n 0, 1) := by decide +kernel
theorem dX9_note_15 : decode cX9_note 15 = .ok (.getfield 123, 3) := by decide +kernel
theorem dX9_note_18 : decode cX9_note 18 = .ok (.aload_n 0, 1) := by decide +kernel
theorem dX9_note_19 : decode cX9_note 19 = .ok (.getfield 120, 3) := by decide +kernel
theorem dX9_note_22 : decode cX9_note 22 = .ok (.iastore, 1) := by decide +kernel
theorem dX9_note_23 : decode cX9_note 23 = .ok (.aload_n 0, 1) := by decide +kernel
theorem dX9_note_24 : decode cX9_note 24 = .ok (.getfield 73, 3) := by decide +kernel
theorem dX9_note_27 : decode cX9_note 27 = .ok (.aload_n 0, 1) := by decide +kernel
theorem dX9_note_28 : decode cX9_note 28 = .ok (.getfield 123, 3) := by decide +kernel
theorem dX9_note_31 : decode cX9_note 31 = .ok (.iload_n 2, 1) := by decide +kernel
theorem dX9_note_32 : decode cX9_note 32 = .ok (.iload_n 1, 1) := by decide +kernel
theorem dX9_note_33 : decode cX9_note 33 = .ok (.isub, 1) := by decide +kernel
theorem dX9_note_34 : decode cX9_note 34 = .ok (.iconst 1, 1) := by decide +kernel
theorem dX9_note_35 : decode cX9_note 35 = .ok (.isub, 1) := by decide +kernel
theorem dX9_note_36 : decode cX9_note 36 = .ok (.iastore, 1) := by decide +kernel
theorem dX9_note_37 : decode cX9_note 37 = .ok (.aload_n 0, 1) := by decide +kernel
theorem dX9_note_38 : decode cX9_note 38 = .ok (.getfield 76, 3) := by decide +kernel
theorem dX9_note_41 : decode cX9_note 41 = .ok (.aload_n 0, 1) := by decide +kernel
theorem dX9_note_42 : decode cX9_note 42 = .ok (.getfield 123, 3) := by decide +kernel
theorem dX9_note_45 : decode cX9_note 45 = .ok (.aload_n 0, 1) := by decide +kernel
theorem dX9_note_46 : decode cX9_note 46 = .ok (.iconst 0, 1) := by decide +kernel
theorem dX9_note_47 : decode cX9_note 47 = .ok (.iload_n 1, 1) := by decide +kernel
theorem dX9_note_48 : decode cX9_note 48 = .ok (.iload_n 2, 1) := by decide +kernel
theorem dX9_note_49 : decode cX9_note 49 = .ok (.invokevirtual 153, 3) := by decide +kernel
theorem dX9_note_52 : decode cX9_note 52 = .ok (.iastore, 1) := by decide +kernel
theorem dX9_note_53 : decode cX9_note 53 = .ok (.aload_n 0, 1) := by decide +kernel
theorem dX9_note_54 : decode cX9_note 54 = .ok (.dup, 1) := by decide +kernel
theorem dX9_note_55 : decode cX9_note 55 = .ok (.getfield 123, 3) := by decide +kernel
theorem dX9_note_58 : decode cX9_note 58 = .ok (.iconst 1, 1) := by decide +kernel
theorem dX9_note_59 : decode cX9_note 59 = .ok (.iadd, 1) := by decide +kernel
theorem dX9_note_60 : decode cX9_note 60 = .ok (.putfield 123, 3) := by decide +kernel
theorem dX9_note_63 : decode cX9_note 63 = .ok (.return_, 1) := by decide +kernel
set_option maxRecDepth 20000 in
theorem ggX9_go_X9_isIn : GoodIn wsX9_go wsX9_isIn := goodIn_r _ [13] (by decide +kernel) (by decide +kernel)
set_option maxRecDepth 20000 in
theorem gX9_go_X9_isIn : GoodIn wsX9_go (va_wsS RX9 133 yX9_isIn wsX9_isIn) := goodIn_app (goodIn_of _ (by decide +kernel)) ggX9_go_X9_isIn
set_option maxRecDepth 20000 in
theorem ggX9_go_X9_sideOf : GoodIn wsX9_go wsX9_sideOf := goodIn_r _ [17, 18, 19, 20, 70, 71, 72, 73, 74, 75, 76, 77, 78, 79, 80, 81, 82, 83, 84, 85, 86, 87, 88, 89, 90, 91, 92, 93, 94, 95, 96, 97, 98, 99, 100, 101, 102, 103, 104, 105] (by decide +kernel) (by decide +kernel)
set_option maxRecDepth 20000 in
theorem gX9_go_X9_sideOf : GoodIn wsX9_go (wsV RX9 129 RX9 yX9_sideOf wsX9_sideOf) := goodIn_app (goodIn_of _ (by decide +kernel)) ggX9_go_X9_sideOf
set_option maxRecDepth 20000 in
theorem ggX9_go_X9_move : GoodIn wsX9_go wsX9_move := goodIn_r _ [24, 18, 25, 26, 19, 20, 27, 28, 29, 12, 30, 31, 32, 33, 34, 35, 36, 37, 38, 70, 71, 72, 73, 74, 75, 76, 77, 78, 79, 80, 81, 82, 83, 84, 85, 86, 87, 88, 89, 90, 91, 92, 93, 94, 95, 96, 97, 98, 99, 100, 101, 102, 103, 104, 105] (by decide +kernel) (by decide +kernel)
set_option maxRecDepth 20000 in
theorem gX9_go_X9_move : GoodIn wsX9_go (wsV RX9 156 RX9 yX9_move wsX9_move) := goodIn_app (goodIn_of _ (by decide +kernel)) ggX9_go_X9_move
set_option maxRecDepth 20000 in
theorem ggX9_go_X9_space : GoodIn wsX9_go wsX9_space := goodIn_r _ [42, 18, 19, 20, 43, 44, 45, 46, 47, 12, 48, 70, 71, 72, 73, 74, 75, 76, 77, 78, 79, 80, 81, 82, 83, 84, 85, 86, 87, 88, 89, 90, 91, 92, 93, 94, 95, 96, 97, 98, 99, 100, 101, 102, 103, 104, 105] (by decide +kernel) (by decide +kernel)
set_option maxRecDepth 20000 in
theorem gX9_go_X9_space : GoodIn wsX9_go (wsV RX9 159 RX9 yX9_space wsX9_space) := goodIn_app (goodIn_of _ (by decide +kernel)) ggX9_go_X9_space
set_option maxRecDepth 20000 in
theorem ggX9_go_X9_cut : GoodIn wsX9_go wsX9_cut := goodIn_r _ [52, 18, 19, 20, 53, 54, 55, 12, 56, 57, 46, 47, 48, 58, 59, 60, 61, 62, 63, 2, 64, 65, 66, 67, 68, 69, 70, 71, 72, 73, 74, 75, 76, 77, 78, 79, 80, 81, 82, 83, 84, 85, 86, 87, 88, 89, 90, 91, 92, 93, 94, 95, 96, 97, 98, 99, 100, 101, 102, 103, 104, 105] (by decide +kernel) (by decide +kernel)
set_option maxRecDepth 20000 in
theorem gX9_go_X9_cut : GoodIn wsX9_go (wsV RX9 162 RX9 yX9_cut wsX9_cut) := goodIn_app (goodIn_of _ (by decide +kernel)) ggX9_go_X9_cut
theorem dX9_go_0 : decode cX9_go 0 = .ok (.aload_n 0, 1) := by decide +kernel
theorem dX9_go_1 : decode cX9_go 1 = .ok (.iconst 0, 1) := by decide +kernel
theorem dX9_go_2 : decode cX9_go 2 = .ok (.putfield 1, 3) := by decide +kernel
theorem dX9_go_5 : decode cX9_go 5 = .ok (.iload_n 1, 1) := by decide +kernel
theorem dX9_go_6 : decode cX9_go 6 = .ok (.iconst 0, 1) := by decide +kernel
theorem dX9_go_7 : decode cX9_go 7 = .ok (.sipush 200, 3) := by decide +kernel
theorem dX9_go_10 : decode cX9_go 10 = .ok (.invokestatic 133, 3) := by decide +kernel
theorem dX9_go_13 : decode cX9_go 13 = .ok (.ifCond .ne 5, 3) := by decide +kernel
theorem dX9_go_16 : decode cX9_go 16 = .ok (.iconst (-1), 1) := by decide +kernel
theorem dX9_go_17 : decode cX9_go 17 = .ok (.ireturn, 1) := by decide +kernel
theorem dX9_go_18 : decode cX9_go 18 = .ok (.iconst 0, 1) := by decide +kernel
theorem dX9_go_19 : decode cX9_go 19 = .ok (.istore_n 2, 1) := by decide +kernel
theorem dX9_go_20 : decode cX9_go 20 = .ok (.iload_n 2, 1) := by decide +kernel
theorem dX9_go_21 : decode cX9_go 21 = .ok (.iload_n 1, 1) := by decide +kernel
theorem dX9_go_22 : decode cX9_go 22 = .ok (.if_icmp .ge 170, 3) := by decide +kernel
theorem dX9_go_25 : decode cX9_go 25 = .ok (.aload_n 0, 1) := by decide +kernel
theorem dX9_go_26 : decode cX9_go 26 = .ok (.getfield 120, 3) := by decide +kernel
theorem dX9_go_29 : decode cX9_go 29 = .ok (.sipush 999, 3) := by decide +kernel
theorem dX9_go_32 : decode cX9_go 32 = .ok (.if_icmp .ge 160, 3) := by decide +kernel
theorem dX9_go_35 : decode cX9_go 35 = .ok (.aload_n 0, 1) := by decide +kernel
theorem dX9_go_36 : decode cX9_go 36 = .ok (.dup, 1) := by decide +kernel
theorem dX9_go_37 : decode cX9_go 37 = .ok (.getfield 120, 3) := by decide +kernel
theorem dX9_go_40 : decode cX9_go 40 = .ok (.iconst 1, 1) := by decide +kernel
theorem dX9_go_41 : decode cX9_go 41 = .ok (.iadd, 1) := by decide +kernel
theorem dX9_go_42 : decode cX9_go 42 = .ok (.putfield 120, 3) := by decide +kernel
theorem dX9_go_45 : decode cX9_go 45 = .ok (.iconst 0, 1) := by decide +kernel
theorem dX9_go_46 : decode cX9_go 46 = .ok (.istore_n 3, 1) := by decide +kernel
theorem dX9_go_47 : decode cX9_go 47 = .ok (.iload_n 3, 1) := by decide +kernel
theorem dX9_go_48 : decode cX9_go 48 = .ok (.aload_n 0, 1) := by decide +kernel
theorem dX9_go_49 : decode cX9_go 49 = .ok (.getfield 126, 3) := by decide +kernel
theorem dX9_go_52 : decode cX9_go 52 = .ok (.if_icmp .ge 32, 3) := by decide +kernel
theorem dX9_go_55 : decode cX9_go 55 = .ok (.aload_n 0, 1) := by decide +kernel
theorem dX9_go_56 : decode cX9_go 56 = .ok (.getfield 91, 3) := by decide +kernel
theorem dX9_go_59 : decode cX9_go 59 = .ok (.iload_n 3, 1) := by decide +kernel
theorem dX9_go_60 : decode cX9_go 60 = .ok (.aload_n 0, 1) := by decide +kernel
theorem dX9_go_61 : decode cX9_go 61 = .ok (.iconst 0, 1) := by decide +kernel
theorem dX9_go_62 : decode cX9_go 62 = .ok (.aload_n 0, 1) := by decide +kernel
theorem dX9_go_63 : decode cX9_go 63 = .ok (.getfield 79, 3) := by decide +kernel
theorem dX9_go_66 : decode cX9_go 66 = .ok (.iload_n 3, 1) := by decide +kernel
theorem dX9_go_67 : decode cX9_go 67 = .ok (.iaload, 1) := by decide +kernel
theorem dX9_go_68 : decode cX9_go 68 = .ok (.aload_n 0, 1) := by decide +kernel
theorem dX9_go_69 : decode cX9_go 69 = .ok (.getfield 82, 3) := by decide +kernel
theorem dX9_go_72 : decode cX9_go 72 = .ok (.iload_n 3, 1) := by decide +kernel
theorem dX9_go_73 : decode cX9_go 73 = .ok (.iaload, 1) := by decide +kernel
theorem dX9_go_74 : decode cX9_go 74 = .ok (.invokevirtual 129, 3) := by decide +kernel
theorem dX9_go_77 : decode cX9_go 77 = .ok (.iastore, 1) := by decide +kernel
theorem dX9_go_78 : decode cX9_go 78 = .ok (.iinc 3 1, 3) := by decide +kernel
theorem dX9_go_81 : decode cX9_go 81 = .ok (.goto (-34), 3) := by decide +kernel
theorem dX9_go_84 : decode cX9_go 84 = .ok (.aload_n 0, 1) := by decide +kernel
theorem dX9_go_85 : decode cX9_go 85 = .ok (.iconst 0, 1) := by decide +kernel
theorem dX9_go_86 : decode cX9_go 86 = .ok (.aload_n 0, 1) := by decide +kernel
theorem dX9_go_87 : decode cX9_go 87 = .ok (.getfield 40, 3) := by decide +kernel
theorem dX9_go_90 : decode cX9_go 90 = .ok (.invokevirtual 156, 3) := by decide +kernel
theorem dX9_go_93 : decode cX9_go 93 = .ok (.aload_n 0, 1) := by decide +kernel
theorem dX9_go_94 : decode cX9_go 94 = .ok (.iconst 0, 1) := by decide +kernel
theorem dX9_go_95 : decode cX9_go 95 = .ok (.invokevirtual 159, 3) := by decide +kernel
theorem dX9_go_98 : decode cX9_go 98 = .ok (.iconst 0, 1) := by decide +kernel
theorem dX9_go_99 : decode cX9_go 99 = .ok (.istore_n 3, 1) := by decide +kernel
theorem dX9_go_100 : decode cX9_go 100 = .ok (.iload_n 3, 1) := by decide +kernel
theorem dX9_go_101 : decode cX9_go 101 = .ok (.aload_n 0, 1) := by decide +kernel
theorem dX9_go_102 : decode cX9_go 102 = .ok (.getfield 126, 3) := by decide +kernel
theorem dX9_go_105 : decode cX9_go 105 = .ok (.if_icmp .ge 75, 3) := by decide +kernel
theorem dX9_go_108 : decode cX9_go 108 = .ok (.aload_n 0, 1) := by decide +kernel
theorem dX9_go_109 : decode cX9_go 109 = .ok (.iconst 0, 1) := by decide +kernel
theorem dX9_go_110 : decode cX9_go 110 = .ok (.aload_n 0, 1) := by decide +kernel
theorem dX9_go_111 : decode cX9_go 111 = .ok (.getfield 79, 3) := by decide +kernel
theorem dX9_go_114 : decode cX9_go 114 = .ok (.iload_n 3, 1) := by decide +kernel
theorem dX9_go_115 : decode cX9_go 115 = .ok (.iaload, 1) := by decide +kernel
theorem dX9_go_116 : decode cX9_go 116 = .ok (.aload_n 0, 1) := by decide +kernel
theorem dX9_go_117 : decode cX9_go 117 = .ok (.getfield 82, 3) := by decide +kernel
theorem dX9_go_120 : decode cX9_go 120 = .ok (.iload_n 3, 1) := by decide +kernel
theorem dX9_go_121 : decode cX9_go 121 = .ok (.iaload, 1) := by decide +kernel
theorem dX9_go_122 : decode cX9_go 122 = .ok (.invokevirtual 129, 3) := by decide +kernel
theorem dX9_go_125 : decode cX9_go 125 = .ok (.istore 4, 2) := by decide +kernel
theorem dX9_go_127 : decode cX9_go 127 = .ok (.iload 4, 2) := by decide +kernel
theorem dX9_go_129 : decode cX9_go 129 = .ok (.aload_n 0, 1) := by decide +kernel
theorem dX9_go_130 : decode cX9_go 130 = .ok (.getfield 91, 3) := by decide +kernel
theorem dX9_go_133 : decode cX9_go 133 = .ok (.iload_n 3, 1) := by decide +kernel
theorem dX9_go_134 : decode cX9_go 134 = .ok (.iaload, 1) := by decide +kernel
theorem dX9_go_135 : decode cX9_go 135 = .ok (.if_icmp .ne 6, 3) := by decide +kernel
theorem dX9_go_138 : decode cX9_go 138 = .ok (.goto 36, 3) := by decide +kernel
theorem dX9_go_141 : decode cX9_go 141 = .ok (.aload_n 0, 1) := by decide +kernel
theorem dX9_go_142 : decode cX9_go 142 = .ok (.getfield 88, 3) := by decide +kernel
theorem dX9_go_145 : decode cX9_go 145 = .ok (.iload_n 3, 1) := by decide +kernel
theorem dX9_go_146 : decode cX9_go 146 = .ok (.dup2, 1) := by decide +kernel
theorem dX9_go_147 : decode cX9_go 147 = .ok (.iaload, 1) := by decide +kernel
theorem dX9_go_148 : decode cX9_go 148 = .ok (.aload_n 0, 1) := by decide +kernel
theorem dX9_go_149 : decode cX9_go 149 = .ok (.getfield 85, 3) := by decide +kernel
theorem dX9_go_152 : decode cX9_go 152 = .ok (.iload_n 3, 1) := by decide +kernel
theorem dX9_go_153 : decode cX9_go 153 = .ok (.iaload, 1) := by decide +kernel
theorem dX9_go_154 : decode cX9_go 154 = .ok (.iload 4, 2) := by decide +kernel
theorem dX9_go_156 : decode cX9_go 156 = .ok (.if_icmp .ne 7, 3) := by decide +kernel
theorem dX9_go_159 : decode cX9_go 159 = .ok (.iconst 0, 1) := by decide +kernel
theorem dX9_go_160 : decode cX9_go 160 = .ok (.goto 4, 3) := by decide +kernel
theorem dX9_go_163 : decode cX9_go 163 = .ok (.iconst 1, 1) := by decide +kernel
theorem dX9_go_164 : decode cX9_go 164 = .ok (.iadd, 1) := by decide +kernel
theorem dX9_go_165 : decode cX9_go 165 = .ok (.iastore, 1) := by decide +kernel
theorem dX9_go_166 : decode cX9_go 166 = .ok (.aload_n 0, 1) := by decide +kernel
theorem dX9_go_167 : decode cX9_go 167 = .ok (.getfield 85, 3) := by decide +kernel
theorem dX9_go_170 : decode cX9_go 170 = .ok (.iload_n 3, 1) := by decide +kernel
theorem dX9_go_171 : decode cX9_go 171 = .ok (.iload 4, 2) := by decide +kernel
theorem dX9_go_173 : decode cX9_go 173 = .ok (.iastore, 1) := by decide +kernel
theorem dX9_go_174 : decode cX9_go 174 = .ok (.iinc 3 1, 3) := by decide +kernel
theorem dX9_go_177 : decode cX9_go 177 = .ok (.goto (-77), 3) := by decide +kernel
theorem dX9_go_180 : decode cX9_go 180 = .ok (.aload_n 0, 1) := by decide +kernel
theorem dX9_go_181 : decode cX9_go 181 = .ok (.iconst 0, 1) := by decide +kernel
theorem dX9_go_182 : decode cX9_go 182 = .ok (.invokevirtual 162, 3) := by decide +kernel
theorem dX9_go_185 : decode cX9_go 185 = .ok (.pop, 1) := by decide +kernel
theorem dX9_go_186 : decode cX9_go 186 = .ok (.iinc 2 1, 3) := by decide +kernel
theorem dX9_go_189 : decode cX9_go 189 = .ok (.goto (-169), 3) := by decide +kernel
theorem dX9_go_192 : decode cX9_go 192 = .ok (.aload_n 0, 1) := by decide +kernel
theorem dX9_go_193 : decode cX9_go 193 = .ok (.getfield 120, 3) := by decide +kernel
theorem dX9_go_196 : decode cX9_go 196 = .ok (.ireturn, 1) := by decide +kernel
set_option maxRecDepth 20000 in
theorem ggX9_point_X9_throwsIf : GoodIn wsX9_point wsX9_throwsIf := goodIn_r _ [8, 9, 10, 11, 12, 13, 14, 15, 16, 17, 18, 19, 20, 21, 22, 23, 24, 25, 26, 27, 28, 29, 30, 31, 32, 33, 34, 35, 36, 37, 38, 39, 40, 41, 42, 43, 44, 45] (by decide +kernel) (by decide +kernel)
set_option maxRecDepth 20000 in
theorem gX9_point_X9_throwsIf : GoodIn wsX9_point (wsV RX9 166 RX9 yX9_throwsIf wsX9_throwsIf) := goodIn_app (goodIn_of _ (by decide +kernel)) ggX9_point_X9_throwsIf
theorem dX9_point_0 : decode cX9_point 0 = .ok (.aload_n 0, 1) := by decide +kernel
theorem dX9_point_1 : decode cX9_point 1 = .ok (.iload_n 1, 1) := by decide +kernel
theorem dX9_point_2 : decode cX9_point 2 = .ok (.ifCond .lt 22, 3) := by decide +kernel
theorem dX9_point_5 : decode cX9_point 5 = .ok (.iload_n 1, 1) := by decide +kernel
theorem dX9_point_6 : decode cX9_point 6 = .ok (.aload_n 0, 1) := by decide +kernel
theorem dX9_point_7 : decode cX9_point 7 = .ok (.getfield 34, 3) := by decide +kernel
theorem dX9_point_10 : decode cX9_point 10 = .ok (.iconst 0, 1) := by decide +kernel
theorem dX9_point_11 : decode cX9_point 11 = .ok (.iaload, 1) := by decide +kernel
theorem dX9_point_12 : decode cX9_point 12 = .ok (.if_icmp .ge 12, 3) := by decide +kernel
theorem dX9_point_15 : decode cX9_point 15 = .ok (.iload_n 2, 1) := by decide +kernel
theorem dX9_point_16 : decode cX9_point 16 = .ok (.ifCond .lt 8, 3) := by decide +kernel
theorem dX9_point_19 : decode cX9_point 19 = .ok (.iload_n 2, 1) := by decide +kernel
theorem dX9_point_20 : decode cX9_point 20 = .ok (.iconst 1, 1) := by decide +kernel
theorem dX9_point_21 : decode cX9_point 21 = .ok (.if_icmp .le 7, 3) := by decide +kernel
theorem dX9_point_24 : decode cX9_point 24 = .ok (.iconst 1, 1) := by decide +kernel
theorem dX9_point_25 : decode cX9_point 25 = .ok (.goto 4, 3) := by decide +kernel
theorem dX9_point_28 : decode cX9_point 28 = .ok (.iconst 0, 1) := by decide +kernel
theorem dX9_point_29 : decode cX9_point 29 = .ok (.invokevirtual 166, 3) := by decide +kernel
theorem dX9_point_32 : decode cX9_point 32 = .ok (.ifCond .eq 5, 3) := by decide +kernel
theorem dX9_point_35 : decode cX9_point 35 = .ok (.iconst 0, 1) := by decide +kernel
theorem dX9_point_36 : decode cX9_point 36 = .ok (.ireturn, 1) := by decide +kernel
theorem dX9_point_37 : decode cX9_point 37 = .ok (.iload_n 2, 1) := by decide +kernel
theorem dX9_point_38 : decode cX9_point 38 = .ok (.ifCond .ne 12, 3) := by decide +kernel
theorem dX9_point_41 : decode cX9_point 41 = .ok (.aload_n 0, 1) := by decide +kernel
theorem dX9_point_42 : decode cX9_point 42 = .ok (.getfield 27, 3) := by decide +kernel
theorem dX9_point_45 : decode cX9_point 45 = .ok (.iload_n 1, 1) := by decide +kernel
theorem dX9_point_46 : decode cX9_point 46 = .ok (.iaload, 1) := by decide +kernel
theorem dX9_point_47 : decode cX9_point 47 = .ok (.goto 9, 3) := by decide +kernel
theorem dX9_point_50 : decode cX9_point 50 = .ok (.aload_n 0, 1) := by decide +kernel
theorem dX9_point_51 : decode cX9_point 51 = .ok (.getfield 31, 3) := by decide +kernel
theorem dX9_point_54 : decode cX9_point 54 = .ok (.iload_n 1, 1) := by decide +kernel
theorem dX9_point_55 : decode cX9_point 55 = .ok (.iaload, 1) := by decide +kernel
theorem dX9_point_56 : decode cX9_point 56 = .ok (.ireturn, 1) := by decide +kernel
set_option maxRecDepth 20000 in
theorem ggX9_loop_X9_throwsIf : GoodIn wsX9_loop wsX9_throwsIf := goodIn_r _ [9, 10, 11, 12, 13, 14, 15, 16, 17, 18, 19, 20, 21, 22, 23, 24, 25, 26, 27, 28, 29, 30, 31, 32, 33, 34, 35, 36, 37, 38, 39, 40, 41, 42, 43, 44, 45, 46] (by decide +kernel) (by decide +kernel)
set_option maxRecDepth 20000 in
theorem gX9_loop_X9_throwsIf : GoodIn wsX9_loop (wsV RX9 166 RX9 yX9_throwsIf wsX9_throwsIf) := goodIn_app (goodIn_of _ (by decide +kernel)) ggX9_loop_X9_throwsIf
theorem dX9_loop_0 : decode cX9_loop 0 = .ok (.aload_n 0, 1) := by decide +kernel
theorem dX9_loop_1 : decode cX9_loop 1 = .ok (.iload_n 1, 1) := by decide +kernel
theorem dX9_loop_2 : decode cX9_loop 2 = .ok (.ifCond .lt 20, 3) := by decide +kernel
theorem dX9_loop_5 : decode cX9_loop 5 = .ok (.iload_n 1, 1) := by decide +kernel
theorem dX9_loop_6 : decode cX9_loop 6 = .ok (.aload_n 0, 1) := by decide +kernel
theorem dX9_loop_7 : decode cX9_loop 7 = .ok (.getfield 123, 3) := by decide +kernel
theorem dX9_loop_10 : decode cX9_loop 10 = .ok (.if_icmp .ge 12, 3) := by decide +kernel
theorem dX9_loop_13 : decode cX9_loop 13 = .ok (.iload_n 2, 1) := by decide +kernel
theorem dX9_loop_14 : decode cX9_loop 14 = .ok (.ifCond .lt 8, 3) := by decide +kernel
theorem dX9_loop_17 : decode cX9_loop 17 = .ok (.iload_n 2, 1) := by decide +kernel
theorem dX9_loop_18 : decode cX9_loop 18 = .ok (.iconst 2, 1) := by decide +kernel
theorem dX9_loop_19 : decode cX9_loop 19 = .ok (.if_icmp .le 7, 3) := by decide +kernel
theorem dX9_loop_22 : decode cX9_loop 22 = .ok (.iconst 1, 1) := by decide +kernel
theorem dX9_loop_23 : decode cX9_loop 23 = .ok (.goto 4, 3) := by decide +kernel
theorem dX9_loop_26 : decode cX9_loop 26 = .ok (.iconst 0, 1) := by decide +kernel
theorem dX9_loop_27 : decode cX9_loop 27 = .ok (.invokevirtual 166, 3) := by decide +kernel
theorem dX9_loop_30 : decode cX9_loop 30 = .ok (.ifCond .eq 5, 3) := by decide +kernel
theorem dX9_loop_33 : decode cX9_loop 33 = .ok (.iconst 0, 1) := by decide +kernel
theorem dX9_loop_34 : decode cX9_loop 34 = .ok (.ireturn, 1) := by decide +kernel
theorem dX9_loop_35 : decode cX9_loop 35 = .ok (.iload_n 2, 1) := by decide +kernel
theorem dX9_loop_36 : decode cX9_loop 36 = .ok (.ifCond .ne 12, 3) := by decide +kernel
theorem dX9_loop_39 : decode cX9_loop 39 = .ok (.aload_n 0, 1) := by decide +kernel
theorem dX9_loop_40 : decode cX9_loop 40 = .ok (.getfield 70, 3) := by decide +kernel
theorem dX9_loop_43 : decode cX9_loop 43 = .ok (.iload_n 1, 1) := by decide +kernel
theorem dX9_loop_44 : decode cX9_loop 44 = .ok (.iaload, 1) := by decide +kernel
theorem dX9_loop_45 : decode cX9_loop 45 = .ok (.goto 23, 3) := by decide +kernel
theorem dX9_loop_48 : decode cX9_loop 48 = .ok (.iload_n 2, 1) := by decide +kernel
theorem dX9_loop_49 : decode cX9_loop 49 = .ok (.iconst 1, 1) := by decide +kernel
theorem dX9_loop_50 : decode cX9_loop 50 = .ok (.if_icmp .ne 12, 3) := by decide +kernel
theorem dX9_loop_53 : decode cX9_loop 53 = .ok (.aload_n 0, 1) := by decide +kernel
theorem dX9_loop_54 : decode cX9_loop 54 = .ok (.getfield 73, 3) := by decide +kernel
theorem dX9_loop_57 : decode cX9_loop 57 = .ok (.iload_n 1, 1) := by decide +kernel
theorem dX9_loop_58 : decode cX9_loop 58 = .ok (.iaload, 1) := by decide +kernel
theorem dX9_loop_59 : decode cX9_loop 59 = .ok (.goto 9, 3) := by decide +kernel
theorem dX9_loop_62 : decode cX9_loop 62 = .ok (.aload_n 0, 1) := by decide +kernel
theorem dX9_loop_63 : decode cX9_loop 63 = .ok (.getfield 76, 3) := by decide +kernel
theorem dX9_loop_66 : decode cX9_loop 66 = .ok (.iload_n 1, 1) := by decide +kernel
theorem dX9_loop_67 : decode cX9_loop 67 = .ok (.iaload, 1) := by decide +kernel
theorem dX9_loop_68 : decode cX9_loop 68 = .ok (.ireturn, 1) := by decide +kernel
theorem dX9_turn_0 : decode cX9_turn 0 = .ok (.aload_n 0, 1) := by decide +kernel
theorem dX9_turn_1 : decode cX9_turn 1 = .ok (.getfield 27, 3) := by decide +kernel
theorem dX9_turn_4 : decode cX9_turn 4 = .ok (.iload_n 2, 1) := by decide +kernel
theorem dX9_turn_5 : decode cX9_turn 5 = .ok (.iaload, 1) := by decide +kernel
theorem dX9_turn_6 : decode cX9_turn 6 = .ok (.aload_n 0, 1) := by decide +kernel
theorem dX9_turn_7 : decode cX9_turn 7 = .ok (.getfield 27, 3) := by decide +kernel
theorem dX9_turn_10 : decode cX9_turn 10 = .ok (.iload_n 1, 1) := by decide +kernel
theorem dX9_turn_11 : decode cX9_turn 11 = .ok (.iaload, 1) := by decide +kernel
theorem dX9_turn_12 : decode cX9_turn 12 = .ok (.isub, 1) := by decide +kernel
theorem dX9_turn_13 : decode cX9_turn 13 = .ok (.aload_n 0, 1) := by decide +kernel
theorem dX9_turn_14 : decode cX9_turn 14 = .ok (.getfield 31, 3) := by decide +kernel
theorem dX9_turn_17 : decode cX9_turn 17 = .ok (.iload_n 3, 1) := by decide +kernel
theorem dX9_turn_18 : decode cX9_turn 18 = .ok (.iaload, 1) := by decide +kernel
theorem dX9_turn_19 : decode cX9_turn 19 = .ok (.aload_n 0, 1) := by decide +kernel
theorem dX9_turn_20 : decode cX9_turn 20 = .ok (.getfield 31, 3) := by decide +kernel
theorem dX9_turn_23 : decode cX9_turn 23 = .ok (.iload_n 1, 1) := by decide +kernel
theorem dX9_turn_24 : decode cX9_turn 24 = .ok (.iaload, 1) := by decide +kernel
theorem dX9_turn_25 : decode cX9_turn 25 = .ok (.isub, 1) := by decide +kernel
theorem dX9_turn_26 : decode cX9_turn 26 = .ok (.imul, 1) := by decide +kernel
theorem dX9_turn_27 : decode cX9_turn 27 = .ok (.aload_n 0, 1) := by decide +kernel
theorem dX9_turn_28 : decode cX9_turn 28 = .ok (.getfield 31, 3) := by decide +kernel
theorem dX9_turn_31 : decode cX9_turn 31 = .ok (.iload_n 2, 1) := by decide +kernel
theorem dX9_turn_32 : decode cX9_turn 32 = .ok (.iaload, 1) := by decide +kernel
theorem dX9_turn_33 : decode cX9_turn 33 = .ok (.aload_n 0, 1) := by decide +kernel
theorem dX9_turn_34 : decode cX9_turn 34 = .ok (.getfield 31, 3) := by decide +kernel
theorem dX9_turn_37 : decode cX9_turn 37 = .ok (.iload_n 1, 1) := by decide +kernel
theorem dX9_turn_38 : decode cX9_turn 38 = .ok (.iaload, 1) := by decide +kernel
theorem dX9_turn_39 : decode cX9_turn 39 = .ok (.isub, 1) := by decide +kernel
theorem dX9_turn_40 : decode cX9_turn 40 = .ok (.aload_n 0, 1) := by decide +kernel
theorem dX9_turn_41 : decode cX9_turn 41 = .ok (.getfield 27, 3) := by decide +kernel
theorem dX9_turn_44 : decode cX9_turn 44 = .ok (.iload_n 3, 1) := by decide +kernel
theorem dX9_turn_45 : decode cX9_turn 45 = .ok (.iaload, 1) := by decide +kernel
theorem dX9_turn_46 : decode cX9_turn 46 = .ok (.aload_n 0, 1) := by decide +kernel
theorem dX9_turn_47 : decode cX9_turn 47 = .ok (.getfield 27, 3) := by decide +kernel
theorem dX9_turn_50 : decode cX9_turn 50 = .ok (.iload_n 1, 1) := by decide +kernel
theorem dX9_turn_51 : decode cX9_turn 51 = .ok (.iaload, 1) := by decide +kernel
theorem dX9_turn_52 : decode cX9_turn 52 = .ok (.isub, 1) := by decide +kernel
theorem dX9_turn_53 : decode cX9_turn 53 = .ok (.imul, 1) := by decide +kernel
theorem dX9_turn_54 : decode cX9_turn 54 = .ok (.isub, 1) := by decide +kernel
theorem dX9_turn_55 : decode cX9_turn 55 = .ok (.istore 4, 2) := by decide +kernel
theorem dX9_turn_57 : decode cX9_turn 57 = .ok (.iload 4, 2) := by decide +kernel
theorem dX9_turn_59 : decode cX9_turn 59 = .ok (.ifCond .le 7, 3) := by decide +kernel
theorem dX9_turn_62 : decode cX9_turn 62 = .ok (.iconst 1, 1) := by decide +kernel
theorem dX9_turn_63 : decode cX9_turn 63 = .ok (.goto 13, 3) := by decide +kernel
theorem dX9_turn_66 : decode cX9_turn 66 = .ok (.iload 4, 2) := by decide +kernel
theorem dX9_turn_68 : decode cX9_turn 68 = .ok (.ifCond .ge 7, 3) := by decide +kernel
theorem dX9_turn_71 : decode cX9_turn 71 = .ok (.iconst (-1), 1) := by decide +kernel
theorem dX9_turn_72 : decode cX9_turn 72 = .ok (.goto 4, 3) := by decide +kernel
theorem dX9_turn_75 : decode cX9_turn 75 = .ok (.iconst 0, 1) := by decide +kernel
theorem dX9_turn_76 : decode cX9_turn 76 = .ok (.ireturn, 1) := by decide +kernel
theorem dX9_isBetween_0 : decode cX9_isBetween 0 = .ok (.iload_n 1, 1) := by decide +kernel
theorem dX9_isBetween_1 : decode cX9_isBetween 1 = .ok (.iload_n 2, 1) := by decide +kernel
theorem dX9_isBetween_2 : decode cX9_isBetween 2 = .ok (.if_icmp .ge 21, 3) := by decide +kernel
theorem dX9_isBetween_5 : decode cX9_isBetween 5 = .ok (.iload_n 0, 1) := by decide +kernel
theorem dX9_isBetween_6 : decode cX9_isBetween 6 = .ok (.iload_n 1, 1) := by decide +kernel
theorem dX9_isBetween_7 : decode cX9_isBetween 7 = .ok (.if_icmp .lt 12, 3) := by decide +kernel
theorem dX9_isBetween_10 : decode cX9_isBetween 10 = .ok (.iload_n 0, 1) := by decide +kernel
theorem dX9_isBetween_11 : decode cX9_isBetween 11 = .ok (.iload_n 2, 1) := by decide +kernel
theorem dX9_isBetween_12 : decode cX9_isBetween 12 = .ok (.if_icmp .gt 7, 3) := by decide +kernel
theorem dX9_isBetween_15 : decode cX9_isBetween 15 = .ok (.iconst 1, 1) := by decide +kernel
theorem dX9_isBetween_16 : decode cX9_isBetween 16 = .ok (.goto 22, 3) := by decide +kernel
theorem dX9_isBetween_19 : decode cX9_isBetween 19 = .ok (.iconst 0, 1) := by decide +kernel
theorem dX9_isBetween_20 : decode cX9_isBetween 20 = .ok (.goto 18, 3) := by decide +kernel
theorem dX9_isBetween_23 : decode cX9_isBetween 23 = .ok (.iload_n 0, 1) := by decide +kernel
theorem dX9_isBetween_24 : decode cX9_isBetween 24 = .ok (.iload_n 2, 1) := by decide +kernel
theorem dX9_isBetween_25 : decode cX9_isBetween 25 = .ok (.if_icmp .lt 12, 3) := by decide +kernel
theorem dX9_isBetween_28 : decode cX9_isBetween 28 = .ok (.iload_n 0, 1) := by decide +kernel
theorem dX9_isBetween_29 : decode cX9_isBetween 29 = .ok (.iload_n 1, 1) := by decide +kernel
theorem dX9_isBetween_30 : decode cX9_isBetween 30 = .ok (.if_icmp .gt 7, 3) := by decide +kernel
theorem dX9_isBetween_33 : decode cX9_isBetween 33 = .ok (.iconst 1, 1) := by decide +kernel
theorem dX9_isBetween_34 : decode cX9_isBetween 34 = .ok (.goto 4, 3) := by decide +kernel
theorem dX9_isBetween_37 : decode cX9_isBetween 37 = .ok (.iconst 0, 1) := by decide +kernel
theorem dX9_isBetween_38 : decode cX9_isBetween 38 = .ok (.ireturn, 1) := by decide +kernel
set_option maxRecDepth 20000 in
theorem ggX9_isOn_X9_turn : GoodIn wsX9_isOn wsX9_turn := goodIn_r _ [7, 1, 2, 11, 12, 13, 14, 15, 16, 17, 18, 19, 20, 21, 22, 23, 24, 25, 26, 27, 28, 29, 30, 31, 32, 33, 34, 35, 36, 37, 38, 39, 40, 41, 42, 43, 44, 45, 46] (by decide +kernel) (by decide +kernel)
set_option maxRecDepth 20000 in
theorem gX9_isOn_X9_turn : GoodIn wsX9_isOn (wsV RX9 170 RX9 yX9_turn wsX9_turn) := goodIn_app (goodIn_of _ (by decide +kernel)) ggX9_isOn_X9_turn
set_option maxRecDepth 20000 in
theorem ggX9_isOn_X9_isBetween : GoodIn wsX9_isOn wsX9_isBetween := goodIn_r _ [10] (by decide +kernel) (by decide +kernel)
set_option maxRecDepth 20000 in
theorem gX9_isOn_X9_isBetween : GoodIn wsX9_isOn (va_wsS RX9 173 yX9_isBetween wsX9_isBetween) := goodIn_app (goodIn_of _ (by decide +kernel)) ggX9_isOn_X9_isBetween
theorem dX9_isOn_0 : decode cX9_isOn 0 = .ok (.aload_n 0, 1) := by decide +kernel
theorem dX9_isOn_1 : decode cX9_isOn 1 = .ok (.iload_n 1, 1) := by decide +kernel
theorem dX9_isOn_2 : decode cX9_isOn 2 = .ok (.iload_n 2, 1) := by decide +kernel
theorem dX9_isOn_3 : decode cX9_isOn 3 = .ok (.iload_n 3, 1) := by decide +kernel
theorem dX9_isOn_4 : decode cX9_isOn 4 = .ok (.invokevirtual 170, 3) := by decide +kernel
theorem dX9_isOn_7 : decode cX9_isOn 7 = .ok (.ifCond .ne 55, 3) := by decide +kernel
theorem dX9_isOn_10 : decode cX9_isOn 10 = .ok (.aload_n 0, 1) := by decide +kernel
theorem dX9_isOn_11 : decode cX9_isOn 11 = .ok (.getfield 27, 3) := by decide +kernel
theorem dX9_isOn_14 : decode cX9_isOn 14 = .ok (.iload_n 3, 1) := by decide +kernel
theorem dX9_isOn_15 : decode cX9_isOn 15 = .ok (.iaload, 1) := by decide +kernel
theorem dX9_isOn_16 : decode cX9_isOn 16 = .ok (.aload_n 0, 1) := by decide +kernel
theorem dX9_isOn_17 : decode cX9_isOn 17 = .ok (.getfield 27, 3) := by decide +kernel
theorem dX9_isOn_20 : decode cX9_isOn 20 = .ok (.iload_n 1, 1) := by decide +kernel
theorem dX9_isOn_21 : decode cX9_isOn 21 = .ok (.iaload, 1) := by decide +kernel
theorem dX9_isOn_22 : decode cX9_isOn 22 = .ok (.aload_n 0, 1) := by decide +kernel
theorem dX9_isOn_23 : decode cX9_isOn 23 = .ok (.getfield 27, 3) := by decide +kernel
theorem dX9_isOn_26 : decode cX9_isOn 26 = .ok (.iload_n 2, 1) := by decide +kernel
theorem dX9_isOn_27 : decode cX9_isOn 27 = .ok (.iaload, 1) := by decide +kernel
theorem dX9_isOn_28 : decode cX9_isOn 28 = .ok (.invokestatic 173, 3) := by decide +kernel
theorem dX9_isOn_31 : decode cX9_isOn 31 = .ok (.ifCond .eq 31, 3) := by decide +kernel
theorem dX9_isOn_34 : decode cX9_isOn 34 = .ok (.aload_n 0, 1) := by decide +kernel
theorem dX9_isOn_35 : decode cX9_isOn 35 = .ok (.getfield 31, 3) := by decide +kernel
theorem dX9_isOn_38 : decode cX9_isOn 38 = .ok (.iload_n 3, 1) := by decide +kernel
theorem dX9_isOn_39 : decode cX9_isOn 39 = .ok (.iaload, 1) := by decide +kernel
theorem dX9_isOn_40 : decode cX9_isOn 40 = .ok (.aload_n 0, 1) := by decide +kernel
theorem dX9_isOn_41 : decode cX9_isOn 41 = .ok (.getfield 31, 3) := by decide +kernel
theorem dX9_isOn_44 : decode cX9_isOn 44 = .ok (.iload_n 1, 1) := by decide +kernel
theorem dX9_isOn_45 : decode cX9_isOn 45 = .ok (.iaload, 1) := by decide +kernel
theorem dX9_isOn_46 : decode cX9_isOn 46 = .ok (.aload_n 0, 1) := by decide +kernel
theorem dX9_isOn_47 : decode cX9_isOn 47 = .ok (.getfield 31, 3) := by decide +kernel
theorem dX9_isOn_50 : decode cX9_isOn 50 = .ok (.iload_n 2, 1) := by decide +kernel
theorem dX9_isOn_51 : decode cX9_isOn 51 = .ok (.iaload, 1) := by decide +kernel
theorem dX9_isOn_52 : decode cX9_isOn 52 = .ok (.invokestatic 173, 3) := by decide +kernel
theorem dX9_isOn_55 : decode cX9_isOn 55 = .ok (.ifCond .eq 7, 3) := by decide +kernel
theorem dX9_isOn_58 : decode cX9_isOn 58 = .ok (.iconst 1, 1) := by decide +kernel
theorem dX9_isOn_59 : decode cX9_isOn 59 = .ok (.goto 4, 3) := by decide +kernel
theorem dX9_isOn_62 : decode cX9_isOn 62 = .ok (.iconst 0, 1) := by decide +kernel
theorem dX9_isOn_63 : decode cX9_isOn 63 = .ok (.ireturn, 1) := by decide +kernel
set_option maxRecDepth 20000 in
theorem ggX9_meet_X9_isOn : GoodIn wsX9_meet wsX9_isOn := goodIn_r _ [5, 6, 7, 8, 9, 10, 4, 11, 12, 13, 14, 15, 16, 17, 18, 19, 20, 21, 22, 23, 24, 25, 26, 27, 28, 29, 30, 31, 32, 33, 34, 35, 36, 37, 38, 39, 40, 41, 42, 43, 44, 45, 46, 47, 48, 49, 50] (by decide +kernel) (by decide +kernel)
set_option maxRecDepth 20000 in
theorem gX9_meet_X9_isOn : GoodIn wsX9_meet (wsV RX9 176 RX9 yX9_isOn wsX9_isOn) := goodIn_app (goodIn_of _ (by decide +kernel)) ggX9_meet_X9_isOn
set_option maxRecDepth 20000 in
theorem ggX9_meet_X9_turn : GoodIn wsX9_meet wsX9_turn := goodIn_r _ [11, 6, 7, 15, 16, 17, 18, 19, 20, 21, 22, 23, 24, 25, 26, 27, 28, 29, 30, 31, 32, 33, 34, 35, 36, 37, 38, 39, 40, 41, 42, 43, 44, 45, 46, 47, 48, 49, 50] (by decide +kernel) (by decide +kernel)
set_option maxRecDepth 20000 in
theorem gX9_meet_X9_turn : GoodIn wsX9_meet (wsV RX9 170 RX9 yX9_turn wsX9_turn) := goodIn_app (goodIn_of _ (by decide +kernel)) ggX9_meet_X9_turn
theorem dX9_meet_0 : decode cX9_meet 0 = .ok (.aload_n 0, 1) := by decide +kernel
theorem dX9_meet_1 : decode cX9_meet 1 = .ok (.iload_n 1, 1) := by decide +kernel
theorem dX9_meet_2 : decode cX9_meet 2 = .ok (.iload_n 2, 1) := by decide +kernel
theorem dX9_meet_3 : decode cX9_meet 3 = .ok (.iload_n 3, 1) := by decide +kernel
theorem dX9_meet_4 : decode cX9_meet 4 = .ok (.invokevirtual 176, 3) := by decide +kernel
theorem dX9_meet_7 : decode cX9_meet 7 = .ok (.ifCond .ne 36, 3) := by decide +kernel
theorem dX9_meet_10 : decode cX9_meet 10 = .ok (.aload_n 0, 1) := by decide +kernel
theorem dX9_meet_11 : decode cX9_meet 11 = .ok (.iload_n 1, 1) := by decide +kernel
theorem dX9_meet_12 : decode cX9_meet 12 = .ok (.iload_n 2, 1) := by decide +kernel
theorem dX9_meet_13 : decode cX9_meet 13 = .ok (.iload 4, 2) := by decide +kernel
theorem dX9_meet_15 : decode cX9_meet 15 = .ok (.invokevirtual 176, 3) := by decide +kernel
theorem dX9_meet_18 : decode cX9_meet 18 = .ok (.ifCond .ne 25, 3) := by decide +kernel
theorem dX9_meet_21 : decode cX9_meet 21 = .ok (.aload_n 0, 1) := by decide +kernel
theorem dX9_meet_22 : decode cX9_meet 22 = .ok (.iload_n 3, 1) := by decide +kernel
theorem dX9_meet_23 : decode cX9_meet 23 = .ok (.iload 4, 2) := by decide +kernel
theorem dX9_meet_25 : decode cX9_meet 25 = .ok (.iload_n 1, 1) := by decide +kernel
theorem dX9_meet_26 : decode cX9_meet 26 = .ok (.invokevirtual 176, 3) := by decide +kernel
theorem dX9_meet_29 : decode cX9_meet 29 = .ok (.ifCond .ne 14, 3) := by decide +kernel
theorem dX9_meet_32 : decode cX9_meet 32 = .ok (.aload_n 0, 1) := by decide +kernel
theorem dX9_meet_33 : decode cX9_meet 33 = .ok (.iload_n 3, 1) := by decide +kernel
theorem dX9_meet_34 : decode cX9_meet 34 = .ok (.iload 4, 2) := by decide +kernel
theorem dX9_meet_36 : decode cX9_meet 36 = .ok (.iload_n 2, 1) := by decide +kernel
theorem dX9_meet_37 : decode cX9_meet 37 = .ok (.invokevirtual 176, 3) := by decide +kernel
theorem dX9_meet_40 : decode cX9_meet 40 = .ok (.ifCond .eq 5, 3) := by decide +kernel
theorem dX9_meet_43 : decode cX9_meet 43 = .ok (.iconst 1, 1) := by decide +kernel
theorem dX9_meet_44 : decode cX9_meet 44 = .ok (.ireturn, 1) := by decide +kernel
theorem dX9_meet_45 : decode cX9_meet 45 = .ok (.aload_n 0, 1) := by decide +kernel
theorem dX9_meet_46 : decode cX9_meet 46 = .ok (.iload_n 1, 1) := by decide +kernel
theorem dX9_meet_47 : decode cX9_meet 47 = .ok (.iload_n 2, 1) := by decide +kernel
theorem dX9_meet_48 : decode cX9_meet 48 = .ok (.iload_n 3, 1) := by decide +kernel
theorem dX9_meet_49 : decode cX9_meet 49 = .ok (.invokevirtual 170, 3) := by decide +kernel
theorem dX9_meet_52 : decode cX9_meet 52 = .ok (.aload_n 0, 1) := by decide +kernel
theorem dX9_meet_53 : decode cX9_meet 53 = .ok (.iload_n 1, 1) := by decide +kernel
theorem dX9_meet_54 : decode cX9_meet 54 = .ok (.iload_n 2, 1) := by decide +kernel
theorem dX9_meet_55 : decode cX9_meet 55 = .ok (.iload 4, 2) := by decide +kernel
theorem dX9_meet_57 : decode cX9_meet 57 = .ok (.invokevirtual 170, 3) := by decide +kernel
theorem dX9_meet_60 : decode cX9_meet 60 = .ok (.imul, 1) := by decide +kernel
theorem dX9_meet_61 : decode cX9_meet 61 = .ok (.ifCond .ge 27, 3) := by decide +kernel
theorem dX9_meet_64 : decode cX9_meet 64 = .ok (.aload_n 0, 1) := by decide +kernel
theorem dX9_meet_65 : decode cX9_meet 65 = .ok (.iload_n 3, 1) := by decide +kernel
theorem dX9_meet_66 : decode cX9_meet 66 = .ok (.iload 4, 2) := by decide +kernel
theorem dX9_meet_68 : decode cX9_meet 68 = .ok (.iload_n 1, 1) := by decide +kernel
theorem dX9_meet_69 : decode cX9_meet 69 = .ok (.invokevirtual 170, 3) := by decide +kernel
theorem dX9_meet_72 : decode cX9_meet 72 = .ok (.aload_n 0, 1) := by decide +kernel
theorem dX9_meet_73 : decode cX9_meet 73 = .ok (.iload_n 3, 1) := by decide +kernel
theorem dX9_meet_74 : decode cX9_meet 74 = .ok (.iload 4, 2) := by decide +kernel
theorem dX9_meet_76 : decode cX9_meet 76 = .ok (.iload_n 2, 1) := by decide +kernel
theorem dX9_meet_77 : decode cX9_meet 77 = .ok (.invokevirtual 170, 3) := by decide +kernel
