theorem dX7_fault_278 : decode cX7_fault 278 = .ok (.iadd, 1) := by decide +kernel
theorem dX7_fault_279 : decode cX7_fault 279 = .ok (.if_icmp .eq 5, 3) := by decide +kernel
theorem dX7_fault_282 : decode cX7_fault 282 = .ok (.iconst 4, 1) := by decide +kernel
theorem dX7_fault_283 : decode cX7_fault 283 = .ok (.ireturn, 1) := by decide +kernel
theorem dX7_fault_284 : decode cX7_fault 284 = .ok (.aload_n 0, 1) := by decide +kernel
theorem dX7_fault_285 : decode cX7_fault 285 = .ok (.getfield 128, 3) := by decide +kernel
theorem dX7_fault_288 : decode cX7_fault 288 = .ok (.iconst 5, 1) := by decide +kernel
theorem dX7_fault_289 : decode cX7_fault 289 = .ok (.isub, 1) := by decide +kernel
theorem dX7_fault_290 : decode cX7_fault 290 = .ok (.istore 7, 2) := by decide +kernel
theorem dX7_fault_292 : decode cX7_fault 292 = .ok (.aload_n 0, 1) := by decide +kernel
theorem dX7_fault_293 : decode cX7_fault 293 = .ok (.getfield 81, 3) := by decide +kernel
theorem dX7_fault_296 : decode cX7_fault 296 = .ok (.iconst 2, 1) := by decide +kernel
theorem dX7_fault_297 : decode cX7_fault 297 = .ok (.iaload, 1) := by decide +kernel
theorem dX7_fault_298 : decode cX7_fault 298 = .ok (.iload 7, 2) := by decide +kernel
theorem dX7_fault_300 : decode cX7_fault 300 = .ok (.bipush 63, 2) := by decide +kernel
theorem dX7_fault_302 : decode cX7_fault 302 = .ok (.if_icmp .le 8, 3) := by decide +kernel
theorem dX7_fault_305 : decode cX7_fault 305 = .ok (.bipush 63, 2) := by decide +kernel
theorem dX7_fault_307 : decode cX7_fault 307 = .ok (.goto 5, 3) := by decide +kernel
theorem dX7_fault_310 : decode cX7_fault 310 = .ok (.iload 7, 2) := by decide +kernel
theorem dX7_fault_312 : decode cX7_fault 312 = .ok (.if_icmp .eq 7, 3) := by decide +kernel
theorem dX7_fault_315 : decode cX7_fault 315 = .ok (.iconst 5, 1) := by decide +kernel
theorem dX7_fault_316 : decode cX7_fault 316 = .ok (.goto 4, 3) := by decide +kernel
theorem dX7_fault_319 : decode cX7_fault 319 = .ok (.iconst 0, 1) := by decide +kernel
theorem dX7_fault_320 : decode cX7_fault 320 = .ok (.ireturn, 1) := by decide +kernel
theorem dX7_goes_0 : decode cX7_goes 0 = .ok (.bipush 40, 2) := by decide +kernel
theorem dX7_goes_2 : decode cX7_goes 2 = .ok (.iload_n 1, 1) := by decide +kernel
theorem dX7_goes_3 : decode cX7_goes 3 = .ok (.imul, 1) := by decide +kernel
theorem dX7_goes_4 : decode cX7_goes 4 = .ok (.iload_n 2, 1) := by decide +kernel
theorem dX7_goes_5 : decode cX7_goes 5 = .ok (.iadd, 1) := by decide +kernel
theorem dX7_goes_6 : decode cX7_goes 6 = .ok (.istore_n 3, 1) := by decide +kernel
theorem dX7_goes_7 : decode cX7_goes 7 = .ok (.iload_n 3, 1) := by decide +kernel
theorem dX7_goes_8 : decode cX7_goes 8 = .ok (.iconst 1, 1) := by decide +kernel
theorem dX7_goes_9 : decode cX7_goes 9 = .ok (.iadd, 1) := by decide +kernel
theorem dX7_goes_10 : decode cX7_goes 10 = .ok (.bipush 40, 2) := by decide +kernel
theorem dX7_goes_12 : decode cX7_goes 12 = .ok (.iload_n 1, 1) := by decide +kernel
theorem dX7_goes_13 : decode cX7_goes 13 = .ok (.imul, 1) := by decide +kernel
theorem dX7_goes_14 : decode cX7_goes 14 = .ok (.aload_n 0, 1) := by decide +kernel
theorem dX7_goes_15 : decode cX7_goes 15 = .ok (.getfield 7, 3) := by decide +kernel
theorem dX7_goes_18 : decode cX7_goes 18 = .ok (.iload_n 1, 1) := by decide +kernel
theorem dX7_goes_19 : decode cX7_goes 19 = .ok (.iaload, 1) := by decide +kernel
theorem dX7_goes_20 : decode cX7_goes 20 = .ok (.iadd, 1) := by decide +kernel
theorem dX7_goes_21 : decode cX7_goes 21 = .ok (.if_icmp .ge 73, 3) := by decide +kernel
theorem dX7_goes_24 : decode cX7_goes 24 = .ok (.aload_n 0, 1) := by decide +kernel
theorem dX7_goes_25 : decode cX7_goes 25 = .ok (.getfield 13, 3) := by decide +kernel
theorem dX7_goes_28 : decode cX7_goes 28 = .ok (.iload_n 3, 1) := by decide +kernel
theorem dX7_goes_29 : decode cX7_goes 29 = .ok (.aload_n 0, 1) := by decide +kernel
theorem dX7_goes_30 : decode cX7_goes 30 = .ok (.getfield 13, 3) := by decide +kernel
theorem dX7_goes_33 : decode cX7_goes 33 = .ok (.iload_n 3, 1) := by decide +kernel
theorem dX7_goes_34 : decode cX7_goes 34 = .ok (.iconst 1, 1) := by decide +kernel
theorem dX7_goes_35 : decode cX7_goes 35 = .ok (.iadd, 1) := by decide +kernel
theorem dX7_goes_36 : decode cX7_goes 36 = .ok (.iaload, 1) := by decide +kernel
theorem dX7_goes_37 : decode cX7_goes 37 = .ok (.iastore, 1) := by decide +kernel
theorem dX7_goes_38 : decode cX7_goes 38 = .ok (.iconst 0, 1) := by decide +kernel
theorem dX7_goes_39 : decode cX7_goes 39 = .ok (.istore 4, 2) := by decide +kernel
theorem dX7_goes_41 : decode cX7_goes 41 = .ok (.iload 4, 2) := by decide +kernel
theorem dX7_goes_43 : decode cX7_goes 43 = .ok (.aload_n 0, 1) := by decide +kernel
theorem dX7_goes_44 : decode cX7_goes 44 = .ok (.getfield 13, 3) := by decide +kernel
theorem dX7_goes_47 : decode cX7_goes 47 = .ok (.iload_n 3, 1) := by decide +kernel
theorem dX7_goes_48 : decode cX7_goes 48 = .ok (.iaload, 1) := by decide +kernel
theorem dX7_goes_49 : decode cX7_goes 49 = .ok (.if_icmp .ge 39, 3) := by decide +kernel
theorem dX7_goes_52 : decode cX7_goes 52 = .ok (.aload_n 0, 1) := by decide +kernel
theorem dX7_goes_53 : decode cX7_goes 53 = .ok (.getfield 17, 3) := by decide +kernel
theorem dX7_goes_56 : decode cX7_goes 56 = .ok (.sipush 3000, 3) := by decide +kernel
theorem dX7_goes_59 : decode cX7_goes 59 = .ok (.iload_n 3, 1) := by decide +kernel
theorem dX7_goes_60 : decode cX7_goes 60 = .ok (.imul, 1) := by decide +kernel
theorem dX7_goes_61 : decode cX7_goes 61 = .ok (.iload 4, 2) := by decide +kernel
theorem dX7_goes_63 : decode cX7_goes 63 = .ok (.iadd, 1) := by decide +kernel
theorem dX7_goes_64 : decode cX7_goes 64 = .ok (.aload_n 0, 1) := by decide +kernel
theorem dX7_goes_65 : decode cX7_goes 65 = .ok (.getfield 17, 3) := by decide +kernel
theorem dX7_goes_68 : decode cX7_goes 68 = .ok (.sipush 3000, 3) := by decide +kernel
theorem dX7_goes_71 : decode cX7_goes 71 = .ok (.iload_n 3, 1) := by decide +kernel
theorem dX7_goes_72 : decode cX7_goes 72 = .ok (.imul, 1) := by decide +kernel
theorem dX7_goes_73 : decode cX7_goes 73 = .ok (.sipush 3000, 3) := by decide +kernel
theorem dX7_goes_76 : decode cX7_goes 76 = .ok (.iadd, 1) := by decide +kernel
theorem dX7_goes_77 : decode cX7_goes 77 = .ok (.iload 4, 2) := by decide +kernel
theorem dX7_goes_79 : decode cX7_goes 79 = .ok (.iadd, 1) := by decide +kernel
theorem dX7_goes_80 : decode cX7_goes 80 = .ok (.iaload, 1) := by decide +kernel
theorem dX7_goes_81 : decode cX7_goes 81 = .ok (.iastore, 1) := by decide +kernel
theorem dX7_goes_82 : decode cX7_goes 82 = .ok (.iinc 4 1, 3) := by decide +kernel
theorem dX7_goes_85 : decode cX7_goes 85 = .ok (.goto (-44), 3) := by decide +kernel
theorem dX7_goes_88 : decode cX7_goes 88 = .ok (.iinc 3 1, 3) := by decide +kernel
theorem dX7_goes_91 : decode cX7_goes 91 = .ok (.goto (-84), 3) := by decide +kernel
theorem dX7_goes_94 : decode cX7_goes 94 = .ok (.aload_n 0, 1) := by decide +kernel
theorem dX7_goes_95 : decode cX7_goes 95 = .ok (.getfield 7, 3) := by decide +kernel
theorem dX7_goes_98 : decode cX7_goes 98 = .ok (.iload_n 1, 1) := by decide +kernel
theorem dX7_goes_99 : decode cX7_goes 99 = .ok (.dup2, 1) := by decide +kernel
theorem dX7_goes_100 : decode cX7_goes 100 = .ok (.iaload, 1) := by decide +kernel
theorem dX7_goes_101 : decode cX7_goes 101 = .ok (.iconst 1, 1) := by decide +kernel
theorem dX7_goes_102 : decode cX7_goes 102 = .ok (.isub, 1) := by decide +kernel
theorem dX7_goes_103 : decode cX7_goes 103 = .ok (.iastore, 1) := by decide +kernel
theorem dX7_goes_104 : decode cX7_goes 104 = .ok (.return_, 1) := by decide +kernel
set_option maxRecDepth 20000 in
theorem ggX7_take_X7_isEnd : GoodIn wsX7_take wsX7_isEnd := goodIn_r _ [17] (by decide +kernel) (by decide +kernel)
set_option maxRecDepth 20000 in
theorem gX7_take_X7_isEnd : GoodIn wsX7_take (va_wsS RX7 107 yX7_isEnd wsX7_isEnd) := goodIn_app (goodIn_of _ (by decide +kernel)) ggX7_take_X7_isEnd
set_option maxRecDepth 20000 in
theorem ggX7_take_X7_refuses : GoodIn wsX7_take wsX7_refuses := goodIn_r _ [21, 22, 57, 58, 59, 60, 61, 62, 63, 64, 65, 66, 67, 68, 69, 70, 71, 72, 73, 74, 75, 76, 77, 78, 79, 80, 81, 82, 83] (by decide +kernel) (by decide +kernel)
set_option maxRecDepth 20000 in
theorem gX7_take_X7_refuses : GoodIn wsX7_take (wsV RX7 101 RX7 yX7_refuses wsX7_refuses) := goodIn_app (goodIn_of _ (by decide +kernel)) ggX7_take_X7_refuses
set_option maxRecDepth 20000 in
theorem ggX7_take_X7_fault : GoodIn wsX7_take wsX7_fault := goodIn_r _ [26, 27, 28, 29, 30, 5, 31, 32, 33, 16, 34, 35, 36, 37, 38, 39, 40, 41, 42, 43, 57, 58, 59, 60, 61, 62, 63, 64, 65, 66, 67, 68, 69, 70, 71, 72, 73, 74, 75, 76, 77, 78, 79, 80, 81, 82, 83] (by decide +kernel) (by decide +kernel)
set_option maxRecDepth 20000 in
theorem gX7_take_X7_fault : GoodIn wsX7_take (wsV RX7 131 RX7 yX7_fault wsX7_fault) := goodIn_app (goodIn_of _ (by decide +kernel)) ggX7_take_X7_fault
set_option maxRecDepth 20000 in
theorem ggX7_take_X7_goes : GoodIn wsX7_take wsX7_goes := goodIn_r _ [47, 1, 27, 28, 57, 58, 59, 60, 61, 62, 63, 64, 65, 66, 67, 68, 69, 70, 71, 72, 73, 74, 75, 76, 77, 78, 79, 80, 81, 82, 83] (by decide +kernel) (by decide +kernel)
set_option maxRecDepth 20000 in
theorem gX7_take_X7_goes : GoodIn wsX7_take (wsV RX7 134 RX7 yX7_goes wsX7_goes) := goodIn_app (goodIn_of _ (by decide +kernel)) ggX7_take_X7_goes
set_option maxRecDepth 20000 in
theorem ggX7_take_X7_forwards : GoodIn wsX7_take wsX7_forwards := goodIn_r _ [51, 5, 30, 52, 53, 54, 55, 56, 57, 58, 59, 60, 61, 62, 63, 64, 65, 66, 67, 68, 69, 70, 71, 72, 73, 74, 75, 76, 77, 78, 79, 80, 81, 82, 83] (by decide +kernel) (by decide +kernel)
set_option maxRecDepth 20000 in
theorem gX7_take_X7_forwards : GoodIn wsX7_take (wsV RX7 137 RX7 yX7_forwards wsX7_forwards) := goodIn_app (goodIn_of _ (by decide +kernel)) ggX7_take_X7_forwards
theorem dX7_take_0 : decode cX7_take 0 = .ok (.aload_n 0, 1) := by decide +kernel
theorem dX7_take_1 : decode cX7_take 1 = .ok (.iload_n 1, 1) := by decide +kernel
theorem dX7_take_2 : decode cX7_take 2 = .ok (.invokestatic 107, 3) := by decide +kernel
theorem dX7_take_5 : decode cX7_take 5 = .ok (.ifCond .ne 7, 3) := by decide +kernel
theorem dX7_take_8 : decode cX7_take 8 = .ok (.iconst 1, 1) := by decide +kernel
theorem dX7_take_9 : decode cX7_take 9 = .ok (.goto 28, 3) := by decide +kernel
theorem dX7_take_12 : decode cX7_take 12 = .ok (.aload_n 0, 1) := by decide +kernel
theorem dX7_take_13 : decode cX7_take 13 = .ok (.getfield 7, 3) := by decide +kernel
theorem dX7_take_16 : decode cX7_take 16 = .ok (.iconst 1, 1) := by decide +kernel
theorem dX7_take_17 : decode cX7_take 17 = .ok (.iload_n 1, 1) := by decide +kernel
theorem dX7_take_18 : decode cX7_take 18 = .ok (.isub, 1) := by decide +kernel
theorem dX7_take_19 : decode cX7_take 19 = .ok (.iaload, 1) := by decide +kernel
theorem dX7_take_20 : decode cX7_take 20 = .ok (.ifCond .eq 12, 3) := by decide +kernel
theorem dX7_take_23 : decode cX7_take 23 = .ok (.aload_n 0, 1) := by decide +kernel
theorem dX7_take_24 : decode cX7_take 24 = .ok (.getfield 68, 3) := by decide +kernel
theorem dX7_take_27 : decode cX7_take 27 = .ok (.iload_n 1, 1) := by decide +kernel
theorem dX7_take_28 : decode cX7_take 28 = .ok (.baload, 1) := by decide +kernel
theorem dX7_take_29 : decode cX7_take 29 = .ok (.ifCond .eq 7, 3) := by decide +kernel
theorem dX7_take_32 : decode cX7_take 32 = .ok (.iconst 2, 1) := by decide +kernel
theorem dX7_take_33 : decode cX7_take 33 = .ok (.goto 4, 3) := by decide +kernel
theorem dX7_take_36 : decode cX7_take 36 = .ok (.iconst 0, 1) := by decide +kernel
theorem dX7_take_37 : decode cX7_take 37 = .ok (.invokevirtual 101, 3) := by decide +kernel
theorem dX7_take_40 : decode cX7_take 40 = .ok (.ifCond .eq 5, 3) := by decide +kernel
theorem dX7_take_43 : decode cX7_take 43 = .ok (.iconst 0, 1) := by decide +kernel
theorem dX7_take_44 : decode cX7_take 44 = .ok (.ireturn, 1) := by decide +kernel
theorem dX7_take_45 : decode cX7_take 45 = .ok (.aload_n 0, 1) := by decide +kernel
theorem dX7_take_46 : decode cX7_take 46 = .ok (.bipush 40, 2) := by decide +kernel
theorem dX7_take_48 : decode cX7_take 48 = .ok (.iconst 1, 1) := by decide +kernel
theorem dX7_take_49 : decode cX7_take 49 = .ok (.iload_n 1, 1) := by decide +kernel
theorem dX7_take_50 : decode cX7_take 50 = .ok (.isub, 1) := by decide +kernel
theorem dX7_take_51 : decode cX7_take 51 = .ok (.imul, 1) := by decide +kernel
theorem dX7_take_52 : decode cX7_take 52 = .ok (.invokevirtual 131, 3) := by decide +kernel
theorem dX7_take_55 : decode cX7_take 55 = .ok (.istore_n 2, 1) := by decide +kernel
theorem dX7_take_56 : decode cX7_take 56 = .ok (.aload_n 0, 1) := by decide +kernel
theorem dX7_take_57 : decode cX7_take 57 = .ok (.iconst 1, 1) := by decide +kernel
theorem dX7_take_58 : decode cX7_take 58 = .ok (.iload_n 1, 1) := by decide +kernel
theorem dX7_take_59 : decode cX7_take 59 = .ok (.isub, 1) := by decide +kernel
theorem dX7_take_60 : decode cX7_take 60 = .ok (.iconst 0, 1) := by decide +kernel
theorem dX7_take_61 : decode cX7_take 61 = .ok (.invokevirtual 134, 3) := by decide +kernel
theorem dX7_take_64 : decode cX7_take 64 = .ok (.aload_n 0, 1) := by decide +kernel
theorem dX7_take_65 : decode cX7_take 65 = .ok (.getfield 62, 3) := by decide +kernel
theorem dX7_take_68 : decode cX7_take 68 = .ok (.iload_n 1, 1) := by decide +kernel
theorem dX7_take_69 : decode cX7_take 69 = .ok (.dup2, 1) := by decide +kernel
theorem dX7_take_70 : decode cX7_take 70 = .ok (.iaload, 1) := by decide +kernel
theorem dX7_take_71 : decode cX7_take 71 = .ok (.iconst 1, 1) := by decide +kernel
theorem dX7_take_72 : decode cX7_take 72 = .ok (.iadd, 1) := by decide +kernel
theorem dX7_take_73 : decode cX7_take 73 = .ok (.iastore, 1) := by decide +kernel
theorem dX7_take_74 : decode cX7_take 74 = .ok (.aload_n 0, 1) := by decide +kernel
theorem dX7_take_75 : decode cX7_take 75 = .ok (.getfield 62, 3) := by decide +kernel
theorem dX7_take_78 : decode cX7_take 78 = .ok (.iload_n 1, 1) := by decide +kernel
theorem dX7_take_79 : decode cX7_take 79 = .ok (.iaload, 1) := by decide +kernel
theorem dX7_take_80 : decode cX7_take 80 = .ok (.sipush 256, 3) := by decide +kernel
theorem dX7_take_83 : decode cX7_take 83 = .ok (.irem, 1) := by decide +kernel
theorem dX7_take_84 : decode cX7_take 84 = .ok (.ifCond .ne 22, 3) := by decide +kernel
theorem dX7_take_87 : decode cX7_take 87 = .ok (.aload_n 0, 1) := by decide +kernel
theorem dX7_take_88 : decode cX7_take 88 = .ok (.getfield 59, 3) := by decide +kernel
theorem dX7_take_91 : decode cX7_take 91 = .ok (.iload_n 1, 1) := by decide +kernel
theorem dX7_take_92 : decode cX7_take 92 = .ok (.iaload, 1) := by decide +kernel
theorem dX7_take_93 : decode cX7_take 93 = .ok (.ifCond .le 13, 3) := by decide +kernel
theorem dX7_take_96 : decode cX7_take 96 = .ok (.aload_n 0, 1) := by decide +kernel
theorem dX7_take_97 : decode cX7_take 97 = .ok (.getfield 59, 3) := by decide +kernel
theorem dX7_take_100 : decode cX7_take 100 = .ok (.iload_n 1, 1) := by decide +kernel
theorem dX7_take_101 : decode cX7_take 101 = .ok (.dup2, 1) := by decide +kernel
theorem dX7_take_102 : decode cX7_take 102 = .ok (.iaload, 1) := by decide +kernel
theorem dX7_take_103 : decode cX7_take 103 = .ok (.iconst 1, 1) := by decide +kernel
theorem dX7_take_104 : decode cX7_take 104 = .ok (.isub, 1) := by decide +kernel
theorem dX7_take_105 : decode cX7_take 105 = .ok (.iastore, 1) := by decide +kernel
theorem dX7_take_106 : decode cX7_take 106 = .ok (.iload_n 2, 1) := by decide +kernel
theorem dX7_take_107 : decode cX7_take 107 = .ok (.ifCond .le 54, 3) := by decide +kernel
theorem dX7_take_110 : decode cX7_take 110 = .ok (.aload_n 0, 1) := by decide +kernel
theorem dX7_take_111 : decode cX7_take 111 = .ok (.getfield 59, 3) := by decide +kernel
theorem dX7_take_114 : decode cX7_take 114 = .ok (.iload_n 1, 1) := by decide +kernel
theorem dX7_take_115 : decode cX7_take 115 = .ok (.dup2, 1) := by decide +kernel
theorem dX7_take_116 : decode cX7_take 116 = .ok (.iaload, 1) := by decide +kernel
theorem dX7_take_117 : decode cX7_take 117 = .ok (.iconst 1, 1) := by decide +kernel
theorem dX7_take_118 : decode cX7_take 118 = .ok (.iadd, 1) := by decide +kernel
theorem dX7_take_119 : decode cX7_take 119 = .ok (.iastore, 1) := by decide +kernel
theorem dX7_take_120 : decode cX7_take 120 = .ok (.aload_n 0, 1) := by decide +kernel
theorem dX7_take_121 : decode cX7_take 121 = .ok (.getfield 68, 3) := by decide +kernel
theorem dX7_take_124 : decode cX7_take 124 = .ok (.iload_n 1, 1) := by decide +kernel
theorem dX7_take_125 : decode cX7_take 125 = .ok (.aload_n 0, 1) := by decide +kernel
theorem dX7_take_126 : decode cX7_take 126 = .ok (.getfield 59, 3) := by decide +kernel
theorem dX7_take_129 : decode cX7_take 129 = .ok (.iload_n 1, 1) := by decide +kernel
theorem dX7_take_130 : decode cX7_take 130 = .ok (.iaload, 1) := by decide +kernel
theorem dX7_take_131 : decode cX7_take 131 = .ok (.bipush 64, 2) := by decide +kernel
theorem dX7_take_133 : decode cX7_take 133 = .ok (.if_icmp .lt 7, 3) := by decide +kernel
theorem dX7_take_136 : decode cX7_take 136 = .ok (.iconst 1, 1) := by decide +kernel
theorem dX7_take_137 : decode cX7_take 137 = .ok (.goto 4, 3) := by decide +kernel
theorem dX7_take_140 : decode cX7_take 140 = .ok (.iconst 0, 1) := by decide +kernel
theorem dX7_take_141 : decode cX7_take 141 = .ok (.bastore, 1) := by decide +kernel
theorem dX7_take_142 : decode cX7_take 142 = .ok (.iload_n 2, 1) := by decide +kernel
theorem dX7_take_143 : decode cX7_take 143 = .ok (.ineg, 1) := by decide +kernel
theorem dX7_take_144 : decode cX7_take 144 = .ok (.aload_n 0, 1) := by decide +kernel
theorem dX7_take_145 : decode cX7_take 145 = .ok (.getfield 68, 3) := by decide +kernel
theorem dX7_take_148 : decode cX7_take 148 = .ok (.iload_n 1, 1) := by decide +kernel
theorem dX7_take_149 : decode cX7_take 149 = .ok (.baload, 1) := by decide +kernel
theorem dX7_take_150 : decode cX7_take 150 = .ok (.ifCond .eq 8, 3) := by decide +kernel
theorem dX7_take_153 : decode cX7_take 153 = .ok (.bipush 10, 2) := by decide +kernel
theorem dX7_take_155 : decode cX7_take 155 = .ok (.goto 4, 3) := by decide +kernel
theorem dX7_take_158 : decode cX7_take 158 = .ok (.iconst 0, 1) := by decide +kernel
theorem dX7_take_159 : decode cX7_take 159 = .ok (.isub, 1) := by decide +kernel
theorem dX7_take_160 : decode cX7_take 160 = .ok (.ireturn, 1) := by decide +kernel
theorem dX7_take_161 : decode cX7_take 161 = .ok (.aload_n 0, 1) := by decide +kernel
theorem dX7_take_162 : decode cX7_take 162 = .ok (.getfield 81, 3) := by decide +kernel
theorem dX7_take_165 : decode cX7_take 165 = .ok (.iconst 0, 1) := by decide +kernel
theorem dX7_take_166 : decode cX7_take 166 = .ok (.iaload, 1) := by decide +kernel
theorem dX7_take_167 : decode cX7_take 167 = .ok (.bipush 127, 2) := by decide +kernel
theorem dX7_take_169 : decode cX7_take 169 = .ok (.iand, 1) := by decide +kernel
theorem dX7_take_170 : decode cX7_take 170 = .ok (.istore_n 3, 1) := by decide +kernel
theorem dX7_take_171 : decode cX7_take 171 = .ok (.iload_n 3, 1) := by decide +kernel
theorem dX7_take_172 : decode cX7_take 172 = .ok (.aload_n 0, 1) := by decide +kernel
theorem dX7_take_173 : decode cX7_take 173 = .ok (.getfield 32, 3) := by decide +kernel
theorem dX7_take_176 : decode cX7_take 176 = .ok (.iload_n 1, 1) := by decide +kernel
theorem dX7_take_177 : decode cX7_take 177 = .ok (.iaload, 1) := by decide +kernel
theorem dX7_take_178 : decode cX7_take 178 = .ok (.if_icmp .ne 7, 3) := by decide +kernel
theorem dX7_take_181 : decode cX7_take 181 = .ok (.iconst 0, 1) := by decide +kernel
theorem dX7_take_182 : decode cX7_take 182 = .ok (.goto 4, 3) := by decide +kernel
theorem dX7_take_185 : decode cX7_take 185 = .ok (.iconst (-1), 1) := by decide +kernel
theorem dX7_take_186 : decode cX7_take 186 = .ok (.istore 4, 2) := by decide +kernel
theorem dX7_take_188 : decode cX7_take 188 = .ok (.iconst 0, 1) := by decide +kernel
theorem dX7_take_189 : decode cX7_take 189 = .ok (.istore 5, 2) := by decide +kernel
theorem dX7_take_191 : decode cX7_take 191 = .ok (.iload 5, 2) := by decide +kernel
theorem dX7_take_193 : decode cX7_take 193 = .ok (.aload_n 0, 1) := by decide +kernel
theorem dX7_take_194 : decode cX7_take 194 = .ok (.getfield 44, 3) := by decide +kernel
theorem dX7_take_197 : decode cX7_take 197 = .ok (.iload_n 1, 1) := by decide +kernel
theorem dX7_take_198 : decode cX7_take 198 = .ok (.iaload, 1) := by decide +kernel
theorem dX7_take_199 : decode cX7_take 199 = .ok (.if_icmp .ge 36, 3) := by decide +kernel
theorem dX7_take_202 : decode cX7_take 202 = .ok (.aload_n 0, 1) := by decide +kernel
theorem dX7_take_203 : decode cX7_take 203 = .ok (.getfield 47, 3) := by decide +kernel
theorem dX7_take_206 : decode cX7_take 206 = .ok (.bipush 127, 2) := by decide +kernel
theorem dX7_take_208 : decode cX7_take 208 = .ok (.iload_n 1, 1) := by decide +kernel
theorem dX7_take_209 : decode cX7_take 209 = .ok (.imul, 1) := by decide +kernel
theorem dX7_take_210 : decode cX7_take 210 = .ok (.iload 5, 2) := by decide +kernel
theorem dX7_take_212 : decode cX7_take 212 = .ok (.iadd, 1) := by decide +kernel
theorem dX7_take_213 : decode cX7_take 213 = .ok (.iaload, 1) := by decide +kernel
theorem dX7_take_214 : decode cX7_take 214 = .ok (.iload_n 3, 1) := by decide +kernel
theorem dX7_take_215 : decode cX7_take 215 = .ok (.if_icmp .ne 10, 3) := by decide +kernel
theorem dX7_take_218 : decode cX7_take 218 = .ok (.iload 5, 2) := by decide +kernel
theorem dX7_take_220 : decode cX7_take 220 = .ok (.iconst 1, 1) := by decide +kernel
theorem dX7_take_221 : decode cX7_take 221 = .ok (.iadd, 1) := by decide +kernel
theorem dX7_take_222 : decode cX7_take 222 = .ok (.goto 5, 3) := by decide +kernel
theorem dX7_take_225 : decode cX7_take 225 = .ok (.iload 4, 2) := by decide +kernel
theorem dX7_take_227 : decode cX7_take 227 = .ok (.istore 4, 2) := by decide +kernel
theorem dX7_take_229 : decode cX7_take 229 = .ok (.iinc 5 1, 3) := by decide +kernel
theorem dX7_take_232 : decode cX7_take 232 = .ok (.goto (-41), 3) := by decide +kernel
theorem dX7_take_235 : decode cX7_take 235 = .ok (.aload_n 0, 1) := by decide +kernel
theorem dX7_take_236 : decode cX7_take 236 = .ok (.getfield 65, 3) := by decide +kernel
theorem dX7_take_239 : decode cX7_take 239 = .ok (.iload_n 1, 1) := by decide +kernel
theorem dX7_take_240 : decode cX7_take 240 = .ok (.aload_n 0, 1) := by decide +kernel
theorem dX7_take_241 : decode cX7_take 241 = .ok (.getfield 65, 3) := by decide +kernel
theorem dX7_take_244 : decode cX7_take 244 = .ok (.iload_n 1, 1) := by decide +kernel
theorem dX7_take_245 : decode cX7_take 245 = .ok (.iaload, 1) := by decide +kernel
theorem dX7_take_246 : decode cX7_take 246 = .ok (.iconst 1, 1) := by decide +kernel
theorem dX7_take_247 : decode cX7_take 247 = .ok (.ishl, 1) := by decide +kernel
theorem dX7_take_248 : decode cX7_take 248 = .ok (.bipush 7, 2) := by decide +kernel
theorem dX7_take_250 : decode cX7_take 250 = .ok (.iand, 1) := by decide +kernel
theorem dX7_take_251 : decode cX7_take 251 = .ok (.iload 4, 2) := by decide +kernel
theorem dX7_take_253 : decode cX7_take 253 = .ok (.iconst (-1), 1) := by decide +kernel
theorem dX7_take_254 : decode cX7_take 254 = .ok (.if_icmp .ne 7, 3) := by decide +kernel
theorem dX7_take_257 : decode cX7_take 257 = .ok (.iconst 1, 1) := by decide +kernel
theorem dX7_take_258 : decode cX7_take 258 = .ok (.goto 4, 3) := by decide +kernel
theorem dX7_take_261 : decode cX7_take 261 = .ok (.iconst 0, 1) := by decide +kernel
theorem dX7_take_262 : decode cX7_take 262 = .ok (.ior, 1) := by decide +kernel
theorem dX7_take_263 : decode cX7_take 263 = .ok (.iastore, 1) := by decide +kernel
theorem dX7_take_264 : decode cX7_take 264 = .ok (.iload 4, 2) := by decide +kernel
theorem dX7_take_266 : decode cX7_take 266 = .ok (.iconst (-1), 1) := by decide +kernel
theorem dX7_take_267 : decode cX7_take 267 = .ok (.if_icmp .ne 44, 3) := by decide +kernel
theorem dX7_take_270 : decode cX7_take 270 = .ok (.aload_n 0, 1) := by decide +kernel
theorem dX7_take_271 : decode cX7_take 271 = .ok (.getfield 65, 3) := by decide +kernel
theorem dX7_take_274 : decode cX7_take 274 = .ok (.iload_n 1, 1) := by decide +kernel
theorem dX7_take_275 : decode cX7_take 275 = .ok (.iaload, 1) := by decide +kernel
theorem dX7_take_276 : decode cX7_take 276 = .ok (.istore 5, 2) := by decide +kernel
theorem dX7_take_278 : decode cX7_take 278 = .ok (.aload_n 0, 1) := by decide +kernel
theorem dX7_take_279 : decode cX7_take 279 = .ok (.getfield 68, 3) := by decide +kernel
theorem dX7_take_282 : decode cX7_take 282 = .ok (.iload_n 1, 1) := by decide +kernel
theorem dX7_take_283 : decode cX7_take 283 = .ok (.iload 5, 2) := by decide +kernel
theorem dX7_take_285 : decode cX7_take 285 = .ok (.iconst 1, 1) := by decide +kernel
theorem dX7_take_286 : decode cX7_take 286 = .ok (.if_icmp .eq 7, 3) := by decide +kernel
theorem dX7_take_289 : decode cX7_take 289 = .ok (.iconst 1, 1) := by decide +kernel
theorem dX7_take_290 : decode cX7_take 290 = .ok (.goto 4, 3) := by decide +kernel
theorem dX7_take_293 : decode cX7_take 293 = .ok (.iconst 0, 1) := by decide +kernel
theorem dX7_take_294 : decode cX7_take 294 = .ok (.bastore, 1) := by decide +kernel
theorem dX7_take_295 : decode cX7_take 295 = .ok (.aload_n 0, 1) := by decide +kernel
theorem dX7_take_296 : decode cX7_take 296 = .ok (.getfield 68, 3) := by decide +kernel
theorem dX7_take_299 : decode cX7_take 299 = .ok (.iload_n 1, 1) := by decide +kernel
theorem dX7_take_300 : decode cX7_take 300 = .ok (.baload, 1) := by decide +kernel
theorem dX7_take_301 : decode cX7_take 301 = .ok (.ifCond .eq 8, 3) := by decide +kernel
theorem dX7_take_304 : decode cX7_take 304 = .ok (.bipush (-7), 2) := by decide +kernel
theorem dX7_take_306 : decode cX7_take 306 = .ok (.goto 4, 3) := by decide +kernel
theorem dX7_take_309 : decode cX7_take 309 = .ok (.iconst 3, 1) := by decide +kernel
theorem dX7_take_310 : decode cX7_take 310 = .ok (.ireturn, 1) := by decide +kernel
theorem dX7_take_311 : decode cX7_take 311 = .ok (.iconst 0, 1) := by decide +kernel
theorem dX7_take_312 : decode cX7_take 312 = .ok (.istore 5, 2) := by decide +kernel
theorem dX7_take_314 : decode cX7_take 314 = .ok (.iload 5, 2) := by decide +kernel
theorem dX7_take_316 : decode cX7_take 316 = .ok (.iload 4, 2) := by decide +kernel
theorem dX7_take_318 : decode cX7_take 318 = .ok (.iadd, 1) := by decide +kernel
theorem dX7_take_319 : decode cX7_take 319 = .ok (.aload_n 0, 1) := by decide +kernel
theorem dX7_take_320 : decode cX7_take 320 = .ok (.getfield 44, 3) := by decide +kernel
theorem dX7_take_323 : decode cX7_take 323 = .ok (.iload_n 1, 1) := by decide +kernel
theorem dX7_take_324 : decode cX7_take 324 = .ok (.iaload, 1) := by decide +kernel
theorem dX7_take_325 : decode cX7_take 325 = .ok (.if_icmp .ge 90, 3) := by decide +kernel
theorem dX7_take_328 : decode cX7_take 328 = .ok (.aload_n 0, 1) := by decide +kernel
theorem dX7_take_329 : decode cX7_take 329 = .ok (.getfield 47, 3) := by decide +kernel
theorem dX7_take_332 : decode cX7_take 332 = .ok (.bipush 127, 2) := by decide +kernel
theorem dX7_take_334 : decode cX7_take 334 = .ok (.iload_n 1, 1) := by decide +kernel
theorem dX7_take_335 : decode cX7_take 335 = .ok (.imul, 1) := by decide +kernel
theorem dX7_take_336 : decode cX7_take 336 = .ok (.iload 5, 2) := by decide +kernel
theorem dX7_take_338 : decode cX7_take 338 = .ok (.iadd, 1) := by decide +kernel
theorem dX7_take_339 : decode cX7_take 339 = .ok (.aload_n 0, 1) := by decide +kernel
theorem dX7_take_340 : decode cX7_take 340 = .ok (.getfield 47, 3) := by decide +kernel
theorem dX7_take_343 : decode cX7_take 343 = .ok (.bipush 127, 2) := by decide +kernel
theorem dX7_take_345 : decode cX7_take 345 = .ok (.iload_n 1, 1) := by decide +kernel
theorem dX7_take_346 : decode cX7_take 346 = .ok (.imul, 1) := by decide +kernel
theorem dX7_take_347 : decode cX7_take 347 = .ok (.iload 5, 2) := by decide +kernel
theorem dX7_take_349 : decode cX7_take 349 = .ok (.iadd, 1) := by decide +kernel
theorem dX7_take_350 : decode cX7_take 350 = .ok (.iload 4, 2) := by decide +kernel
theorem dX7_take_352 : decode cX7_take 352 = .ok (.iadd, 1) := by decide +kernel
theorem dX7_take_353 : decode cX7_take 353 = .ok (.iaload, 1) := by decide +kernel
theorem dX7_take_354 : decode cX7_take 354 = .ok (.iastore, 1) := by decide +kernel
theorem dX7_take_355 : decode cX7_take 355 = .ok (.aload_n 0, 1) := by decide +kernel
theorem dX7_take_356 : decode cX7_take 356 = .ok (.getfield 50, 3) := by decide +kernel
theorem dX7_take_359 : decode cX7_take 359 = .ok (.bipush 127, 2) := by decide +kernel
theorem dX7_take_361 : decode cX7_take 361 = .ok (.iload_n 1, 1) := by decide +kernel
theorem dX7_take_362 : decode cX7_take 362 = .ok (.imul, 1) := by decide +kernel
theorem dX7_take_363 : decode cX7_take 363 = .ok (.iload 5, 2) := by decide +kernel
theorem dX7_take_365 : decode cX7_take 365 = .ok (.iadd, 1) := by decide +kernel
theorem dX7_take_366 : decode cX7_take 366 = .ok (.aload_n 0, 1) := by decide +kernel
theorem dX7_take_367 : decode cX7_take 367 = .ok (.getfield 50, 3) := by decide +kernel
theorem dX7_take_370 : decode cX7_take 370 = .ok (.bipush 127, 2) := by decide +kernel
theorem dX7_take_372 : decode cX7_take 372 = .ok (.iload_n 1, 1) := by decide +kernel
theorem dX7_take_373 : decode cX7_take 373 = .ok (.imul, 1) := by decide +kernel
theorem dX7_take_374 : decode cX7_take 374 = .ok (.iload 5, 2) := by decide +kernel
theorem dX7_take_376 : decode cX7_take 376 = .ok (.iadd, 1) := by decide +kernel
theorem dX7_take_377 : decode cX7_take 377 = .ok (.iload 4, 2) := by decide +kernel
theorem dX7_take_379 : decode cX7_take 379 = .ok (.iadd, 1) := by decide +kernel
theorem dX7_take_380 : decode cX7_take 380 = .ok (.iaload, 1) := by decide +kernel
theorem dX7_take_381 : decode cX7_take 381 = .ok (.iastore, 1) := by decide +kernel
theorem dX7_take_382 : decode cX7_take 382 = .ok (.aload_n 0, 1) := by decide +kernel
theorem dX7_take_383 : decode cX7_take 383 = .ok (.getfield 53, 3) := by decide +kernel
theorem dX7_take_386 : decode cX7_take 386 = .ok (.bipush 127, 2) := by decide +kernel
theorem dX7_take_388 : decode cX7_take 388 = .ok (.iload_n 1, 1) := by decide +kernel
theorem dX7_take_389 : decode cX7_take 389 = .ok (.imul, 1) := by decide +kernel
theorem dX7_take_390 : decode cX7_take 390 = .ok (.iload 5, 2) := by decide +kernel
theorem dX7_take_392 : decode cX7_take 392 = .ok (.iadd, 1) := by decide +kernel
theorem dX7_take_393 : decode cX7_take 393 = .ok (.aload_n 0, 1) := by decide +kernel
theorem dX7_take_394 : decode cX7_take 394 = .ok (.getfield 53, 3) := by decide +kernel
theorem dX7_take_397 : decode cX7_take 397 = .ok (.bipush 127, 2) := by decide +kernel
theorem dX7_take_399 : decode cX7_take 399 = .ok (.iload_n 1, 1) := by decide +kernel
theorem dX7_take_400 : decode cX7_take 400 = .ok (.imul, 1) := by decide +kernel
theorem dX7_take_401 : decode cX7_take 401 = .ok (.iload 5, 2) := by decide +kernel
theorem dX7_take_403 : decode cX7_take 403 = .ok (.iadd, 1) := by decide +kernel
theorem dX7_take_404 : decode cX7_take 404 = .ok (.iload 4, 2) := by decide +kernel
theorem dX7_take_406 : decode cX7_take 406 = .ok (.iadd, 1) := by decide +kernel
theorem dX7_take_407 : decode cX7_take 407 = .ok (.iaload, 1) := by decide +kernel
theorem dX7_take_408 : decode cX7_take 408 = .ok (.iastore, 1) := by decide +kernel
theorem dX7_take_409 : decode cX7_take 409 = .ok (.iinc 5 1, 3) := by decide +kernel
theorem dX7_take_412 : decode cX7_take 412 = .ok (.goto (-98), 3) := by decide +kernel
theorem dX7_take_415 : decode cX7_take 415 = .ok (.aload_n 0, 1) := by decide +kernel
theorem dX7_take_416 : decode cX7_take 416 = .ok (.getfield 44, 3) := by decide +kernel
theorem dX7_take_419 : decode cX7_take 419 = .ok (.iload_n 1, 1) := by decide +kernel
theorem dX7_take_420 : decode cX7_take 420 = .ok (.dup2, 1) := by decide +kernel
theorem dX7_take_421 : decode cX7_take 421 = .ok (.iaload, 1) := by decide +kernel
theorem dX7_take_422 : decode cX7_take 422 = .ok (.iload 4, 2) := by decide +kernel
theorem dX7_take_424 : decode cX7_take 424 = .ok (.isub, 1) := by decide +kernel
theorem dX7_take_425 : decode cX7_take 425 = .ok (.iastore, 1) := by decide +kernel
theorem dX7_take_426 : decode cX7_take 426 = .ok (.aload_n 0, 1) := by decide +kernel
theorem dX7_take_427 : decode cX7_take 427 = .ok (.getfield 56, 3) := by decide +kernel
theorem dX7_take_430 : decode cX7_take 430 = .ok (.iload_n 1, 1) := by decide +kernel
theorem dX7_take_431 : decode cX7_take 431 = .ok (.aload_n 0, 1) := by decide +kernel
theorem dX7_take_432 : decode cX7_take 432 = .ok (.getfield 56, 3) := by decide +kernel
theorem dX7_take_435 : decode cX7_take 435 = .ok (.iload_n 1, 1) := by decide +kernel
theorem dX7_take_436 : decode cX7_take 436 = .ok (.iaload, 1) := by decide +kernel
theorem dX7_take_437 : decode cX7_take 437 = .ok (.iload 4, 2) := by decide +kernel
theorem dX7_take_439 : decode cX7_take 439 = .ok (.if_icmp .le 15, 3) := by decide +kernel
theorem dX7_take_442 : decode cX7_take 442 = .ok (.aload_n 0, 1) := by decide +kernel
theorem dX7_take_443 : decode cX7_take 443 = .ok (.getfield 56, 3) := by decide +kernel
theorem dX7_take_446 : decode cX7_take 446 = .ok (.iload_n 1, 1) := by decide +kernel
theorem dX7_take_447 : decode cX7_take 447 = .ok (.iaload, 1) := by decide +kernel
theorem dX7_take_448 : decode cX7_take 448 = .ok (.iload 4, 2) := by decide +kernel
theorem dX7_take_450 : decode cX7_take 450 = .ok (.isub, 1) := by decide +kernel
theorem dX7_take_451 : decode cX7_take 451 = .ok (.goto 4, 3) := by decide +kernel
theorem dX7_take_454 : decode cX7_take 454 = .ok (.iconst 0, 1) := by decide +kernel
theorem dX7_take_455 : decode cX7_take 455 = .ok (.iastore, 1) := by decide +kernel
theorem dX7_take_456 : decode cX7_take 456 = .ok (.aload_n 0, 1) := by decide +kernel
theorem dX7_take_457 : decode cX7_take 457 = .ok (.getfield 32, 3) := by decide +kernel
theorem dX7_take_460 : decode cX7_take 460 = .ok (.iload_n 1, 1) := by decide +kernel
theorem dX7_take_461 : decode cX7_take 461 = .ok (.iload_n 3, 1) := by decide +kernel
theorem dX7_take_462 : decode cX7_take 462 = .ok (.iastore, 1) := by decide +kernel
theorem dX7_take_463 : decode cX7_take 463 = .ok (.aload_n 0, 1) := by decide +kernel
theorem dX7_take_464 : decode cX7_take 464 = .ok (.getfield 81, 3) := by decide +kernel
theorem dX7_take_467 : decode cX7_take 467 = .ok (.iconst 0, 1) := by decide +kernel
theorem dX7_take_468 : decode cX7_take 468 = .ok (.iaload, 1) := by decide +kernel
theorem dX7_take_469 : decode cX7_take 469 = .ok (.bipush 7, 2) := by decide +kernel
theorem dX7_take_471 : decode cX7_take 471 = .ok (.ishr, 1) := by decide +kernel
theorem dX7_take_472 : decode cX7_take 472 = .ok (.aload_n 0, 1) := by decide +kernel
theorem dX7_take_473 : decode cX7_take 473 = .ok (.getfield 20, 3) := by decide +kernel
theorem dX7_take_476 : decode cX7_take 476 = .ok (.iload_n 1, 1) := by decide +kernel
theorem dX7_take_477 : decode cX7_take 477 = .ok (.iaload, 1) := by decide +kernel
theorem dX7_take_478 : decode cX7_take 478 = .ok (.if_icmp .eq 24, 3) := by decide +kernel
theorem dX7_take_481 : decode cX7_take 481 = .ok (.aload_n 0, 1) := by decide +kernel
theorem dX7_take_482 : decode cX7_take 482 = .ok (.getfield 20, 3) := by decide +kernel
theorem dX7_take_485 : decode cX7_take 485 = .ok (.iload_n 1, 1) := by decide +kernel
theorem dX7_take_486 : decode cX7_take 486 = .ok (.iconst 1, 1) := by decide +kernel
theorem dX7_take_487 : decode cX7_take 487 = .ok (.aload_n 0, 1) := by decide +kernel
theorem dX7_take_488 : decode cX7_take 488 = .ok (.getfield 20, 3) := by decide +kernel
theorem dX7_take_491 : decode cX7_take 491 = .ok (.iload_n 1, 1) := by decide +kernel
theorem dX7_take_492 : decode cX7_take 492 = .ok (.iaload, 1) := by decide +kernel
theorem dX7_take_493 : decode cX7_take 493 = .ok (.isub, 1) := by decide +kernel
theorem dX7_take_494 : decode cX7_take 494 = .ok (.iastore, 1) := by decide +kernel
theorem dX7_take_495 : decode cX7_take 495 = .ok (.aload_n 0, 1) := by decide +kernel
theorem dX7_take_496 : decode cX7_take 496 = .ok (.getfield 56, 3) := by decide +kernel
theorem dX7_take_499 : decode cX7_take 499 = .ok (.iload_n 1, 1) := by decide +kernel
theorem dX7_take_500 : decode cX7_take 500 = .ok (.iconst 0, 1) := by decide +kernel
theorem dX7_take_501 : decode cX7_take 501 = .ok (.iastore, 1) := by decide +kernel
theorem dX7_take_502 : decode cX7_take 502 = .ok (.aload_n 0, 1) := by decide +kernel
theorem dX7_take_503 : decode cX7_take 503 = .ok (.iload_n 1, 1) := by decide +kernel
theorem dX7_take_504 : decode cX7_take 504 = .ok (.invokevirtual 137, 3) := by decide +kernel
theorem dX7_take_507 : decode cX7_take 507 = .ok (.ireturn, 1) := by decide +kernel
theorem dX7_forwards_0 : decode cX7_forwards 0 = .ok (.aload_n 0, 1) := by decide +kernel
theorem dX7_forwards_1 : decode cX7_forwards 1 = .ok (.getfield 81, 3) := by decide +kernel
theorem dX7_forwards_4 : decode cX7_forwards 4 = .ok (.iconst 1, 1) := by decide +kernel
theorem dX7_forwards_5 : decode cX7_forwards 5 = .ok (.iaload, 1) := by decide +kernel
theorem dX7_forwards_6 : decode cX7_forwards 6 = .ok (.bipush 127, 2) := by decide +kernel
theorem dX7_forwards_8 : decode cX7_forwards 8 = .ok (.iand, 1) := by decide +kernel
theorem dX7_forwards_9 : decode cX7_forwards 9 = .ok (.istore_n 2, 1) := by decide +kernel
theorem dX7_forwards_10 : decode cX7_forwards 10 = .ok (.aload_n 0, 1) := by decide +kernel
theorem dX7_forwards_11 : decode cX7_forwards 11 = .ok (.getfield 128, 3) := by decide +kernel
theorem dX7_forwards_14 : decode cX7_forwards 14 = .ok (.iconst 5, 1) := by decide +kernel
theorem dX7_forwards_15 : decode cX7_forwards 15 = .ok (.if_icmp .le 7, 3) := by decide +kernel
theorem dX7_forwards_18 : decode cX7_forwards 18 = .ok (.iconst 1, 1) := by decide +kernel
theorem dX7_forwards_19 : decode cX7_forwards 19 = .ok (.goto 4, 3) := by decide +kernel
theorem dX7_forwards_22 : decode cX7_forwards 22 = .ok (.iconst 0, 1) := by decide +kernel
theorem dX7_forwards_23 : decode cX7_forwards 23 = .ok (.istore_n 3, 1) := by decide +kernel
theorem dX7_forwards_24 : decode cX7_forwards 24 = .ok (.aload_n 0, 1) := by decide +kernel
theorem dX7_forwards_25 : decode cX7_forwards 25 = .ok (.getfield 81, 3) := by decide +kernel
theorem dX7_forwards_28 : decode cX7_forwards 28 = .ok (.iconst 1, 1) := by decide +kernel
theorem dX7_forwards_29 : decode cX7_forwards 29 = .ok (.iaload, 1) := by decide +kernel
theorem dX7_forwards_30 : decode cX7_forwards 30 = .ok (.bipush 7, 2) := by decide +kernel
theorem dX7_forwards_32 : decode cX7_forwards 32 = .ok (.ishr, 1) := by decide +kernel
theorem dX7_forwards_33 : decode cX7_forwards 33 = .ok (.aload_n 0, 1) := by decide +kernel
theorem dX7_forwards_34 : decode cX7_forwards 34 = .ok (.getfield 23, 3) := by decide +kernel
theorem dX7_forwards_37 : decode cX7_forwards 37 = .ok (.iload_n 1, 1) := by decide +kernel
theorem dX7_forwards_38 : decode cX7_forwards 38 = .ok (.iaload, 1) := by decide +kernel
theorem dX7_forwards_39 : decode cX7_forwards 39 = .ok (.if_icmp .ne 13, 3) := by decide +kernel
theorem dX7_forwards_42 : decode cX7_forwards 42 = .ok (.iload_n 2, 1) := by decide +kernel
theorem dX7_forwards_43 : decode cX7_forwards 43 = .ok (.aload_n 0, 1) := by decide +kernel
theorem dX7_forwards_44 : decode cX7_forwards 44 = .ok (.getfield 29, 3) := by decide +kernel
theorem dX7_forwards_47 : decode cX7_forwards 47 = .ok (.iload_n 1, 1) := by decide +kernel
theorem dX7_forwards_48 : decode cX7_forwards 48 = .ok (.iaload, 1) := by decide +kernel
theorem dX7_forwards_49 : decode cX7_forwards 49 = .ok (.if_icmp .ne 5, 3) := by decide +kernel
theorem dX7_forwards_52 : decode cX7_forwards 52 = .ok (.iconst 0, 1) := by decide +kernel
theorem dX7_forwards_53 : decode cX7_forwards 53 = .ok (.ireturn, 1) := by decide +kernel
theorem dX7_forwards_54 : decode cX7_forwards 54 = .ok (.iload_n 3, 1) := by decide +kernel
theorem dX7_forwards_55 : decode cX7_forwards 55 = .ok (.ifCond .eq 18, 3) := by decide +kernel
theorem dX7_forwards_58 : decode cX7_forwards 58 = .ok (.iload_n 2, 1) := by decide +kernel
theorem dX7_forwards_59 : decode cX7_forwards 59 = .ok (.aload_n 0, 1) := by decide +kernel
theorem dX7_forwards_60 : decode cX7_forwards 60 = .ok (.getfield 29, 3) := by decide +kernel
theorem dX7_forwards_63 : decode cX7_forwards 63 = .ok (.iload_n 1, 1) := by decide +kernel
theorem dX7_forwards_64 : decode cX7_forwards 64 = .ok (.iaload, 1) := by decide +kernel
theorem dX7_forwards_65 : decode cX7_forwards 65 = .ok (.iconst 1, 1) := by decide +kernel
theorem dX7_forwards_66 : decode cX7_forwards 66 = .ok (.iadd, 1) := by decide +kernel
theorem dX7_forwards_67 : decode cX7_forwards 67 = .ok (.bipush 127, 2) := by decide +kernel
theorem dX7_forwards_69 : decode cX7_forwards 69 = .ok (.iand, 1) := by decide +kernel
theorem dX7_forwards_70 : decode cX7_forwards 70 = .ok (.if_icmp .eq 19, 3) := by decide +kernel
theorem dX7_forwards_73 : decode cX7_forwards 73 = .ok (.aload_n 0, 1) := by decide +kernel
theorem dX7_forwards_74 : decode cX7_forwards 74 = .ok (.getfield 23, 3) := by decide +kernel
theorem dX7_forwards_77 : decode cX7_forwards 77 = .ok (.iload_n 1, 1) := by decide +kernel
theorem dX7_forwards_78 : decode cX7_forwards 78 = .ok (.iconst 1, 1) := by decide +kernel
theorem dX7_forwards_79 : decode cX7_forwards 79 = .ok (.aload_n 0, 1) := by decide +kernel
theorem dX7_forwards_80 : decode cX7_forwards 80 = .ok (.getfield 23, 3) := by decide +kernel
theorem dX7_forwards_83 : decode cX7_forwards 83 = .ok (.iload_n 1, 1) := by decide +kernel
theorem dX7_forwards_84 : decode cX7_forwards 84 = .ok (.iaload, 1) := by decide +kernel
theorem dX7_forwards_85 : decode cX7_forwards 85 = .ok (.isub, 1) := by decide +kernel
theorem dX7_forwards_86 : decode cX7_forwards 86 = .ok (.iastore, 1) := by decide +kernel
theorem dX7_forwards_87 : decode cX7_forwards 87 = .ok (.iconst 2, 1) := by decide +kernel
theorem dX7_forwards_88 : decode cX7_forwards 88 = .ok (.ireturn, 1) := by decide +kernel
theorem dX7_forwards_89 : decode cX7_forwards 89 = .ok (.aload_n 0, 1) := by decide +kernel
theorem dX7_forwards_90 : decode cX7_forwards 90 = .ok (.getfield 29, 3) := by decide +kernel
theorem dX7_forwards_93 : decode cX7_forwards 93 = .ok (.iload_n 1, 1) := by decide +kernel
theorem dX7_forwards_94 : decode cX7_forwards 94 = .ok (.iload_n 2, 1) := by decide +kernel
theorem dX7_forwards_95 : decode cX7_forwards 95 = .ok (.iastore, 1) := by decide +kernel
theorem dX7_forwards_96 : decode cX7_forwards 96 = .ok (.bipush 50, 2) := by decide +kernel
theorem dX7_forwards_98 : decode cX7_forwards 98 = .ok (.iload_n 1, 1) := by decide +kernel
theorem dX7_forwards_99 : decode cX7_forwards 99 = .ok (.imul, 1) := by decide +kernel
theorem dX7_forwards_100 : decode cX7_forwards 100 = .ok (.aload_n 0, 1) := by decide +kernel
theorem dX7_forwards_101 : decode cX7_forwards 101 = .ok (.getfield 72, 3) := by decide +kernel
theorem dX7_forwards_104 : decode cX7_forwards 104 = .ok (.iload_n 1, 1) := by decide +kernel
theorem dX7_forwards_105 : decode cX7_forwards 105 = .ok (.iaload, 1) := by decide +kernel
theorem dX7_forwards_106 : decode cX7_forwards 106 = .ok (.bipush 50, 2) := by decide +kernel
