theorem dX7_forwards_108 : decode cX7_forwards 108 = .ok (.irem, 1) := by decide +kernel
theorem dX7_forwards_109 : decode cX7_forwards 109 = .ok (.iadd, 1) := by decide +kernel
theorem dX7_forwards_110 : decode cX7_forwards 110 = .ok (.istore 4, 2) := by decide +kernel
theorem dX7_forwards_112 : decode cX7_forwards 112 = .ok (.aload_n 0, 1) := by decide +kernel
theorem dX7_forwards_113 : decode cX7_forwards 113 = .ok (.getfield 75, 3) := by decide +kernel
theorem dX7_forwards_116 : decode cX7_forwards 116 = .ok (.iload 4, 2) := by decide +kernel
theorem dX7_forwards_118 : decode cX7_forwards 118 = .ok (.aload_n 0, 1) := by decide +kernel
theorem dX7_forwards_119 : decode cX7_forwards 119 = .ok (.getfield 128, 3) := by decide +kernel
theorem dX7_forwards_122 : decode cX7_forwards 122 = .ok (.iconst 5, 1) := by decide +kernel
theorem dX7_forwards_123 : decode cX7_forwards 123 = .ok (.isub, 1) := by decide +kernel
theorem dX7_forwards_124 : decode cX7_forwards 124 = .ok (.iastore, 1) := by decide +kernel
theorem dX7_forwards_125 : decode cX7_forwards 125 = .ok (.iconst 0, 1) := by decide +kernel
theorem dX7_forwards_126 : decode cX7_forwards 126 = .ok (.istore 5, 2) := by decide +kernel
theorem dX7_forwards_128 : decode cX7_forwards 128 = .ok (.iload 5, 2) := by decide +kernel
theorem dX7_forwards_130 : decode cX7_forwards 130 = .ok (.aload_n 0, 1) := by decide +kernel
theorem dX7_forwards_131 : decode cX7_forwards 131 = .ok (.getfield 128, 3) := by decide +kernel
theorem dX7_forwards_134 : decode cX7_forwards 134 = .ok (.iconst 5, 1) := by decide +kernel
theorem dX7_forwards_135 : decode cX7_forwards 135 = .ok (.isub, 1) := by decide +kernel
theorem dX7_forwards_136 : decode cX7_forwards 136 = .ok (.if_icmp .ge 32, 3) := by decide +kernel
theorem dX7_forwards_139 : decode cX7_forwards 139 = .ok (.aload_n 0, 1) := by decide +kernel
theorem dX7_forwards_140 : decode cX7_forwards 140 = .ok (.getfield 78, 3) := by decide +kernel
theorem dX7_forwards_143 : decode cX7_forwards 143 = .ok (.sipush 272, 3) := by decide +kernel
theorem dX7_forwards_146 : decode cX7_forwards 146 = .ok (.iload 4, 2) := by decide +kernel
theorem dX7_forwards_148 : decode cX7_forwards 148 = .ok (.imul, 1) := by decide +kernel
theorem dX7_forwards_149 : decode cX7_forwards 149 = .ok (.iload 5, 2) := by decide +kernel
theorem dX7_forwards_151 : decode cX7_forwards 151 = .ok (.iadd, 1) := by decide +kernel
theorem dX7_forwards_152 : decode cX7_forwards 152 = .ok (.aload_n 0, 1) := by decide +kernel
theorem dX7_forwards_153 : decode cX7_forwards 153 = .ok (.getfield 81, 3) := by decide +kernel
theorem dX7_forwards_156 : decode cX7_forwards 156 = .ok (.iconst 3, 1) := by decide +kernel
theorem dX7_forwards_157 : decode cX7_forwards 157 = .ok (.iload 5, 2) := by decide +kernel
theorem dX7_forwards_159 : decode cX7_forwards 159 = .ok (.iadd, 1) := by decide +kernel
theorem dX7_forwards_160 : decode cX7_forwards 160 = .ok (.iaload, 1) := by decide +kernel
theorem dX7_forwards_161 : decode cX7_forwards 161 = .ok (.iastore, 1) := by decide +kernel
theorem dX7_forwards_162 : decode cX7_forwards 162 = .ok (.iinc 5 1, 3) := by decide +kernel
theorem dX7_forwards_165 : decode cX7_forwards 165 = .ok (.goto (-37), 3) := by decide +kernel
theorem dX7_forwards_168 : decode cX7_forwards 168 = .ok (.aload_n 0, 1) := by decide +kernel
theorem dX7_forwards_169 : decode cX7_forwards 169 = .ok (.getfield 72, 3) := by decide +kernel
theorem dX7_forwards_172 : decode cX7_forwards 172 = .ok (.iload_n 1, 1) := by decide +kernel
theorem dX7_forwards_173 : decode cX7_forwards 173 = .ok (.dup2, 1) := by decide +kernel
theorem dX7_forwards_174 : decode cX7_forwards 174 = .ok (.iaload, 1) := by decide +kernel
theorem dX7_forwards_175 : decode cX7_forwards 175 = .ok (.iconst 1, 1) := by decide +kernel
theorem dX7_forwards_176 : decode cX7_forwards 176 = .ok (.iadd, 1) := by decide +kernel
theorem dX7_forwards_177 : decode cX7_forwards 177 = .ok (.iastore, 1) := by decide +kernel
theorem dX7_forwards_178 : decode cX7_forwards 178 = .ok (.iconst 1, 1) := by decide +kernel
theorem dX7_forwards_179 : decode cX7_forwards 179 = .ok (.ireturn, 1) := by decide +kernel
set_option maxRecDepth 20000 in
theorem ggX7_isFrame_X7_isEnd : GoodIn wsX7_isFrame wsX7_isEnd := goodIn_r _ [5] (by decide +kernel) (by decide +kernel)
set_option maxRecDepth 20000 in
theorem gX7_isFrame_X7_isEnd : GoodIn wsX7_isFrame (va_wsS RX7 107 yX7_isEnd wsX7_isEnd) := goodIn_app (goodIn_of _ (by decide +kernel)) ggX7_isFrame_X7_isEnd
theorem dX7_isFrame_0 : decode cX7_isFrame 0 = .ok (.iload_n 1, 1) := by decide +kernel
theorem dX7_isFrame_1 : decode cX7_isFrame 1 = .ok (.invokestatic 107, 3) := by decide +kernel
theorem dX7_isFrame_4 : decode cX7_isFrame 4 = .ok (.ifCond .eq 21, 3) := by decide +kernel
theorem dX7_isFrame_7 : decode cX7_isFrame 7 = .ok (.iload_n 2, 1) := by decide +kernel
theorem dX7_isFrame_8 : decode cX7_isFrame 8 = .ok (.ifCond .lt 17, 3) := by decide +kernel
theorem dX7_isFrame_11 : decode cX7_isFrame 11 = .ok (.iload_n 2, 1) := by decide +kernel
theorem dX7_isFrame_12 : decode cX7_isFrame 12 = .ok (.aload_n 0, 1) := by decide +kernel
theorem dX7_isFrame_13 : decode cX7_isFrame 13 = .ok (.getfield 7, 3) := by decide +kernel
theorem dX7_isFrame_16 : decode cX7_isFrame 16 = .ok (.iload_n 1, 1) := by decide +kernel
theorem dX7_isFrame_17 : decode cX7_isFrame 17 = .ok (.iaload, 1) := by decide +kernel
theorem dX7_isFrame_18 : decode cX7_isFrame 18 = .ok (.if_icmp .ge 7, 3) := by decide +kernel
theorem dX7_isFrame_21 : decode cX7_isFrame 21 = .ok (.iconst 1, 1) := by decide +kernel
theorem dX7_isFrame_22 : decode cX7_isFrame 22 = .ok (.goto 4, 3) := by decide +kernel
theorem dX7_isFrame_25 : decode cX7_isFrame 25 = .ok (.iconst 0, 1) := by decide +kernel
theorem dX7_isFrame_26 : decode cX7_isFrame 26 = .ok (.ireturn, 1) := by decide +kernel
set_option maxRecDepth 20000 in
theorem ggX7_flip_X7_isFrame : GoodIn wsX7_flip wsX7_isFrame := goodIn_r _ [7, 8, 9, 10, 6, 11, 17, 18, 19, 20, 21, 22, 23, 24, 25, 26, 27, 28, 29, 30, 31, 32, 33, 34, 35, 36, 37, 38, 39, 40, 41, 42, 43] (by decide +kernel) (by decide +kernel)
set_option maxRecDepth 20000 in
theorem gX7_flip_X7_isFrame : GoodIn wsX7_flip (wsV RX7 140 RX7 yX7_isFrame wsX7_isFrame) := goodIn_app (goodIn_of _ (by decide +kernel)) ggX7_flip_X7_isFrame
set_option maxRecDepth 20000 in
theorem ggX7_flip_X7_refuses : GoodIn wsX7_flip wsX7_refuses := goodIn_r _ [15, 16, 17, 18, 19, 20, 21, 22, 23, 24, 25, 26, 27, 28, 29, 30, 31, 32, 33, 34, 35, 36, 37, 38, 39, 40, 41, 42, 43] (by decide +kernel) (by decide +kernel)
set_option maxRecDepth 20000 in
theorem gX7_flip_X7_refuses : GoodIn wsX7_flip (wsV RX7 101 RX7 yX7_refuses wsX7_refuses) := goodIn_app (goodIn_of _ (by decide +kernel)) ggX7_flip_X7_refuses
theorem dX7_flip_0 : decode cX7_flip 0 = .ok (.aload_n 0, 1) := by decide +kernel
theorem dX7_flip_1 : decode cX7_flip 1 = .ok (.aload_n 0, 1) := by decide +kernel
theorem dX7_flip_2 : decode cX7_flip 2 = .ok (.iload_n 1, 1) := by decide +kernel
theorem dX7_flip_3 : decode cX7_flip 3 = .ok (.iload_n 2, 1) := by decide +kernel
theorem dX7_flip_4 : decode cX7_flip 4 = .ok (.invokevirtual 140, 3) := by decide +kernel
theorem dX7_flip_7 : decode cX7_flip 7 = .ok (.ifCond .eq 22, 3) := by decide +kernel
theorem dX7_flip_10 : decode cX7_flip 10 = .ok (.iload_n 3, 1) := by decide +kernel
theorem dX7_flip_11 : decode cX7_flip 11 = .ok (.ifCond .lt 18, 3) := by decide +kernel
theorem dX7_flip_14 : decode cX7_flip 14 = .ok (.iload_n 3, 1) := by decide +kernel
theorem dX7_flip_15 : decode cX7_flip 15 = .ok (.aload_n 0, 1) := by decide +kernel
theorem dX7_flip_16 : decode cX7_flip 16 = .ok (.getfield 13, 3) := by decide +kernel
theorem dX7_flip_19 : decode cX7_flip 19 = .ok (.bipush 40, 2) := by decide +kernel
theorem dX7_flip_21 : decode cX7_flip 21 = .ok (.iload_n 1, 1) := by decide +kernel
theorem dX7_flip_22 : decode cX7_flip 22 = .ok (.imul, 1) := by decide +kernel
theorem dX7_flip_23 : decode cX7_flip 23 = .ok (.iload_n 2, 1) := by decide +kernel
theorem dX7_flip_24 : decode cX7_flip 24 = .ok (.iadd, 1) := by decide +kernel
theorem dX7_flip_25 : decode cX7_flip 25 = .ok (.iaload, 1) := by decide +kernel
theorem dX7_flip_26 : decode cX7_flip 26 = .ok (.if_icmp .lt 7, 3) := by decide +kernel
theorem dX7_flip_29 : decode cX7_flip 29 = .ok (.iconst 1, 1) := by decide +kernel
theorem dX7_flip_30 : decode cX7_flip 30 = .ok (.goto 4, 3) := by decide +kernel
theorem dX7_flip_33 : decode cX7_flip 33 = .ok (.iconst 0, 1) := by decide +kernel
theorem dX7_flip_34 : decode cX7_flip 34 = .ok (.invokevirtual 101, 3) := by decide +kernel
theorem dX7_flip_37 : decode cX7_flip 37 = .ok (.ifCond .eq 5, 3) := by decide +kernel
theorem dX7_flip_40 : decode cX7_flip 40 = .ok (.iconst 0, 1) := by decide +kernel
theorem dX7_flip_41 : decode cX7_flip 41 = .ok (.ireturn, 1) := by decide +kernel
theorem dX7_flip_42 : decode cX7_flip 42 = .ok (.sipush 3000, 3) := by decide +kernel
theorem dX7_flip_45 : decode cX7_flip 45 = .ok (.bipush 40, 2) := by decide +kernel
theorem dX7_flip_47 : decode cX7_flip 47 = .ok (.iload_n 1, 1) := by decide +kernel
theorem dX7_flip_48 : decode cX7_flip 48 = .ok (.imul, 1) := by decide +kernel
theorem dX7_flip_49 : decode cX7_flip 49 = .ok (.iload_n 2, 1) := by decide +kernel
theorem dX7_flip_50 : decode cX7_flip 50 = .ok (.iadd, 1) := by decide +kernel
theorem dX7_flip_51 : decode cX7_flip 51 = .ok (.imul, 1) := by decide +kernel
theorem dX7_flip_52 : decode cX7_flip 52 = .ok (.iload_n 3, 1) := by decide +kernel
theorem dX7_flip_53 : decode cX7_flip 53 = .ok (.iadd, 1) := by decide +kernel
theorem dX7_flip_54 : decode cX7_flip 54 = .ok (.istore 4, 2) := by decide +kernel
theorem dX7_flip_56 : decode cX7_flip 56 = .ok (.aload_n 0, 1) := by decide +kernel
theorem dX7_flip_57 : decode cX7_flip 57 = .ok (.getfield 17, 3) := by decide +kernel
theorem dX7_flip_60 : decode cX7_flip 60 = .ok (.iload 4, 2) := by decide +kernel
theorem dX7_flip_62 : decode cX7_flip 62 = .ok (.iconst 1, 1) := by decide +kernel
theorem dX7_flip_63 : decode cX7_flip 63 = .ok (.aload_n 0, 1) := by decide +kernel
theorem dX7_flip_64 : decode cX7_flip 64 = .ok (.getfield 17, 3) := by decide +kernel
theorem dX7_flip_67 : decode cX7_flip 67 = .ok (.iload 4, 2) := by decide +kernel
theorem dX7_flip_69 : decode cX7_flip 69 = .ok (.iaload, 1) := by decide +kernel
theorem dX7_flip_70 : decode cX7_flip 70 = .ok (.isub, 1) := by decide +kernel
theorem dX7_flip_71 : decode cX7_flip 71 = .ok (.iastore, 1) := by decide +kernel
theorem dX7_flip_72 : decode cX7_flip 72 = .ok (.aload_n 0, 1) := by decide +kernel
theorem dX7_flip_73 : decode cX7_flip 73 = .ok (.getfield 17, 3) := by decide +kernel
theorem dX7_flip_76 : decode cX7_flip 76 = .ok (.iload 4, 2) := by decide +kernel
theorem dX7_flip_78 : decode cX7_flip 78 = .ok (.iaload, 1) := by decide +kernel
theorem dX7_flip_79 : decode cX7_flip 79 = .ok (.ireturn, 1) := by decide +kernel
set_option maxRecDepth 20000 in
theorem ggX7_drop_X7_isFrame : GoodIn wsX7_drop wsX7_isFrame := goodIn_r _ [6, 7, 8, 9, 5, 10, 21, 22, 23, 24, 25, 26, 27, 28, 29, 30, 31, 32, 33, 34, 35, 36, 37, 38, 39, 40, 41, 42, 43, 44, 45, 46, 47] (by decide +kernel) (by decide +kernel)
set_option maxRecDepth 20000 in
theorem gX7_drop_X7_isFrame : GoodIn wsX7_drop (wsV RX7 140 RX7 yX7_isFrame wsX7_isFrame) := goodIn_app (goodIn_of _ (by decide +kernel)) ggX7_drop_X7_isFrame
set_option maxRecDepth 20000 in
theorem ggX7_drop_X7_refuses : GoodIn wsX7_drop wsX7_refuses := goodIn_r _ [14, 15, 21, 22, 23, 24, 25, 26, 27, 28, 29, 30, 31, 32, 33, 34, 35, 36, 37, 38, 39, 40, 41, 42, 43, 44, 45, 46, 47] (by decide +kernel) (by decide +kernel)
set_option maxRecDepth 20000 in
theorem gX7_drop_X7_refuses : GoodIn wsX7_drop (wsV RX7 101 RX7 yX7_refuses wsX7_refuses) := goodIn_app (goodIn_of _ (by decide +kernel)) ggX7_drop_X7_refuses
set_option maxRecDepth 20000 in
theorem ggX7_drop_X7_goes : GoodIn wsX7_drop wsX7_goes := goodIn_r _ [19, 7, 1, 20, 21, 22, 23, 24, 25, 26, 27, 28, 29, 30, 31, 32, 33, 34, 35, 36, 37, 38, 39, 40, 41, 42, 43, 44, 45, 46, 47] (by decide +kernel) (by decide +kernel)
set_option maxRecDepth 20000 in
theorem gX7_drop_X7_goes : GoodIn wsX7_drop (wsV RX7 134 RX7 yX7_goes wsX7_goes) := goodIn_app (goodIn_of _ (by decide +kernel)) ggX7_drop_X7_goes
theorem dX7_drop_0 : decode cX7_drop 0 = .ok (.aload_n 0, 1) := by decide +kernel
theorem dX7_drop_1 : decode cX7_drop 1 = .ok (.aload_n 0, 1) := by decide +kernel
theorem dX7_drop_2 : decode cX7_drop 2 = .ok (.iload_n 1, 1) := by decide +kernel
theorem dX7_drop_3 : decode cX7_drop 3 = .ok (.iload_n 2, 1) := by decide +kernel
theorem dX7_drop_4 : decode cX7_drop 4 = .ok (.invokevirtual 140, 3) := by decide +kernel
theorem dX7_drop_7 : decode cX7_drop 7 = .ok (.ifCond .eq 7, 3) := by decide +kernel
theorem dX7_drop_10 : decode cX7_drop 10 = .ok (.iconst 0, 1) := by decide +kernel
theorem dX7_drop_11 : decode cX7_drop 11 = .ok (.goto 4, 3) := by decide +kernel
theorem dX7_drop_14 : decode cX7_drop 14 = .ok (.iconst 1, 1) := by decide +kernel
theorem dX7_drop_15 : decode cX7_drop 15 = .ok (.invokevirtual 101, 3) := by decide +kernel
theorem dX7_drop_18 : decode cX7_drop 18 = .ok (.ifCond .eq 5, 3) := by decide +kernel
theorem dX7_drop_21 : decode cX7_drop 21 = .ok (.iconst 0, 1) := by decide +kernel
theorem dX7_drop_22 : decode cX7_drop 22 = .ok (.ireturn, 1) := by decide +kernel
theorem dX7_drop_23 : decode cX7_drop 23 = .ok (.aload_n 0, 1) := by decide +kernel
theorem dX7_drop_24 : decode cX7_drop 24 = .ok (.getfield 13, 3) := by decide +kernel
theorem dX7_drop_27 : decode cX7_drop 27 = .ok (.bipush 40, 2) := by decide +kernel
theorem dX7_drop_29 : decode cX7_drop 29 = .ok (.iload_n 1, 1) := by decide +kernel
theorem dX7_drop_30 : decode cX7_drop 30 = .ok (.imul, 1) := by decide +kernel
theorem dX7_drop_31 : decode cX7_drop 31 = .ok (.iload_n 2, 1) := by decide +kernel
theorem dX7_drop_32 : decode cX7_drop 32 = .ok (.iadd, 1) := by decide +kernel
theorem dX7_drop_33 : decode cX7_drop 33 = .ok (.iaload, 1) := by decide +kernel
theorem dX7_drop_34 : decode cX7_drop 34 = .ok (.istore_n 3, 1) := by decide +kernel
theorem dX7_drop_35 : decode cX7_drop 35 = .ok (.aload_n 0, 1) := by decide +kernel
theorem dX7_drop_36 : decode cX7_drop 36 = .ok (.iload_n 1, 1) := by decide +kernel
theorem dX7_drop_37 : decode cX7_drop 37 = .ok (.iload_n 2, 1) := by decide +kernel
theorem dX7_drop_38 : decode cX7_drop 38 = .ok (.invokevirtual 134, 3) := by decide +kernel
theorem dX7_drop_41 : decode cX7_drop 41 = .ok (.iload_n 3, 1) := by decide +kernel
theorem dX7_drop_42 : decode cX7_drop 42 = .ok (.ireturn, 1) := by decide +kernel
set_option maxRecDepth 20000 in
theorem ggX7_bits_X7_isEnd : GoodIn wsX7_bits wsX7_isEnd := goodIn_r _ [6] (by decide +kernel) (by decide +kernel)
set_option maxRecDepth 20000 in
theorem gX7_bits_X7_isEnd : GoodIn wsX7_bits (va_wsS RX7 107 yX7_isEnd wsX7_isEnd) := goodIn_app (goodIn_of _ (by decide +kernel)) ggX7_bits_X7_isEnd
set_option maxRecDepth 20000 in
theorem ggX7_bits_X7_refuses : GoodIn wsX7_bits wsX7_refuses := goodIn_r _ [10, 11, 17, 18, 19, 20, 21, 22, 23, 24, 25, 26, 27, 28, 29, 30, 31, 32, 33, 34, 35, 36, 37, 38, 39, 40, 41, 42, 43] (by decide +kernel) (by decide +kernel)
set_option maxRecDepth 20000 in
theorem gX7_bits_X7_refuses : GoodIn wsX7_bits (wsV RX7 101 RX7 yX7_refuses wsX7_refuses) := goodIn_app (goodIn_of _ (by decide +kernel)) ggX7_bits_X7_refuses
set_option maxRecDepth 20000 in
theorem ggX7_bits_X7_bit : GoodIn wsX7_bits wsX7_bit := goodIn_r _ [15, 1, 16, 2, 17, 18, 19, 20, 21, 22, 23, 24, 25, 26, 27, 28, 29, 30, 31, 32, 33, 34, 35, 36, 37, 38, 39, 40, 41, 42, 43] (by decide +kernel) (by decide +kernel)
set_option maxRecDepth 20000 in
theorem gX7_bits_X7_bit : GoodIn wsX7_bits (wsV RX7 110 RX7 yX7_bit wsX7_bit) := goodIn_app (goodIn_of _ (by decide +kernel)) ggX7_bits_X7_bit
theorem dX7_bits_0 : decode cX7_bits 0 = .ok (.aload_n 0, 1) := by decide +kernel
theorem dX7_bits_1 : decode cX7_bits 1 = .ok (.iload_n 1, 1) := by decide +kernel
theorem dX7_bits_2 : decode cX7_bits 2 = .ok (.invokestatic 107, 3) := by decide +kernel
theorem dX7_bits_5 : decode cX7_bits 5 = .ok (.ifCond .eq 16, 3) := by decide +kernel
theorem dX7_bits_8 : decode cX7_bits 8 = .ok (.iload 4, 2) := by decide +kernel
theorem dX7_bits_10 : decode cX7_bits 10 = .ok (.iconst 1, 1) := by decide +kernel
theorem dX7_bits_11 : decode cX7_bits 11 = .ok (.if_icmp .lt 10, 3) := by decide +kernel
theorem dX7_bits_14 : decode cX7_bits 14 = .ok (.iload 4, 2) := by decide +kernel
theorem dX7_bits_16 : decode cX7_bits 16 = .ok (.bipush 64, 2) := by decide +kernel
theorem dX7_bits_18 : decode cX7_bits 18 = .ok (.if_icmp .le 7, 3) := by decide +kernel
theorem dX7_bits_21 : decode cX7_bits 21 = .ok (.iconst 1, 1) := by decide +kernel
theorem dX7_bits_22 : decode cX7_bits 22 = .ok (.goto 4, 3) := by decide +kernel
theorem dX7_bits_25 : decode cX7_bits 25 = .ok (.iconst 0, 1) := by decide +kernel
theorem dX7_bits_26 : decode cX7_bits 26 = .ok (.invokevirtual 101, 3) := by decide +kernel
theorem dX7_bits_29 : decode cX7_bits 29 = .ok (.ifCond .eq 5, 3) := by decide +kernel
theorem dX7_bits_32 : decode cX7_bits 32 = .ok (.iconst 0, 1) := by decide +kernel
theorem dX7_bits_33 : decode cX7_bits 33 = .ok (.ireturn, 1) := by decide +kernel
theorem dX7_bits_34 : decode cX7_bits 34 = .ok (.iload 5, 2) := by decide +kernel
theorem dX7_bits_36 : decode cX7_bits 36 = .ok (.ifCond .ne 12, 3) := by decide +kernel
theorem dX7_bits_39 : decode cX7_bits 39 = .ok (.aload_n 0, 1) := by decide +kernel
theorem dX7_bits_40 : decode cX7_bits 40 = .ok (.getfield 7, 3) := by decide +kernel
theorem dX7_bits_43 : decode cX7_bits 43 = .ok (.iload_n 1, 1) := by decide +kernel
theorem dX7_bits_44 : decode cX7_bits 44 = .ok (.iaload, 1) := by decide +kernel
theorem dX7_bits_45 : decode cX7_bits 45 = .ok (.ifCond .ne 7, 3) := by decide +kernel
theorem dX7_bits_48 : decode cX7_bits 48 = .ok (.iconst 1, 1) := by decide +kernel
theorem dX7_bits_49 : decode cX7_bits 49 = .ok (.goto 4, 3) := by decide +kernel
theorem dX7_bits_52 : decode cX7_bits 52 = .ok (.iconst 0, 1) := by decide +kernel
theorem dX7_bits_53 : decode cX7_bits 53 = .ok (.istore 6, 2) := by decide +kernel
theorem dX7_bits_55 : decode cX7_bits 55 = .ok (.bipush 40, 2) := by decide +kernel
theorem dX7_bits_57 : decode cX7_bits 57 = .ok (.iload_n 1, 1) := by decide +kernel
theorem dX7_bits_58 : decode cX7_bits 58 = .ok (.imul, 1) := by decide +kernel
theorem dX7_bits_59 : decode cX7_bits 59 = .ok (.aload_n 0, 1) := by decide +kernel
theorem dX7_bits_60 : decode cX7_bits 60 = .ok (.getfield 7, 3) := by decide +kernel
theorem dX7_bits_63 : decode cX7_bits 63 = .ok (.iload_n 1, 1) := by decide +kernel
theorem dX7_bits_64 : decode cX7_bits 64 = .ok (.iaload, 1) := by decide +kernel
theorem dX7_bits_65 : decode cX7_bits 65 = .ok (.iadd, 1) := by decide +kernel
theorem dX7_bits_66 : decode cX7_bits 66 = .ok (.iconst 1, 1) := by decide +kernel
theorem dX7_bits_67 : decode cX7_bits 67 = .ok (.isub, 1) := by decide +kernel
theorem dX7_bits_68 : decode cX7_bits 68 = .ok (.istore 7, 2) := by decide +kernel
theorem dX7_bits_70 : decode cX7_bits 70 = .ok (.aload_n 0, 1) := by decide +kernel
theorem dX7_bits_71 : decode cX7_bits 71 = .ok (.iload 6, 2) := by decide +kernel
theorem dX7_bits_73 : decode cX7_bits 73 = .ok (.ifCond .eq 22, 3) := by decide +kernel
theorem dX7_bits_76 : decode cX7_bits 76 = .ok (.aload_n 0, 1) := by decide +kernel
theorem dX7_bits_77 : decode cX7_bits 77 = .ok (.getfield 7, 3) := by decide +kernel
theorem dX7_bits_80 : decode cX7_bits 80 = .ok (.iload_n 1, 1) := by decide +kernel
theorem dX7_bits_81 : decode cX7_bits 81 = .ok (.iaload, 1) := by decide +kernel
theorem dX7_bits_82 : decode cX7_bits 82 = .ok (.bipush 40, 2) := by decide +kernel
theorem dX7_bits_84 : decode cX7_bits 84 = .ok (.if_icmp .ne 7, 3) := by decide +kernel
theorem dX7_bits_87 : decode cX7_bits 87 = .ok (.iconst 2, 1) := by decide +kernel
theorem dX7_bits_88 : decode cX7_bits 88 = .ok (.goto 28, 3) := by decide +kernel
theorem dX7_bits_91 : decode cX7_bits 91 = .ok (.iconst 0, 1) := by decide +kernel
theorem dX7_bits_92 : decode cX7_bits 92 = .ok (.goto 24, 3) := by decide +kernel
theorem dX7_bits_95 : decode cX7_bits 95 = .ok (.aload_n 0, 1) := by decide +kernel
theorem dX7_bits_96 : decode cX7_bits 96 = .ok (.getfield 13, 3) := by decide +kernel
theorem dX7_bits_99 : decode cX7_bits 99 = .ok (.iload 7, 2) := by decide +kernel
theorem dX7_bits_101 : decode cX7_bits 101 = .ok (.iaload, 1) := by decide +kernel
theorem dX7_bits_102 : decode cX7_bits 102 = .ok (.iload 4, 2) := by decide +kernel
theorem dX7_bits_104 : decode cX7_bits 104 = .ok (.iadd, 1) := by decide +kernel
theorem dX7_bits_105 : decode cX7_bits 105 = .ok (.sipush 3000, 3) := by decide +kernel
theorem dX7_bits_108 : decode cX7_bits 108 = .ok (.if_icmp .le 7, 3) := by decide +kernel
theorem dX7_bits_111 : decode cX7_bits 111 = .ok (.iconst 2, 1) := by decide +kernel
theorem dX7_bits_112 : decode cX7_bits 112 = .ok (.goto 4, 3) := by decide +kernel
theorem dX7_bits_115 : decode cX7_bits 115 = .ok (.iconst 0, 1) := by decide +kernel
theorem dX7_bits_116 : decode cX7_bits 116 = .ok (.invokevirtual 101, 3) := by decide +kernel
theorem dX7_bits_119 : decode cX7_bits 119 = .ok (.ifCond .eq 5, 3) := by decide +kernel
theorem dX7_bits_122 : decode cX7_bits 122 = .ok (.iconst 0, 1) := by decide +kernel
theorem dX7_bits_123 : decode cX7_bits 123 = .ok (.ireturn, 1) := by decide +kernel
theorem dX7_bits_124 : decode cX7_bits 124 = .ok (.iload 6, 2) := by decide +kernel
theorem dX7_bits_126 : decode cX7_bits 126 = .ok (.ifCond .eq 30, 3) := by decide +kernel
theorem dX7_bits_129 : decode cX7_bits 129 = .ok (.aload_n 0, 1) := by decide +kernel
theorem dX7_bits_130 : decode cX7_bits 130 = .ok (.getfield 13, 3) := by decide +kernel
theorem dX7_bits_133 : decode cX7_bits 133 = .ok (.bipush 40, 2) := by decide +kernel
theorem dX7_bits_135 : decode cX7_bits 135 = .ok (.iload_n 1, 1) := by decide +kernel
theorem dX7_bits_136 : decode cX7_bits 136 = .ok (.imul, 1) := by decide +kernel
theorem dX7_bits_137 : decode cX7_bits 137 = .ok (.aload_n 0, 1) := by decide +kernel
theorem dX7_bits_138 : decode cX7_bits 138 = .ok (.getfield 7, 3) := by decide +kernel
theorem dX7_bits_141 : decode cX7_bits 141 = .ok (.iload_n 1, 1) := by decide +kernel
theorem dX7_bits_142 : decode cX7_bits 142 = .ok (.iaload, 1) := by decide +kernel
theorem dX7_bits_143 : decode cX7_bits 143 = .ok (.iadd, 1) := by decide +kernel
theorem dX7_bits_144 : decode cX7_bits 144 = .ok (.iconst 0, 1) := by decide +kernel
theorem dX7_bits_145 : decode cX7_bits 145 = .ok (.iastore, 1) := by decide +kernel
theorem dX7_bits_146 : decode cX7_bits 146 = .ok (.aload_n 0, 1) := by decide +kernel
theorem dX7_bits_147 : decode cX7_bits 147 = .ok (.getfield 7, 3) := by decide +kernel
theorem dX7_bits_150 : decode cX7_bits 150 = .ok (.iload_n 1, 1) := by decide +kernel
theorem dX7_bits_151 : decode cX7_bits 151 = .ok (.dup2, 1) := by decide +kernel
theorem dX7_bits_152 : decode cX7_bits 152 = .ok (.iaload, 1) := by decide +kernel
theorem dX7_bits_153 : decode cX7_bits 153 = .ok (.iconst 1, 1) := by decide +kernel
theorem dX7_bits_154 : decode cX7_bits 154 = .ok (.iadd, 1) := by decide +kernel
theorem dX7_bits_155 : decode cX7_bits 155 = .ok (.iastore, 1) := by decide +kernel
theorem dX7_bits_156 : decode cX7_bits 156 = .ok (.iconst 0, 1) := by decide +kernel
theorem dX7_bits_157 : decode cX7_bits 157 = .ok (.istore 8, 2) := by decide +kernel
theorem dX7_bits_159 : decode cX7_bits 159 = .ok (.iload 8, 2) := by decide +kernel
theorem dX7_bits_161 : decode cX7_bits 161 = .ok (.iload 4, 2) := by decide +kernel
theorem dX7_bits_163 : decode cX7_bits 163 = .ok (.if_icmp .ge 21, 3) := by decide +kernel
theorem dX7_bits_166 : decode cX7_bits 166 = .ok (.aload_n 0, 1) := by decide +kernel
theorem dX7_bits_167 : decode cX7_bits 167 = .ok (.iload_n 1, 1) := by decide +kernel
theorem dX7_bits_168 : decode cX7_bits 168 = .ok (.lload_n 2, 1) := by decide +kernel
theorem dX7_bits_169 : decode cX7_bits 169 = .ok (.iload 8, 2) := by decide +kernel
theorem dX7_bits_171 : decode cX7_bits 171 = .ok (.lshr, 1) := by decide +kernel
theorem dX7_bits_172 : decode cX7_bits 172 = .ok (.lconst 1, 1) := by decide +kernel
theorem dX7_bits_173 : decode cX7_bits 173 = .ok (.land, 1) := by decide +kernel
theorem dX7_bits_174 : decode cX7_bits 174 = .ok (.l2i, 1) := by decide +kernel
theorem dX7_bits_175 : decode cX7_bits 175 = .ok (.invokevirtual 110, 3) := by decide +kernel
theorem dX7_bits_178 : decode cX7_bits 178 = .ok (.iinc 8 1, 3) := by decide +kernel
theorem dX7_bits_181 : decode cX7_bits 181 = .ok (.goto (-22), 3) := by decide +kernel
theorem dX7_bits_184 : decode cX7_bits 184 = .ok (.aload_n 0, 1) := by decide +kernel
theorem dX7_bits_185 : decode cX7_bits 185 = .ok (.getfield 13, 3) := by decide +kernel
theorem dX7_bits_188 : decode cX7_bits 188 = .ok (.bipush 40, 2) := by decide +kernel
theorem dX7_bits_190 : decode cX7_bits 190 = .ok (.iload_n 1, 1) := by decide +kernel
theorem dX7_bits_191 : decode cX7_bits 191 = .ok (.imul, 1) := by decide +kernel
theorem dX7_bits_192 : decode cX7_bits 192 = .ok (.aload_n 0, 1) := by decide +kernel
theorem dX7_bits_193 : decode cX7_bits 193 = .ok (.getfield 7, 3) := by decide +kernel
theorem dX7_bits_196 : decode cX7_bits 196 = .ok (.iload_n 1, 1) := by decide +kernel
theorem dX7_bits_197 : decode cX7_bits 197 = .ok (.iaload, 1) := by decide +kernel
theorem dX7_bits_198 : decode cX7_bits 198 = .ok (.iadd, 1) := by decide +kernel
theorem dX7_bits_199 : decode cX7_bits 199 = .ok (.iconst 1, 1) := by decide +kernel
theorem dX7_bits_200 : decode cX7_bits 200 = .ok (.isub, 1) := by decide +kernel
theorem dX7_bits_201 : decode cX7_bits 201 = .ok (.iaload, 1) := by decide +kernel
theorem dX7_bits_202 : decode cX7_bits 202 = .ok (.ireturn, 1) := by decide +kernel
set_option maxRecDepth 20000 in
theorem ggX7_bit__X7_isFrame : GoodIn wsX7_bit_ wsX7_isFrame := goodIn_r _ [7, 8, 9, 10, 6, 11, 17, 18, 19, 20, 21, 22, 23, 24, 25, 26, 27, 28, 29, 30, 31, 32, 33, 34, 35, 36, 37, 38, 39, 40, 41, 42, 43] (by decide +kernel) (by decide +kernel)
set_option maxRecDepth 20000 in
theorem gX7_bit__X7_isFrame : GoodIn wsX7_bit_ (wsV RX7 140 RX7 yX7_isFrame wsX7_isFrame) := goodIn_app (goodIn_of _ (by decide +kernel)) ggX7_bit__X7_isFrame
set_option maxRecDepth 20000 in
theorem ggX7_bit__X7_refuses : GoodIn wsX7_bit_ wsX7_refuses := goodIn_r _ [15, 16, 17, 18, 19, 20, 21, 22, 23, 24, 25, 26, 27, 28, 29, 30, 31, 32, 33, 34, 35, 36, 37, 38, 39, 40, 41, 42, 43] (by decide +kernel) (by decide +kernel)
set_option maxRecDepth 20000 in
theorem gX7_bit__X7_refuses : GoodIn wsX7_bit_ (wsV RX7 101 RX7 yX7_refuses wsX7_refuses) := goodIn_app (goodIn_of _ (by decide +kernel)) ggX7_bit__X7_refuses
theorem dX7_bit__0 : decode cX7_bit_ 0 = .ok (.aload_n 0, 1) := by decide +kernel
theorem dX7_bit__1 : decode cX7_bit_ 1 = .ok (.aload_n 0, 1) := by decide +kernel
theorem dX7_bit__2 : decode cX7_bit_ 2 = .ok (.iload_n 1, 1) := by decide +kernel
theorem dX7_bit__3 : decode cX7_bit_ 3 = .ok (.iload_n 2, 1) := by decide +kernel
theorem dX7_bit__4 : decode cX7_bit_ 4 = .ok (.invokevirtual 140, 3) := by decide +kernel
theorem dX7_bit__7 : decode cX7_bit_ 7 = .ok (.ifCond .eq 7, 3) := by decide +kernel
theorem dX7_bit__10 : decode cX7_bit_ 10 = .ok (.iconst 0, 1) := by decide +kernel
theorem dX7_bit__11 : decode cX7_bit_ 11 = .ok (.goto 4, 3) := by decide +kernel
theorem dX7_bit__14 : decode cX7_bit_ 14 = .ok (.iconst 1, 1) := by decide +kernel
theorem dX7_bit__15 : decode cX7_bit_ 15 = .ok (.invokevirtual 101, 3) := by decide +kernel
theorem dX7_bit__18 : decode cX7_bit_ 18 = .ok (.ifCond .eq 5, 3) := by decide +kernel
theorem dX7_bit__21 : decode cX7_bit_ 21 = .ok (.iconst 0, 1) := by decide +kernel
theorem dX7_bit__22 : decode cX7_bit_ 22 = .ok (.ireturn, 1) := by decide +kernel
theorem dX7_bit__23 : decode cX7_bit_ 23 = .ok (.bipush 40, 2) := by decide +kernel
theorem dX7_bit__25 : decode cX7_bit_ 25 = .ok (.iload_n 1, 1) := by decide +kernel
theorem dX7_bit__26 : decode cX7_bit_ 26 = .ok (.imul, 1) := by decide +kernel
theorem dX7_bit__27 : decode cX7_bit_ 27 = .ok (.iload_n 2, 1) := by decide +kernel
theorem dX7_bit__28 : decode cX7_bit_ 28 = .ok (.iadd, 1) := by decide +kernel
theorem dX7_bit__29 : decode cX7_bit_ 29 = .ok (.istore 4, 2) := by decide +kernel
theorem dX7_bit__31 : decode cX7_bit_ 31 = .ok (.iload_n 3, 1) := by decide +kernel
theorem dX7_bit__32 : decode cX7_bit_ 32 = .ok (.ifCond .lt 30, 3) := by decide +kernel
theorem dX7_bit__35 : decode cX7_bit_ 35 = .ok (.iload_n 3, 1) := by decide +kernel
theorem dX7_bit__36 : decode cX7_bit_ 36 = .ok (.aload_n 0, 1) := by decide +kernel
theorem dX7_bit__37 : decode cX7_bit_ 37 = .ok (.getfield 13, 3) := by decide +kernel
theorem dX7_bit__40 : decode cX7_bit_ 40 = .ok (.iload 4, 2) := by decide +kernel
theorem dX7_bit__42 : decode cX7_bit_ 42 = .ok (.iaload, 1) := by decide +kernel
theorem dX7_bit__43 : decode cX7_bit_ 43 = .ok (.if_icmp .ge 19, 3) := by decide +kernel
theorem dX7_bit__46 : decode cX7_bit_ 46 = .ok (.aload_n 0, 1) := by decide +kernel
theorem dX7_bit__47 : decode cX7_bit_ 47 = .ok (.getfield 17, 3) := by decide +kernel
theorem dX7_bit__50 : decode cX7_bit_ 50 = .ok (.sipush 3000, 3) := by decide +kernel
theorem dX7_bit__53 : decode cX7_bit_ 53 = .ok (.iload 4, 2) := by decide +kernel
theorem dX7_bit__55 : decode cX7_bit_ 55 = .ok (.imul, 1) := by decide +kernel
theorem dX7_bit__56 : decode cX7_bit_ 56 = .ok (.iload_n 3, 1) := by decide +kernel
theorem dX7_bit__57 : decode cX7_bit_ 57 = .ok (.iadd, 1) := by decide +kernel
theorem dX7_bit__58 : decode cX7_bit_ 58 = .ok (.iaload, 1) := by decide +kernel
theorem dX7_bit__59 : decode cX7_bit_ 59 = .ok (.goto 4, 3) := by decide +kernel
theorem dX7_bit__62 : decode cX7_bit_ 62 = .ok (.iconst (-1), 1) := by decide +kernel
theorem dX7_bit__63 : decode cX7_bit_ 63 = .ok (.ireturn, 1) := by decide +kernel
set_option maxRecDepth 20000 in
theorem ggX7_taken_X7_isEnd : GoodIn wsX7_taken wsX7_isEnd := goodIn_r _ [7] (by decide +kernel) (by decide +kernel)
set_option maxRecDepth 20000 in
theorem gX7_taken_X7_isEnd : GoodIn wsX7_taken (va_wsS RX7 107 yX7_isEnd wsX7_isEnd) := goodIn_app (goodIn_of _ (by decide +kernel)) ggX7_taken_X7_isEnd
set_option maxRecDepth 20000 in
theorem ggX7_taken_X7_refuses : GoodIn wsX7_taken wsX7_refuses := goodIn_r _ [11, 12, 13, 14, 15, 16, 17, 18, 19, 20, 21, 22, 23, 24, 25, 26, 27, 28, 29, 30, 31, 32, 33, 34, 35, 36, 37, 38, 39] (by decide +kernel) (by decide +kernel)
set_option maxRecDepth 20000 in
theorem gX7_taken_X7_refuses : GoodIn wsX7_taken (wsV RX7 101 RX7 yX7_refuses wsX7_refuses) := goodIn_app (goodIn_of _ (by decide +kernel)) ggX7_taken_X7_refuses
theorem dX7_taken_0 : decode cX7_taken 0 = .ok (.aload_n 0, 1) := by decide +kernel
theorem dX7_taken_1 : decode cX7_taken 1 = .ok (.iload_n 1, 1) := by decide +kernel
theorem dX7_taken_2 : decode cX7_taken 2 = .ok (.invokestatic 107, 3) := by decide +kernel
theorem dX7_taken_5 : decode cX7_taken 5 = .ok (.ifCond .eq 30, 3) := by decide +kernel
theorem dX7_taken_8 : decode cX7_taken 8 = .ok (.iload_n 2, 1) := by decide +kernel
theorem dX7_taken_9 : decode cX7_taken 9 = .ok (.ifCond .lt 26, 3) := by decide +kernel
theorem dX7_taken_12 : decode cX7_taken 12 = .ok (.iload_n 2, 1) := by decide +kernel
theorem dX7_taken_13 : decode cX7_taken 13 = .ok (.aload_n 0, 1) := by decide +kernel
theorem dX7_taken_14 : decode cX7_taken 14 = .ok (.getfield 72, 3) := by decide +kernel
theorem dX7_taken_17 : decode cX7_taken 17 = .ok (.iload_n 1, 1) := by decide +kernel
theorem dX7_taken_18 : decode cX7_taken 18 = .ok (.iaload, 1) := by decide +kernel
theorem dX7_taken_19 : decode cX7_taken 19 = .ok (.if_icmp .ge 16, 3) := by decide +kernel
theorem dX7_taken_22 : decode cX7_taken 22 = .ok (.iload_n 2, 1) := by decide +kernel
theorem dX7_taken_23 : decode cX7_taken 23 = .ok (.aload_n 0, 1) := by decide +kernel
theorem dX7_taken_24 : decode cX7_taken 24 = .ok (.getfield 72, 3) := by decide +kernel
theorem dX7_taken_27 : decode cX7_taken 27 = .ok (.iload_n 1, 1) := by decide +kernel
theorem dX7_taken_28 : decode cX7_taken 28 = .ok (.iaload, 1) := by decide +kernel
theorem dX7_taken_29 : decode cX7_taken 29 = .ok (.bipush 50, 2) := by decide +kernel
theorem dX7_taken_31 : decode cX7_taken 31 = .ok (.isub, 1) := by decide +kernel
theorem dX7_taken_32 : decode cX7_taken 32 = .ok (.if_icmp .ge 7, 3) := by decide +kernel
theorem dX7_taken_35 : decode cX7_taken 35 = .ok (.iconst 1, 1) := by decide +kernel
theorem dX7_taken_36 : decode cX7_taken 36 = .ok (.goto 4, 3) := by decide +kernel
theorem dX7_taken_39 : decode cX7_taken 39 = .ok (.iconst 0, 1) := by decide +kernel
theorem dX7_taken_40 : decode cX7_taken 40 = .ok (.invokevirtual 101, 3) := by decide +kernel
theorem dX7_taken_43 : decode cX7_taken 43 = .ok (.ifCond .eq 5, 3) := by decide +kernel
theorem dX7_taken_46 : decode cX7_taken 46 = .ok (.iconst 0, 1) := by decide +kernel
theorem dX7_taken_47 : decode cX7_taken 47 = .ok (.ireturn, 1) := by decide +kernel
theorem dX7_taken_48 : decode cX7_taken 48 = .ok (.bipush 50, 2) := by decide +kernel
theorem dX7_taken_50 : decode cX7_taken 50 = .ok (.iload_n 1, 1) := by decide +kernel
theorem dX7_taken_51 : decode cX7_taken 51 = .ok (.imul, 1) := by decide +kernel
theorem dX7_taken_52 : decode cX7_taken 52 = .ok (.iload_n 2, 1) := by decide +kernel
theorem dX7_taken_53 : decode cX7_taken 53 = .ok (.bipush 50, 2) := by decide +kernel
theorem dX7_taken_55 : decode cX7_taken 55 = .ok (.irem, 1) := by decide +kernel
theorem dX7_taken_56 : decode cX7_taken 56 = .ok (.iadd, 1) := by decide +kernel
theorem dX7_taken_57 : decode cX7_taken 57 = .ok (.istore 4, 2) := by decide +kernel
theorem dX7_taken_59 : decode cX7_taken 59 = .ok (.iload_n 3, 1) := by decide +kernel
theorem dX7_taken_60 : decode cX7_taken 60 = .ok (.ifCond .lt 30, 3) := by decide +kernel
theorem dX7_taken_63 : decode cX7_taken 63 = .ok (.iload_n 3, 1) := by decide +kernel
theorem dX7_taken_64 : decode cX7_taken 64 = .ok (.aload_n 0, 1) := by decide +kernel
theorem dX7_taken_65 : decode cX7_taken 65 = .ok (.getfield 75, 3) := by decide +kernel
theorem dX7_taken_68 : decode cX7_taken 68 = .ok (.iload 4, 2) := by decide +kernel
theorem dX7_taken_70 : decode cX7_taken 70 = .ok (.iaload, 1) := by decide +kernel
theorem dX7_taken_71 : decode cX7_taken 71 = .ok (.if_icmp .ge 19, 3) := by decide +kernel
theorem dX7_taken_74 : decode cX7_taken 74 = .ok (.aload_n 0, 1) := by decide +kernel
theorem dX7_taken_75 : decode cX7_taken 75 = .ok (.getfield 78, 3) := by decide +kernel
theorem dX7_taken_78 : decode cX7_taken 78 = .ok (.sipush 272, 3) := by decide +kernel
theorem dX7_taken_81 : decode cX7_taken 81 = .ok (.iload 4, 2) := by decide +kernel
theorem dX7_taken_83 : decode cX7_taken 83 = .ok (.imul, 1) := by decide +kernel
theorem dX7_taken_84 : decode cX7_taken 84 = .ok (.iload_n 3, 1) := by decide +kernel
theorem dX7_taken_85 : decode cX7_taken 85 = .ok (.iadd, 1) := by decide +kernel
theorem dX7_taken_86 : decode cX7_taken 86 = .ok (.iaload, 1) := by decide +kernel
theorem dX7_taken_87 : decode cX7_taken 87 = .ok (.goto 4, 3) := by decide +kernel
theorem dX7_taken_90 : decode cX7_taken 90 = .ok (.iconst (-1), 1) := by decide +kernel
theorem dX7_taken_91 : decode cX7_taken 91 = .ok (.ireturn, 1) := by decide +kernel
set_option maxRecDepth 20000 in
theorem ggX7_about_X7_isEnd : GoodIn wsX7_about wsX7_isEnd := goodIn_r _ [16] (by decide +kernel) (by decide +kernel)
set_option maxRecDepth 20000 in
theorem gX7_about_X7_isEnd : GoodIn wsX7_about (va_wsS RX7 107 yX7_isEnd wsX7_isEnd) := goodIn_app (goodIn_of _ (by decide +kernel)) ggX7_about_X7_isEnd
set_option maxRecDepth 20000 in
theorem ggX7_about_X7_refuses : GoodIn wsX7_about wsX7_refuses := goodIn_r _ [20, 21, 22, 23, 24, 25, 26, 27, 28, 29, 30, 31, 32, 33, 34, 35, 36, 37, 38, 39, 40, 41, 42, 43, 44, 45, 46, 47, 48] (by decide +kernel) (by decide +kernel)
set_option maxRecDepth 20000 in
theorem gX7_about_X7_refuses : GoodIn wsX7_about (wsV RX7 101 RX7 yX7_refuses wsX7_refuses) := goodIn_app (goodIn_of _ (by decide +kernel)) ggX7_about_X7_refuses
theorem dX7_about_0 : decode cX7_about 0 = .ok (.aload_n 0, 1) := by decide +kernel
theorem dX7_about_1 : decode cX7_about 1 = .ok (.iload_n 1, 1) := by decide +kernel
theorem dX7_about_2 : decode cX7_about 2 = .ok (.invokestatic 107, 3) := by decide +kernel
theorem dX7_about_5 : decode cX7_about 5 = .ok (.ifCond .eq 13, 3) := by decide +kernel
theorem dX7_about_8 : decode cX7_about 8 = .ok (.iload_n 2, 1) := by decide +kernel
theorem dX7_about_9 : decode cX7_about 9 = .ok (.ifCond .lt 9, 3) := by decide +kernel
theorem dX7_about_12 : decode cX7_about 12 = .ok (.iload_n 2, 1) := by decide +kernel
theorem dX7_about_13 : decode cX7_about 13 = .ok (.bipush 11, 2) := by decide +kernel
theorem dX7_about_15 : decode cX7_about 15 = .ok (.if_icmp .le 7, 3) := by decide +kernel
theorem dX7_about_18 : decode cX7_about 18 = .ok (.iconst 1, 1) := by decide +kernel
theorem dX7_about_19 : decode cX7_about 19 = .ok (.goto 4, 3) := by decide +kernel
theorem dX7_about_22 : decode cX7_about 22 = .ok (.iconst 0, 1) := by decide +kernel
theorem dX7_about_23 : decode cX7_about 23 = .ok (.invokevirtual 101, 3) := by decide +kernel
theorem dX7_about_26 : decode cX7_about 26 = .ok (.ifCond .eq 5, 3) := by decide +kernel
theorem dX7_about_29 : decode cX7_about 29 = .ok (.iconst 0, 1) := by decide +kernel
theorem dX7_about_30 : decode cX7_about 30 = .ok (.ireturn, 1) := by decide +kernel
theorem dX7_about_31 : decode cX7_about 31 = .ok (.iload_n 2, 1) := by decide +kernel
theorem dX7_about_32 : decode cX7_about 32 = .ok (.tableswitch 144 0 10 #[60, 67, 74, 81, 88, 95, 102, 116, 123, 130, 137], 60) := by decide +kernel
theorem dX7_about_92 : decode cX7_about 92 = .ok (.aload_n 0, 1) := by decide +kernel
theorem dX7_about_93 : decode cX7_about 93 = .ok (.getfield 20, 3) := by decide +kernel
theorem dX7_about_96 : decode cX7_about 96 = .ok (.iload_n 1, 1) := by decide +kernel
theorem dX7_about_97 : decode cX7_about 97 = .ok (.iaload, 1) := by decide +kernel
theorem dX7_about_98 : decode cX7_about 98 = .ok (.ireturn, 1) := by decide +kernel
theorem dX7_about_99 : decode cX7_about 99 = .ok (.aload_n 0, 1) := by decide +kernel
theorem dX7_about_100 : decode cX7_about 100 = .ok (.getfield 23, 3) := by decide +kernel
theorem dX7_about_103 : decode cX7_about 103 = .ok (.iload_n 1, 1) := by decide +kernel
theorem dX7_about_104 : decode cX7_about 104 = .ok (.iaload, 1) := by decide +kernel
theorem dX7_about_105 : decode cX7_about 105 = .ok (.ireturn, 1) := by decide +kernel
theorem dX7_about_106 : decode cX7_about 106 = .ok (.aload_n 0, 1) := by decide +kernel
theorem dX7_about_107 : decode cX7_about 107 = .ok (.getfield 26, 3) := by decide +kernel
theorem dX7_about_110 : decode cX7_about 110 = .ok (.iload_n 1, 1) := by decide +kernel
theorem dX7_about_111 : decode cX7_about 111 = .ok (.iaload, 1) := by decide +kernel
theorem dX7_about_112 : decode cX7_about 112 = .ok (.ireturn, 1) := by decide +kernel
theorem dX7_about_113 : decode cX7_about 113 = .ok (.aload_n 0, 1) := by decide +kernel
theorem dX7_about_114 : decode cX7_about 114 = .ok (.getfield 29, 3) := by decide +kernel
theorem dX7_about_117 : decode cX7_about 117 = .ok (.iload_n 1, 1) := by decide +kernel
theorem dX7_about_118 : decode cX7_about 118 = .ok (.iaload, 1) := by decide +kernel
theorem dX7_about_119 : decode cX7_about 119 = .ok (.ireturn, 1) := by decide +kernel
theorem dX7_about_120 : decode cX7_about 120 = .ok (.aload_n 0, 1) := by decide +kernel
theorem dX7_about_121 : decode cX7_about 121 = .ok (.getfield 35, 3) := by decide +kernel
theorem dX7_about_124 : decode cX7_about 124 = .ok (.iload_n 1, 1) := by decide +kernel
theorem dX7_about_125 : decode cX7_about 125 = .ok (.iaload, 1) := by decide +kernel
theorem dX7_about_126 : decode cX7_about 126 = .ok (.ireturn, 1) := by decide +kernel
theorem dX7_about_127 : decode cX7_about 127 = .ok (.aload_n 0, 1) := by decide +kernel
theorem dX7_about_128 : decode cX7_about 128 = .ok (.getfield 44, 3) := by decide +kernel
theorem dX7_about_131 : decode cX7_about 131 = .ok (.iload_n 1, 1) := by decide +kernel
theorem dX7_about_132 : decode cX7_about 132 = .ok (.iaload, 1) := by decide +kernel
theorem dX7_about_133 : decode cX7_about 133 = .ok (.ireturn, 1) := by decide +kernel
theorem dX7_about_134 : decode cX7_about 134 = .ok (.aload_n 0, 1) := by decide +kernel
theorem dX7_about_135 : decode cX7_about 135 = .ok (.getfield 44, 3) := by decide +kernel
theorem dX7_about_138 : decode cX7_about 138 = .ok (.iload_n 1, 1) := by decide +kernel
theorem dX7_about_139 : decode cX7_about 139 = .ok (.iaload, 1) := by decide +kernel
theorem dX7_about_140 : decode cX7_about 140 = .ok (.aload_n 0, 1) := by decide +kernel
theorem dX7_about_141 : decode cX7_about 141 = .ok (.getfield 56, 3) := by decide +kernel
theorem dX7_about_144 : decode cX7_about 144 = .ok (.iload_n 1, 1) := by decide +kernel
theorem dX7_about_145 : decode cX7_about 145 = .ok (.iaload, 1) := by decide +kernel
theorem dX7_about_146 : decode cX7_about 146 = .ok (.isub, 1) := by decide +kernel
theorem dX7_about_147 : decode cX7_about 147 = .ok (.ireturn, 1) := by decide +kernel
theorem dX7_about_148 : decode cX7_about 148 = .ok (.aload_n 0, 1) := by decide +kernel
theorem dX7_about_149 : decode cX7_about 149 = .ok (.getfield 72, 3) := by decide +kernel
theorem dX7_about_152 : decode cX7_about 152 = .ok (.iload_n 1, 1) := by decide +kernel
theorem dX7_about_153 : decode cX7_about 153 = .ok (.iaload, 1) := by decide +kernel
theorem dX7_about_154 : decode cX7_about 154 = .ok (.ireturn, 1) := by decide +kernel
theorem dX7_about_155 : decode cX7_about 155 = .ok (.aload_n 0, 1) := by decide +kernel
theorem dX7_about_156 : decode cX7_about 156 = .ok (.getfield 7, 3) := by decide +kernel
theorem dX7_about_159 : decode cX7_about 159 = .ok (.iload_n 1, 1) := by decide +kernel
theorem dX7_about_160 : decode cX7_about 160 = .ok (.iaload, 1) := by decide +kernel
theorem dX7_about_161 : decode cX7_about 161 = .ok (.ireturn, 1) := by decide +kernel
theorem dX7_about_162 : decode cX7_about 162 = .ok (.aload_n 0, 1) := by decide +kernel
theorem dX7_about_163 : decode cX7_about 163 = .ok (.getfield 59, 3) := by decide +kernel
theorem dX7_about_166 : decode cX7_about 166 = .ok (.iload_n 1, 1) := by decide +kernel
theorem dX7_about_167 : decode cX7_about 167 = .ok (.iaload, 1) := by decide +kernel
theorem dX7_about_168 : decode cX7_about 168 = .ok (.ireturn, 1) := by decide +kernel
theorem dX7_about_169 : decode cX7_about 169 = .ok (.aload_n 0, 1) := by decide +kernel
theorem dX7_about_170 : decode cX7_about 170 = .ok (.getfield 62, 3) := by decide +kernel
theorem dX7_about_173 : decode cX7_about 173 = .ok (.iload_n 1, 1) := by decide +kernel
theorem dX7_about_174 : decode cX7_about 174 = .ok (.iaload, 1) := by decide +kernel
theorem dX7_about_175 : decode cX7_about 175 = .ok (.ireturn, 1) := by decide +kernel
theorem dX7_about_176 : decode cX7_about 176 = .ok (.aload_n 0, 1) := by decide +kernel
theorem dX7_about_177 : decode cX7_about 177 = .ok (.getfield 68, 3) := by decide +kernel
theorem dX7_about_180 : decode cX7_about 180 = .ok (.iload_n 1, 1) := by decide +kernel
theorem dX7_about_181 : decode cX7_about 181 = .ok (.baload, 1) := by decide +kernel
theorem dX7_about_182 : decode cX7_about 182 = .ok (.ifCond .eq 7, 3) := by decide +kernel
theorem dX7_about_185 : decode cX7_about 185 = .ok (.iconst 1, 1) := by decide +kernel
theorem dX7_about_186 : decode cX7_about 186 = .ok (.goto 4, 3) := by decide +kernel
theorem dX7_about_189 : decode cX7_about 189 = .ok (.iconst 0, 1) := by decide +kernel
theorem dX7_about_190 : decode cX7_about 190 = .ok (.ireturn, 1) := by decide +kernel
set_option maxRecDepth 20000 in
theorem ggX7_restart_X7_isEnd : GoodIn wsX7_restart wsX7_isEnd := goodIn_r _ [4] (by decide +kernel) (by decide +kernel)
set_option maxRecDepth 20000 in
theorem gX7_restart_X7_isEnd : GoodIn wsX7_restart (va_wsS RX7 107 yX7_isEnd wsX7_isEnd) := goodIn_app (goodIn_of _ (by decide +kernel)) ggX7_restart_X7_isEnd
