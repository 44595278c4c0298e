theorem dX7_init_41 : decode cX7_init 41 = .ok (.aload_n 0, 1) := by decide +kernel
theorem dX7_init_42 : decode cX7_init 42 = .ok (.iconst 2, 1) := by decide +kernel
theorem dX7_init_43 : decode cX7_init 43 = .ok (.newarray .int, 2) := by decide +kernel
theorem dX7_init_45 : decode cX7_init 45 = .ok (.putfield 26, 3) := by decide +kernel
theorem dX7_init_48 : decode cX7_init 48 = .ok (.aload_n 0, 1) := by decide +kernel
theorem dX7_init_49 : decode cX7_init 49 = .ok (.iconst 2, 1) := by decide +kernel
theorem dX7_init_50 : decode cX7_init 50 = .ok (.newarray .int, 2) := by decide +kernel
theorem dX7_init_52 : decode cX7_init 52 = .ok (.putfield 29, 3) := by decide +kernel
theorem dX7_init_55 : decode cX7_init 55 = .ok (.aload_n 0, 1) := by decide +kernel
theorem dX7_init_56 : decode cX7_init 56 = .ok (.iconst 2, 1) := by decide +kernel
theorem dX7_init_57 : decode cX7_init 57 = .ok (.newarray .int, 2) := by decide +kernel
theorem dX7_init_59 : decode cX7_init 59 = .ok (.putfield 32, 3) := by decide +kernel
theorem dX7_init_62 : decode cX7_init 62 = .ok (.aload_n 0, 1) := by decide +kernel
theorem dX7_init_63 : decode cX7_init 63 = .ok (.iconst 2, 1) := by decide +kernel
theorem dX7_init_64 : decode cX7_init 64 = .ok (.newarray .int, 2) := by decide +kernel
theorem dX7_init_66 : decode cX7_init 66 = .ok (.putfield 35, 3) := by decide +kernel
theorem dX7_init_69 : decode cX7_init 69 = .ok (.aload_n 0, 1) := by decide +kernel
theorem dX7_init_70 : decode cX7_init 70 = .ok (.bipush 120, 2) := by decide +kernel
theorem dX7_init_72 : decode cX7_init 72 = .ok (.newarray .int, 2) := by decide +kernel
theorem dX7_init_74 : decode cX7_init 74 = .ok (.putfield 38, 3) := by decide +kernel
theorem dX7_init_77 : decode cX7_init 77 = .ok (.aload_n 0, 1) := by decide +kernel
theorem dX7_init_78 : decode cX7_init 78 = .ok (.bipush 120, 2) := by decide +kernel
theorem dX7_init_80 : decode cX7_init 80 = .ok (.newarray .int, 2) := by decide +kernel
theorem dX7_init_82 : decode cX7_init 82 = .ok (.putfield 41, 3) := by decide +kernel
theorem dX7_init_85 : decode cX7_init 85 = .ok (.aload_n 0, 1) := by decide +kernel
theorem dX7_init_86 : decode cX7_init 86 = .ok (.iconst 2, 1) := by decide +kernel
theorem dX7_init_87 : decode cX7_init 87 = .ok (.newarray .int, 2) := by decide +kernel
theorem dX7_init_89 : decode cX7_init 89 = .ok (.putfield 44, 3) := by decide +kernel
theorem dX7_init_92 : decode cX7_init 92 = .ok (.aload_n 0, 1) := by decide +kernel
theorem dX7_init_93 : decode cX7_init 93 = .ok (.sipush 254, 3) := by decide +kernel
theorem dX7_init_96 : decode cX7_init 96 = .ok (.newarray .int, 2) := by decide +kernel
theorem dX7_init_98 : decode cX7_init 98 = .ok (.putfield 47, 3) := by decide +kernel
theorem dX7_init_101 : decode cX7_init 101 = .ok (.aload_n 0, 1) := by decide +kernel
theorem dX7_init_102 : decode cX7_init 102 = .ok (.sipush 254, 3) := by decide +kernel
theorem dX7_init_105 : decode cX7_init 105 = .ok (.newarray .int, 2) := by decide +kernel
theorem dX7_init_107 : decode cX7_init 107 = .ok (.putfield 50, 3) := by decide +kernel
theorem dX7_init_110 : decode cX7_init 110 = .ok (.aload_n 0, 1) := by decide +kernel
theorem dX7_init_111 : decode cX7_init 111 = .ok (.sipush 254, 3) := by decide +kernel
theorem dX7_init_114 : decode cX7_init 114 = .ok (.newarray .int, 2) := by decide +kernel
theorem dX7_init_116 : decode cX7_init 116 = .ok (.putfield 53, 3) := by decide +kernel
theorem dX7_init_119 : decode cX7_init 119 = .ok (.aload_n 0, 1) := by decide +kernel
theorem dX7_init_120 : decode cX7_init 120 = .ok (.iconst 2, 1) := by decide +kernel
theorem dX7_init_121 : decode cX7_init 121 = .ok (.newarray .int, 2) := by decide +kernel
theorem dX7_init_123 : decode cX7_init 123 = .ok (.putfield 56, 3) := by decide +kernel
theorem dX7_init_126 : decode cX7_init 126 = .ok (.aload_n 0, 1) := by decide +kernel
theorem dX7_init_127 : decode cX7_init 127 = .ok (.iconst 2, 1) := by decide +kernel
theorem dX7_init_128 : decode cX7_init 128 = .ok (.newarray .int, 2) := by decide +kernel
theorem dX7_init_130 : decode cX7_init 130 = .ok (.putfield 59, 3) := by decide +kernel
theorem dX7_init_133 : decode cX7_init 133 = .ok (.aload_n 0, 1) := by decide +kernel
theorem dX7_init_134 : decode cX7_init 134 = .ok (.iconst 2, 1) := by decide +kernel
theorem dX7_init_135 : decode cX7_init 135 = .ok (.newarray .int, 2) := by decide +kernel
theorem dX7_init_137 : decode cX7_init 137 = .ok (.putfield 62, 3) := by decide +kernel
theorem dX7_init_140 : decode cX7_init 140 = .ok (.aload_n 0, 1) := by decide +kernel
theorem dX7_init_141 : decode cX7_init 141 = .ok (.iconst 2, 1) := by decide +kernel
theorem dX7_init_142 : decode cX7_init 142 = .ok (.newarray .int, 2) := by decide +kernel
theorem dX7_init_144 : decode cX7_init 144 = .ok (.putfield 65, 3) := by decide +kernel
theorem dX7_init_147 : decode cX7_init 147 = .ok (.aload_n 0, 1) := by decide +kernel
theorem dX7_init_148 : decode cX7_init 148 = .ok (.iconst 2, 1) := by decide +kernel
theorem dX7_init_149 : decode cX7_init 149 = .ok (.newarray .boolean, 2) := by decide +kernel
theorem dX7_init_151 : decode cX7_init 151 = .ok (.putfield 68, 3) := by decide +kernel
theorem dX7_init_154 : decode cX7_init 154 = .ok (.aload_n 0, 1) := by decide +kernel
theorem dX7_init_155 : decode cX7_init 155 = .ok (.iconst 2, 1) := by decide +kernel
theorem dX7_init_156 : decode cX7_init 156 = .ok (.newarray .int, 2) := by decide +kernel
theorem dX7_init_158 : decode cX7_init 158 = .ok (.putfield 72, 3) := by decide +kernel
theorem dX7_init_161 : decode cX7_init 161 = .ok (.aload_n 0, 1) := by decide +kernel
theorem dX7_init_162 : decode cX7_init 162 = .ok (.bipush 100, 2) := by decide +kernel
theorem dX7_init_164 : decode cX7_init 164 = .ok (.newarray .int, 2) := by decide +kernel
theorem dX7_init_166 : decode cX7_init 166 = .ok (.putfield 75, 3) := by decide +kernel
theorem dX7_init_169 : decode cX7_init 169 = .ok (.aload_n 0, 1) := by decide +kernel
theorem dX7_init_170 : decode cX7_init 170 = .ok (.sipush 27200, 3) := by decide +kernel
theorem dX7_init_173 : decode cX7_init 173 = .ok (.newarray .int, 2) := by decide +kernel
theorem dX7_init_175 : decode cX7_init 175 = .ok (.putfield 78, 3) := by decide +kernel
theorem dX7_init_178 : decode cX7_init 178 = .ok (.aload_n 0, 1) := by decide +kernel
theorem dX7_init_179 : decode cX7_init 179 = .ok (.sipush 280, 3) := by decide +kernel
theorem dX7_init_182 : decode cX7_init 182 = .ok (.newarray .int, 2) := by decide +kernel
theorem dX7_init_184 : decode cX7_init 184 = .ok (.putfield 81, 3) := by decide +kernel
theorem dX7_init_187 : decode cX7_init 187 = .ok (.aload_n 0, 1) := by decide +kernel
theorem dX7_init_188 : decode cX7_init 188 = .ok (.sipush 3000, 3) := by decide +kernel
theorem dX7_init_191 : decode cX7_init 191 = .ok (.newarray .int, 2) := by decide +kernel
theorem dX7_init_193 : decode cX7_init 193 = .ok (.putfield 84, 3) := by decide +kernel
theorem dX7_init_196 : decode cX7_init 196 = .ok (.aload_n 0, 1) := by decide +kernel
theorem dX7_init_197 : decode cX7_init 197 = .ok (.iconst 0, 1) := by decide +kernel
theorem dX7_init_198 : decode cX7_init 198 = .ok (.invokevirtual 87, 3) := by decide +kernel
theorem dX7_init_201 : decode cX7_init 201 = .ok (.aload_n 0, 1) := by decide +kernel
theorem dX7_init_202 : decode cX7_init 202 = .ok (.iconst 1, 1) := by decide +kernel
theorem dX7_init_203 : decode cX7_init 203 = .ok (.invokevirtual 87, 3) := by decide +kernel
theorem dX7_init_206 : decode cX7_init 206 = .ok (.return_, 1) := by decide +kernel
theorem dX7_thrown_0 : decode cX7_thrown 0 = .ok (.aload_n 0, 1) := by decide +kernel
theorem dX7_thrown_1 : decode cX7_thrown 1 = .ok (.getfield 91, 3) := by decide +kernel
theorem dX7_thrown_4 : decode cX7_thrown 4 = .ok (.ireturn, 1) := by decide +kernel
theorem dX7_refuses_0 : decode cX7_refuses 0 = .ok (.aload_n 0, 1) := by decide +kernel
theorem dX7_refuses_1 : decode cX7_refuses 1 = .ok (.iload_n 1, 1) := by decide +kernel
theorem dX7_refuses_2 : decode cX7_refuses 2 = .ok (.putfield 91, 3) := by decide +kernel
theorem dX7_refuses_5 : decode cX7_refuses 5 = .ok (.iload_n 1, 1) := by decide +kernel
theorem dX7_refuses_6 : decode cX7_refuses 6 = .ok (.ifCond .le 7, 3) := by decide +kernel
theorem dX7_refuses_9 : decode cX7_refuses 9 = .ok (.iconst 1, 1) := by decide +kernel
theorem dX7_refuses_10 : decode cX7_refuses 10 = .ok (.goto 4, 3) := by decide +kernel
theorem dX7_refuses_13 : decode cX7_refuses 13 = .ok (.iconst 0, 1) := by decide +kernel
theorem dX7_refuses_14 : decode cX7_refuses 14 = .ok (.ireturn, 1) := by decide +kernel
theorem dX7_isEnd_0 : decode cX7_isEnd 0 = .ok (.iload_n 0, 1) := by decide +kernel
theorem dX7_isEnd_1 : decode cX7_isEnd 1 = .ok (.ifCond .eq 8, 3) := by decide +kernel
theorem dX7_isEnd_4 : decode cX7_isEnd 4 = .ok (.iload_n 0, 1) := by decide +kernel
theorem dX7_isEnd_5 : decode cX7_isEnd 5 = .ok (.iconst 1, 1) := by decide +kernel
theorem dX7_isEnd_6 : decode cX7_isEnd 6 = .ok (.if_icmp .ne 7, 3) := by decide +kernel
theorem dX7_isEnd_9 : decode cX7_isEnd 9 = .ok (.iconst 1, 1) := by decide +kernel
theorem dX7_isEnd_10 : decode cX7_isEnd 10 = .ok (.goto 4, 3) := by decide +kernel
theorem dX7_isEnd_13 : decode cX7_isEnd 13 = .ok (.iconst 0, 1) := by decide +kernel
theorem dX7_isEnd_14 : decode cX7_isEnd 14 = .ok (.ireturn, 1) := by decide +kernel
theorem dX7_begin_0 : decode cX7_begin 0 = .ok (.aload_n 0, 1) := by decide +kernel
theorem dX7_begin_1 : decode cX7_begin 1 = .ok (.getfield 7, 3) := by decide +kernel
theorem dX7_begin_4 : decode cX7_begin 4 = .ok (.iload_n 1, 1) := by decide +kernel
theorem dX7_begin_5 : decode cX7_begin 5 = .ok (.iconst 0, 1) := by decide +kernel
theorem dX7_begin_6 : decode cX7_begin 6 = .ok (.iastore, 1) := by decide +kernel
theorem dX7_begin_7 : decode cX7_begin 7 = .ok (.aload_n 0, 1) := by decide +kernel
theorem dX7_begin_8 : decode cX7_begin 8 = .ok (.getfield 20, 3) := by decide +kernel
theorem dX7_begin_11 : decode cX7_begin 11 = .ok (.iload_n 1, 1) := by decide +kernel
theorem dX7_begin_12 : decode cX7_begin 12 = .ok (.iconst 1, 1) := by decide +kernel
theorem dX7_begin_13 : decode cX7_begin 13 = .ok (.iastore, 1) := by decide +kernel
theorem dX7_begin_14 : decode cX7_begin 14 = .ok (.aload_n 0, 1) := by decide +kernel
theorem dX7_begin_15 : decode cX7_begin 15 = .ok (.getfield 23, 3) := by decide +kernel
theorem dX7_begin_18 : decode cX7_begin 18 = .ok (.iload_n 1, 1) := by decide +kernel
theorem dX7_begin_19 : decode cX7_begin 19 = .ok (.iconst 1, 1) := by decide +kernel
theorem dX7_begin_20 : decode cX7_begin 20 = .ok (.iastore, 1) := by decide +kernel
theorem dX7_begin_21 : decode cX7_begin 21 = .ok (.aload_n 0, 1) := by decide +kernel
theorem dX7_begin_22 : decode cX7_begin 22 = .ok (.getfield 26, 3) := by decide +kernel
theorem dX7_begin_25 : decode cX7_begin 25 = .ok (.iload_n 1, 1) := by decide +kernel
theorem dX7_begin_26 : decode cX7_begin 26 = .ok (.bipush 127, 2) := by decide +kernel
theorem dX7_begin_28 : decode cX7_begin 28 = .ok (.iastore, 1) := by decide +kernel
theorem dX7_begin_29 : decode cX7_begin 29 = .ok (.aload_n 0, 1) := by decide +kernel
theorem dX7_begin_30 : decode cX7_begin 30 = .ok (.getfield 29, 3) := by decide +kernel
theorem dX7_begin_33 : decode cX7_begin 33 = .ok (.iload_n 1, 1) := by decide +kernel
theorem dX7_begin_34 : decode cX7_begin 34 = .ok (.bipush 127, 2) := by decide +kernel
theorem dX7_begin_36 : decode cX7_begin 36 = .ok (.iastore, 1) := by decide +kernel
theorem dX7_begin_37 : decode cX7_begin 37 = .ok (.aload_n 0, 1) := by decide +kernel
theorem dX7_begin_38 : decode cX7_begin 38 = .ok (.getfield 32, 3) := by decide +kernel
theorem dX7_begin_41 : decode cX7_begin 41 = .ok (.iload_n 1, 1) := by decide +kernel
theorem dX7_begin_42 : decode cX7_begin 42 = .ok (.bipush 127, 2) := by decide +kernel
theorem dX7_begin_44 : decode cX7_begin 44 = .ok (.iastore, 1) := by decide +kernel
theorem dX7_begin_45 : decode cX7_begin 45 = .ok (.aload_n 0, 1) := by decide +kernel
theorem dX7_begin_46 : decode cX7_begin 46 = .ok (.getfield 35, 3) := by decide +kernel
theorem dX7_begin_49 : decode cX7_begin 49 = .ok (.iload_n 1, 1) := by decide +kernel
theorem dX7_begin_50 : decode cX7_begin 50 = .ok (.iconst 0, 1) := by decide +kernel
theorem dX7_begin_51 : decode cX7_begin 51 = .ok (.iastore, 1) := by decide +kernel
theorem dX7_begin_52 : decode cX7_begin 52 = .ok (.aload_n 0, 1) := by decide +kernel
theorem dX7_begin_53 : decode cX7_begin 53 = .ok (.getfield 44, 3) := by decide +kernel
theorem dX7_begin_56 : decode cX7_begin 56 = .ok (.iload_n 1, 1) := by decide +kernel
theorem dX7_begin_57 : decode cX7_begin 57 = .ok (.iconst 0, 1) := by decide +kernel
theorem dX7_begin_58 : decode cX7_begin 58 = .ok (.iastore, 1) := by decide +kernel
theorem dX7_begin_59 : decode cX7_begin 59 = .ok (.aload_n 0, 1) := by decide +kernel
theorem dX7_begin_60 : decode cX7_begin 60 = .ok (.getfield 56, 3) := by decide +kernel
theorem dX7_begin_63 : decode cX7_begin 63 = .ok (.iload_n 1, 1) := by decide +kernel
theorem dX7_begin_64 : decode cX7_begin 64 = .ok (.iconst 0, 1) := by decide +kernel
theorem dX7_begin_65 : decode cX7_begin 65 = .ok (.iastore, 1) := by decide +kernel
theorem dX7_begin_66 : decode cX7_begin 66 = .ok (.aload_n 0, 1) := by decide +kernel
theorem dX7_begin_67 : decode cX7_begin 67 = .ok (.getfield 59, 3) := by decide +kernel
theorem dX7_begin_70 : decode cX7_begin 70 = .ok (.iload_n 1, 1) := by decide +kernel
theorem dX7_begin_71 : decode cX7_begin 71 = .ok (.iconst 0, 1) := by decide +kernel
theorem dX7_begin_72 : decode cX7_begin 72 = .ok (.iastore, 1) := by decide +kernel
theorem dX7_begin_73 : decode cX7_begin 73 = .ok (.aload_n 0, 1) := by decide +kernel
theorem dX7_begin_74 : decode cX7_begin 74 = .ok (.getfield 62, 3) := by decide +kernel
theorem dX7_begin_77 : decode cX7_begin 77 = .ok (.iload_n 1, 1) := by decide +kernel
theorem dX7_begin_78 : decode cX7_begin 78 = .ok (.iconst 0, 1) := by decide +kernel
theorem dX7_begin_79 : decode cX7_begin 79 = .ok (.iastore, 1) := by decide +kernel
theorem dX7_begin_80 : decode cX7_begin 80 = .ok (.aload_n 0, 1) := by decide +kernel
theorem dX7_begin_81 : decode cX7_begin 81 = .ok (.getfield 65, 3) := by decide +kernel
theorem dX7_begin_84 : decode cX7_begin 84 = .ok (.iload_n 1, 1) := by decide +kernel
theorem dX7_begin_85 : decode cX7_begin 85 = .ok (.iconst 0, 1) := by decide +kernel
theorem dX7_begin_86 : decode cX7_begin 86 = .ok (.iastore, 1) := by decide +kernel
theorem dX7_begin_87 : decode cX7_begin 87 = .ok (.aload_n 0, 1) := by decide +kernel
theorem dX7_begin_88 : decode cX7_begin 88 = .ok (.getfield 68, 3) := by decide +kernel
theorem dX7_begin_91 : decode cX7_begin 91 = .ok (.iload_n 1, 1) := by decide +kernel
theorem dX7_begin_92 : decode cX7_begin 92 = .ok (.iconst 0, 1) := by decide +kernel
theorem dX7_begin_93 : decode cX7_begin 93 = .ok (.bastore, 1) := by decide +kernel
theorem dX7_begin_94 : decode cX7_begin 94 = .ok (.return_, 1) := by decide +kernel
theorem dX7_checked_0 : decode cX7_checked 0 = .ok (.iload_n 0, 1) := by decide +kernel
theorem dX7_checked_1 : decode cX7_checked 1 = .ok (.istore_n 2, 1) := by decide +kernel
theorem dX7_checked_2 : decode cX7_checked 2 = .ok (.iconst 0, 1) := by decide +kernel
theorem dX7_checked_3 : decode cX7_checked 3 = .ok (.istore_n 3, 1) := by decide +kernel
theorem dX7_checked_4 : decode cX7_checked 4 = .ok (.iload_n 3, 1) := by decide +kernel
theorem dX7_checked_5 : decode cX7_checked 5 = .ok (.bipush 8, 2) := by decide +kernel
theorem dX7_checked_7 : decode cX7_checked 7 = .ok (.if_icmp .ge 33, 3) := by decide +kernel
theorem dX7_checked_10 : decode cX7_checked 10 = .ok (.iload_n 2, 1) := by decide +kernel
theorem dX7_checked_11 : decode cX7_checked 11 = .ok (.iconst 1, 1) := by decide +kernel
theorem dX7_checked_12 : decode cX7_checked 12 = .ok (.iand, 1) := by decide +kernel
theorem dX7_checked_13 : decode cX7_checked 13 = .ok (.iload_n 1, 1) := by decide +kernel
theorem dX7_checked_14 : decode cX7_checked 14 = .ok (.iload_n 3, 1) := by decide +kernel
theorem dX7_checked_15 : decode cX7_checked 15 = .ok (.ishr, 1) := by decide +kernel
theorem dX7_checked_16 : decode cX7_checked 16 = .ok (.iconst 1, 1) := by decide +kernel
theorem dX7_checked_17 : decode cX7_checked 17 = .ok (.iand, 1) := by decide +kernel
theorem dX7_checked_18 : decode cX7_checked 18 = .ok (.if_icmp .eq 12, 3) := by decide +kernel
theorem dX7_checked_21 : decode cX7_checked 21 = .ok (.iload_n 2, 1) := by decide +kernel
theorem dX7_checked_22 : decode cX7_checked 22 = .ok (.iconst 1, 1) := by decide +kernel
theorem dX7_checked_23 : decode cX7_checked 23 = .ok (.ishr, 1) := by decide +kernel
theorem dX7_checked_24 : decode cX7_checked 24 = .ok (.ldc 95, 2) := by decide +kernel
theorem dX7_checked_26 : decode cX7_checked 26 = .ok (.ixor, 1) := by decide +kernel
theorem dX7_checked_27 : decode cX7_checked 27 = .ok (.goto 6, 3) := by decide +kernel
theorem dX7_checked_30 : decode cX7_checked 30 = .ok (.iload_n 2, 1) := by decide +kernel
theorem dX7_checked_31 : decode cX7_checked 31 = .ok (.iconst 1, 1) := by decide +kernel
theorem dX7_checked_32 : decode cX7_checked 32 = .ok (.ishr, 1) := by decide +kernel
theorem dX7_checked_33 : decode cX7_checked 33 = .ok (.istore_n 2, 1) := by decide +kernel
theorem dX7_checked_34 : decode cX7_checked 34 = .ok (.iinc 3 1, 3) := by decide +kernel
theorem dX7_checked_37 : decode cX7_checked 37 = .ok (.goto (-33), 3) := by decide +kernel
theorem dX7_checked_40 : decode cX7_checked 40 = .ok (.iload_n 2, 1) := by decide +kernel
theorem dX7_checked_41 : decode cX7_checked 41 = .ok (.ireturn, 1) := by decide +kernel
set_option maxRecDepth 20000 in
theorem ggX7_unitCheck_X7_checked : GoodIn wsX7_unitCheck wsX7_checked := goodIn_r _ [6, 7] (by decide +kernel) (by decide +kernel)
set_option maxRecDepth 20000 in
theorem gX7_unitCheck_X7_checked : GoodIn wsX7_unitCheck (va_wsS RX7 97 yX7_checked wsX7_checked) := goodIn_app (goodIn_of _ (by decide +kernel)) ggX7_unitCheck_X7_checked
theorem dX7_unitCheck_0 : decode cX7_unitCheck 0 = .ok (.ldc 96, 2) := by decide +kernel
theorem dX7_unitCheck_2 : decode cX7_unitCheck 2 = .ok (.istore_n 2, 1) := by decide +kernel
theorem dX7_unitCheck_3 : decode cX7_unitCheck 3 = .ok (.iconst 0, 1) := by decide +kernel
theorem dX7_unitCheck_4 : decode cX7_unitCheck 4 = .ok (.istore_n 3, 1) := by decide +kernel
theorem dX7_unitCheck_5 : decode cX7_unitCheck 5 = .ok (.iload_n 3, 1) := by decide +kernel
theorem dX7_unitCheck_6 : decode cX7_unitCheck 6 = .ok (.iload_n 1, 1) := by decide +kernel
theorem dX7_unitCheck_7 : decode cX7_unitCheck 7 = .ok (.if_icmp .ge 20, 3) := by decide +kernel
theorem dX7_unitCheck_10 : decode cX7_unitCheck 10 = .ok (.iload_n 2, 1) := by decide +kernel
theorem dX7_unitCheck_11 : decode cX7_unitCheck 11 = .ok (.aload_n 0, 1) := by decide +kernel
theorem dX7_unitCheck_12 : decode cX7_unitCheck 12 = .ok (.getfield 81, 3) := by decide +kernel
theorem dX7_unitCheck_15 : decode cX7_unitCheck 15 = .ok (.iload_n 3, 1) := by decide +kernel
theorem dX7_unitCheck_16 : decode cX7_unitCheck 16 = .ok (.iaload, 1) := by decide +kernel
theorem dX7_unitCheck_17 : decode cX7_unitCheck 17 = .ok (.invokestatic 97, 3) := by decide +kernel
theorem dX7_unitCheck_20 : decode cX7_unitCheck 20 = .ok (.istore_n 2, 1) := by decide +kernel
theorem dX7_unitCheck_21 : decode cX7_unitCheck 21 = .ok (.iinc 3 1, 3) := by decide +kernel
theorem dX7_unitCheck_24 : decode cX7_unitCheck 24 = .ok (.goto (-19), 3) := by decide +kernel
theorem dX7_unitCheck_27 : decode cX7_unitCheck 27 = .ok (.ldc 96, 2) := by decide +kernel
theorem dX7_unitCheck_29 : decode cX7_unitCheck 29 = .ok (.iload_n 2, 1) := by decide +kernel
theorem dX7_unitCheck_30 : decode cX7_unitCheck 30 = .ok (.isub, 1) := by decide +kernel
theorem dX7_unitCheck_31 : decode cX7_unitCheck 31 = .ok (.ireturn, 1) := by decide +kernel
set_option maxRecDepth 20000 in
theorem ggX7_check_X7_refuses : GoodIn wsX7_check wsX7_refuses := goodIn_r _ [7, 8, 13, 14, 15, 16, 17, 18, 19, 20, 21, 22, 23, 24, 25, 26, 27, 28, 29, 30, 31, 32, 33, 34, 35, 36, 37, 38, 39] (by decide +kernel) (by decide +kernel)
set_option maxRecDepth 20000 in
theorem gX7_check_X7_refuses : GoodIn wsX7_check (wsV RX7 101 RX7 yX7_refuses wsX7_refuses) := goodIn_app (goodIn_of _ (by decide +kernel)) ggX7_check_X7_refuses
set_option maxRecDepth 20000 in
theorem ggX7_check_X7_checked : GoodIn wsX7_check wsX7_checked := goodIn_r _ [11, 12] (by decide +kernel) (by decide +kernel)
set_option maxRecDepth 20000 in
theorem gX7_check_X7_checked : GoodIn wsX7_check (va_wsS RX7 97 yX7_checked wsX7_checked) := goodIn_app (goodIn_of _ (by decide +kernel)) ggX7_check_X7_checked
theorem dX7_check_0 : decode cX7_check 0 = .ok (.aload_n 0, 1) := by decide +kernel
theorem dX7_check_1 : decode cX7_check 1 = .ok (.iload_n 3, 1) := by decide +kernel
theorem dX7_check_2 : decode cX7_check 2 = .ok (.ifCond .lt 9, 3) := by decide +kernel
theorem dX7_check_5 : decode cX7_check 5 = .ok (.iload_n 3, 1) := by decide +kernel
theorem dX7_check_6 : decode cX7_check 6 = .ok (.bipush 8, 2) := by decide +kernel
theorem dX7_check_8 : decode cX7_check 8 = .ok (.if_icmp .le 7, 3) := by decide +kernel
theorem dX7_check_11 : decode cX7_check 11 = .ok (.iconst 1, 1) := by decide +kernel
theorem dX7_check_12 : decode cX7_check 12 = .ok (.goto 4, 3) := by decide +kernel
theorem dX7_check_15 : decode cX7_check 15 = .ok (.iconst 0, 1) := by decide +kernel
theorem dX7_check_16 : decode cX7_check 16 = .ok (.invokevirtual 101, 3) := by decide +kernel
theorem dX7_check_19 : decode cX7_check 19 = .ok (.ifCond .eq 5, 3) := by decide +kernel
theorem dX7_check_22 : decode cX7_check 22 = .ok (.iconst 0, 1) := by decide +kernel
theorem dX7_check_23 : decode cX7_check 23 = .ok (.ireturn, 1) := by decide +kernel
theorem dX7_check_24 : decode cX7_check 24 = .ok (.ldc 96, 2) := by decide +kernel
theorem dX7_check_26 : decode cX7_check 26 = .ok (.istore 4, 2) := by decide +kernel
theorem dX7_check_28 : decode cX7_check 28 = .ok (.iconst 0, 1) := by decide +kernel
theorem dX7_check_29 : decode cX7_check 29 = .ok (.istore 5, 2) := by decide +kernel
theorem dX7_check_31 : decode cX7_check 31 = .ok (.iload 5, 2) := by decide +kernel
theorem dX7_check_33 : decode cX7_check 33 = .ok (.iload_n 3, 1) := by decide +kernel
theorem dX7_check_34 : decode cX7_check 34 = .ok (.if_icmp .ge 28, 3) := by decide +kernel
theorem dX7_check_37 : decode cX7_check 37 = .ok (.iload 4, 2) := by decide +kernel
theorem dX7_check_39 : decode cX7_check 39 = .ok (.lload_n 1, 1) := by decide +kernel
theorem dX7_check_40 : decode cX7_check 40 = .ok (.bipush 8, 2) := by decide +kernel
theorem dX7_check_42 : decode cX7_check 42 = .ok (.iload 5, 2) := by decide +kernel
theorem dX7_check_44 : decode cX7_check 44 = .ok (.imul, 1) := by decide +kernel
theorem dX7_check_45 : decode cX7_check 45 = .ok (.lshr, 1) := by decide +kernel
theorem dX7_check_46 : decode cX7_check 46 = .ok (.ldc2_w 105, 3) := by decide +kernel
theorem dX7_check_49 : decode cX7_check 49 = .ok (.land, 1) := by decide +kernel
theorem dX7_check_50 : decode cX7_check 50 = .ok (.l2i, 1) := by decide +kernel
theorem dX7_check_51 : decode cX7_check 51 = .ok (.invokestatic 97, 3) := by decide +kernel
theorem dX7_check_54 : decode cX7_check 54 = .ok (.istore 4, 2) := by decide +kernel
theorem dX7_check_56 : decode cX7_check 56 = .ok (.iinc 5 1, 3) := by decide +kernel
theorem dX7_check_59 : decode cX7_check 59 = .ok (.goto (-28), 3) := by decide +kernel
theorem dX7_check_62 : decode cX7_check 62 = .ok (.ldc 96, 2) := by decide +kernel
theorem dX7_check_64 : decode cX7_check 64 = .ok (.iload 4, 2) := by decide +kernel
theorem dX7_check_66 : decode cX7_check 66 = .ok (.isub, 1) := by decide +kernel
theorem dX7_check_67 : decode cX7_check 67 = .ok (.ireturn, 1) := by decide +kernel
set_option maxRecDepth 20000 in
theorem ggX7_put_X7_isEnd : GoodIn wsX7_put wsX7_isEnd := goodIn_r _ [8] (by decide +kernel) (by decide +kernel)
set_option maxRecDepth 20000 in
theorem gX7_put_X7_isEnd : GoodIn wsX7_put (va_wsS RX7 107 yX7_isEnd wsX7_isEnd) := goodIn_app (goodIn_of _ (by decide +kernel)) ggX7_put_X7_isEnd
set_option maxRecDepth 20000 in
theorem ggX7_put_X7_refuses : GoodIn wsX7_put wsX7_refuses := goodIn_r _ [12, 13, 14, 15, 16, 17, 18, 19, 20, 21, 22, 23, 24, 25, 26, 27, 28, 29, 30, 31, 32, 33, 34, 35, 36, 37, 38, 39, 40] (by decide +kernel) (by decide +kernel)
set_option maxRecDepth 20000 in
theorem gX7_put_X7_refuses : GoodIn wsX7_put (wsV RX7 101 RX7 yX7_refuses wsX7_refuses) := goodIn_app (goodIn_of _ (by decide +kernel)) ggX7_put_X7_refuses
theorem dX7_put_0 : decode cX7_put 0 = .ok (.iload_n 1, 1) := by decide +kernel
theorem dX7_put_1 : decode cX7_put 1 = .ok (.invokestatic 107, 3) := by decide +kernel
theorem dX7_put_4 : decode cX7_put 4 = .ok (.ifCond .eq 30, 3) := by decide +kernel
theorem dX7_put_7 : decode cX7_put 7 = .ok (.iload_n 2, 1) := by decide +kernel
theorem dX7_put_8 : decode cX7_put 8 = .ok (.iconst 1, 1) := by decide +kernel
theorem dX7_put_9 : decode cX7_put 9 = .ok (.if_icmp .lt 25, 3) := by decide +kernel
theorem dX7_put_12 : decode cX7_put 12 = .ok (.iload_n 2, 1) := by decide +kernel
theorem dX7_put_13 : decode cX7_put 13 = .ok (.sipush 272, 3) := by decide +kernel
theorem dX7_put_16 : decode cX7_put 16 = .ok (.if_icmp .gt 18, 3) := by decide +kernel
theorem dX7_put_19 : decode cX7_put 19 = .ok (.iload_n 3, 1) := by decide +kernel
theorem dX7_put_20 : decode cX7_put 20 = .ok (.ifCond .lt 14, 3) := by decide +kernel
theorem dX7_put_23 : decode cX7_put 23 = .ok (.iload_n 3, 1) := by decide +kernel
theorem dX7_put_24 : decode cX7_put 24 = .ok (.sipush 255, 3) := by decide +kernel
theorem dX7_put_27 : decode cX7_put 27 = .ok (.if_icmp .gt 7, 3) := by decide +kernel
theorem dX7_put_30 : decode cX7_put 30 = .ok (.iconst 1, 1) := by decide +kernel
theorem dX7_put_31 : decode cX7_put 31 = .ok (.goto 4, 3) := by decide +kernel
theorem dX7_put_34 : decode cX7_put 34 = .ok (.iconst 0, 1) := by decide +kernel
theorem dX7_put_35 : decode cX7_put 35 = .ok (.istore 4, 2) := by decide +kernel
theorem dX7_put_37 : decode cX7_put 37 = .ok (.aload_n 0, 1) := by decide +kernel
theorem dX7_put_38 : decode cX7_put 38 = .ok (.iload 4, 2) := by decide +kernel
theorem dX7_put_40 : decode cX7_put 40 = .ok (.ifCond .ne 7, 3) := by decide +kernel
theorem dX7_put_43 : decode cX7_put 43 = .ok (.iconst 1, 1) := by decide +kernel
theorem dX7_put_44 : decode cX7_put 44 = .ok (.goto 28, 3) := by decide +kernel
theorem dX7_put_47 : decode cX7_put 47 = .ok (.aload_n 0, 1) := by decide +kernel
theorem dX7_put_48 : decode cX7_put 48 = .ok (.getfield 35, 3) := by decide +kernel
theorem dX7_put_51 : decode cX7_put 51 = .ok (.iload_n 1, 1) := by decide +kernel
theorem dX7_put_52 : decode cX7_put 52 = .ok (.iaload, 1) := by decide +kernel
theorem dX7_put_53 : decode cX7_put 53 = .ok (.bipush 60, 2) := by decide +kernel
theorem dX7_put_55 : decode cX7_put 55 = .ok (.if_icmp .eq 12, 3) := by decide +kernel
theorem dX7_put_58 : decode cX7_put 58 = .ok (.aload_n 0, 1) := by decide +kernel
theorem dX7_put_59 : decode cX7_put 59 = .ok (.getfield 68, 3) := by decide +kernel
theorem dX7_put_62 : decode cX7_put 62 = .ok (.iload_n 1, 1) := by decide +kernel
theorem dX7_put_63 : decode cX7_put 63 = .ok (.baload, 1) := by decide +kernel
theorem dX7_put_64 : decode cX7_put 64 = .ok (.ifCond .eq 7, 3) := by decide +kernel
theorem dX7_put_67 : decode cX7_put 67 = .ok (.iconst 2, 1) := by decide +kernel
theorem dX7_put_68 : decode cX7_put 68 = .ok (.goto 4, 3) := by decide +kernel
theorem dX7_put_71 : decode cX7_put 71 = .ok (.iconst 0, 1) := by decide +kernel
theorem dX7_put_72 : decode cX7_put 72 = .ok (.invokevirtual 101, 3) := by decide +kernel
theorem dX7_put_75 : decode cX7_put 75 = .ok (.ifCond .eq 5, 3) := by decide +kernel
theorem dX7_put_78 : decode cX7_put 78 = .ok (.iconst 0, 1) := by decide +kernel
theorem dX7_put_79 : decode cX7_put 79 = .ok (.ireturn, 1) := by decide +kernel
theorem dX7_put_80 : decode cX7_put 80 = .ok (.aload_n 0, 1) := by decide +kernel
theorem dX7_put_81 : decode cX7_put 81 = .ok (.getfield 38, 3) := by decide +kernel
theorem dX7_put_84 : decode cX7_put 84 = .ok (.bipush 60, 2) := by decide +kernel
theorem dX7_put_86 : decode cX7_put 86 = .ok (.iload_n 1, 1) := by decide +kernel
theorem dX7_put_87 : decode cX7_put 87 = .ok (.imul, 1) := by decide +kernel
theorem dX7_put_88 : decode cX7_put 88 = .ok (.aload_n 0, 1) := by decide +kernel
theorem dX7_put_89 : decode cX7_put 89 = .ok (.getfield 35, 3) := by decide +kernel
theorem dX7_put_92 : decode cX7_put 92 = .ok (.iload_n 1, 1) := by decide +kernel
theorem dX7_put_93 : decode cX7_put 93 = .ok (.iaload, 1) := by decide +kernel
theorem dX7_put_94 : decode cX7_put 94 = .ok (.iadd, 1) := by decide +kernel
theorem dX7_put_95 : decode cX7_put 95 = .ok (.iload_n 2, 1) := by decide +kernel
theorem dX7_put_96 : decode cX7_put 96 = .ok (.iastore, 1) := by decide +kernel
theorem dX7_put_97 : decode cX7_put 97 = .ok (.aload_n 0, 1) := by decide +kernel
theorem dX7_put_98 : decode cX7_put 98 = .ok (.getfield 41, 3) := by decide +kernel
theorem dX7_put_101 : decode cX7_put 101 = .ok (.bipush 60, 2) := by decide +kernel
theorem dX7_put_103 : decode cX7_put 103 = .ok (.iload_n 1, 1) := by decide +kernel
theorem dX7_put_104 : decode cX7_put 104 = .ok (.imul, 1) := by decide +kernel
theorem dX7_put_105 : decode cX7_put 105 = .ok (.aload_n 0, 1) := by decide +kernel
theorem dX7_put_106 : decode cX7_put 106 = .ok (.getfield 35, 3) := by decide +kernel
theorem dX7_put_109 : decode cX7_put 109 = .ok (.iload_n 1, 1) := by decide +kernel
theorem dX7_put_110 : decode cX7_put 110 = .ok (.iaload, 1) := by decide +kernel
theorem dX7_put_111 : decode cX7_put 111 = .ok (.iadd, 1) := by decide +kernel
theorem dX7_put_112 : decode cX7_put 112 = .ok (.iload_n 3, 1) := by decide +kernel
theorem dX7_put_113 : decode cX7_put 113 = .ok (.iastore, 1) := by decide +kernel
theorem dX7_put_114 : decode cX7_put 114 = .ok (.aload_n 0, 1) := by decide +kernel
theorem dX7_put_115 : decode cX7_put 115 = .ok (.getfield 35, 3) := by decide +kernel
theorem dX7_put_118 : decode cX7_put 118 = .ok (.iload_n 1, 1) := by decide +kernel
theorem dX7_put_119 : decode cX7_put 119 = .ok (.dup2, 1) := by decide +kernel
theorem dX7_put_120 : decode cX7_put 120 = .ok (.iaload, 1) := by decide +kernel
theorem dX7_put_121 : decode cX7_put 121 = .ok (.iconst 1, 1) := by decide +kernel
theorem dX7_put_122 : decode cX7_put 122 = .ok (.iadd, 1) := by decide +kernel
theorem dX7_put_123 : decode cX7_put 123 = .ok (.iastore, 1) := by decide +kernel
theorem dX7_put_124 : decode cX7_put 124 = .ok (.aload_n 0, 1) := by decide +kernel
theorem dX7_put_125 : decode cX7_put 125 = .ok (.getfield 35, 3) := by decide +kernel
theorem dX7_put_128 : decode cX7_put 128 = .ok (.iload_n 1, 1) := by decide +kernel
theorem dX7_put_129 : decode cX7_put 129 = .ok (.iaload, 1) := by decide +kernel
theorem dX7_put_130 : decode cX7_put 130 = .ok (.ireturn, 1) := by decide +kernel
theorem dX7_bit_0 : decode cX7_bit 0 = .ok (.bipush 40, 2) := by decide +kernel
theorem dX7_bit_2 : decode cX7_bit 2 = .ok (.iload_n 1, 1) := by decide +kernel
theorem dX7_bit_3 : decode cX7_bit 3 = .ok (.imul, 1) := by decide +kernel
theorem dX7_bit_4 : decode cX7_bit 4 = .ok (.aload_n 0, 1) := by decide +kernel
theorem dX7_bit_5 : decode cX7_bit 5 = .ok (.getfield 7, 3) := by decide +kernel
theorem dX7_bit_8 : decode cX7_bit 8 = .ok (.iload_n 1, 1) := by decide +kernel
theorem dX7_bit_9 : decode cX7_bit 9 = .ok (.iaload, 1) := by decide +kernel
theorem dX7_bit_10 : decode cX7_bit 10 = .ok (.iadd, 1) := by decide +kernel
theorem dX7_bit_11 : decode cX7_bit 11 = .ok (.iconst 1, 1) := by decide +kernel
theorem dX7_bit_12 : decode cX7_bit 12 = .ok (.isub, 1) := by decide +kernel
theorem dX7_bit_13 : decode cX7_bit 13 = .ok (.istore_n 3, 1) := by decide +kernel
theorem dX7_bit_14 : decode cX7_bit 14 = .ok (.aload_n 0, 1) := by decide +kernel
theorem dX7_bit_15 : decode cX7_bit 15 = .ok (.getfield 17, 3) := by decide +kernel
theorem dX7_bit_18 : decode cX7_bit 18 = .ok (.sipush 3000, 3) := by decide +kernel
theorem dX7_bit_21 : decode cX7_bit 21 = .ok (.iload_n 3, 1) := by decide +kernel
theorem dX7_bit_22 : decode cX7_bit 22 = .ok (.imul, 1) := by decide +kernel
theorem dX7_bit_23 : decode cX7_bit 23 = .ok (.aload_n 0, 1) := by decide +kernel
theorem dX7_bit_24 : decode cX7_bit 24 = .ok (.getfield 13, 3) := by decide +kernel
theorem dX7_bit_27 : decode cX7_bit 27 = .ok (.iload_n 3, 1) := by decide +kernel
theorem dX7_bit_28 : decode cX7_bit 28 = .ok (.iaload, 1) := by decide +kernel
theorem dX7_bit_29 : decode cX7_bit 29 = .ok (.iadd, 1) := by decide +kernel
theorem dX7_bit_30 : decode cX7_bit 30 = .ok (.iload_n 2, 1) := by decide +kernel
theorem dX7_bit_31 : decode cX7_bit 31 = .ok (.iastore, 1) := by decide +kernel
theorem dX7_bit_32 : decode cX7_bit 32 = .ok (.aload_n 0, 1) := by decide +kernel
theorem dX7_bit_33 : decode cX7_bit 33 = .ok (.getfield 13, 3) := by decide +kernel
theorem dX7_bit_36 : decode cX7_bit 36 = .ok (.iload_n 3, 1) := by decide +kernel
theorem dX7_bit_37 : decode cX7_bit 37 = .ok (.dup2, 1) := by decide +kernel
theorem dX7_bit_38 : decode cX7_bit 38 = .ok (.iaload, 1) := by decide +kernel
theorem dX7_bit_39 : decode cX7_bit 39 = .ok (.iconst 1, 1) := by decide +kernel
theorem dX7_bit_40 : decode cX7_bit 40 = .ok (.iadd, 1) := by decide +kernel
theorem dX7_bit_41 : decode cX7_bit 41 = .ok (.iastore, 1) := by decide +kernel
theorem dX7_bit_42 : decode cX7_bit 42 = .ok (.return_, 1) := by decide +kernel
set_option maxRecDepth 20000 in
theorem ggX7_flag_X7_bit : GoodIn wsX7_flag wsX7_bit := goodIn_r _ [5, 6, 7, 8, 9, 10, 11, 12, 13, 14, 15, 16, 17, 18, 19, 20, 21, 22, 23, 24, 25, 26, 27, 28, 29, 30, 31, 32, 33, 34, 35] (by decide +kernel) (by decide +kernel)
set_option maxRecDepth 20000 in
theorem gX7_flag_X7_bit : GoodIn wsX7_flag (wsV RX7 110 RX7 yX7_bit wsX7_bit) := goodIn_app (goodIn_of _ (by decide +kernel)) ggX7_flag_X7_bit
theorem dX7_flag_0 : decode cX7_flag 0 = .ok (.iconst 0, 1) := by decide +kernel
theorem dX7_flag_1 : decode cX7_flag 1 = .ok (.istore_n 2, 1) := by decide +kernel
theorem dX7_flag_2 : decode cX7_flag 2 = .ok (.iload_n 2, 1) := by decide +kernel
theorem dX7_flag_3 : decode cX7_flag 3 = .ok (.bipush 8, 2) := by decide +kernel
theorem dX7_flag_5 : decode cX7_flag 5 = .ok (.if_icmp .ge 29, 3) := by decide +kernel
theorem dX7_flag_8 : decode cX7_flag 8 = .ok (.aload_n 0, 1) := by decide +kernel
theorem dX7_flag_9 : decode cX7_flag 9 = .ok (.iload_n 1, 1) := by decide +kernel
theorem dX7_flag_10 : decode cX7_flag 10 = .ok (.iload_n 2, 1) := by decide +kernel
theorem dX7_flag_11 : decode cX7_flag 11 = .ok (.ifCond .eq 9, 3) := by decide +kernel
theorem dX7_flag_14 : decode cX7_flag 14 = .ok (.iload_n 2, 1) := by decide +kernel
theorem dX7_flag_15 : decode cX7_flag 15 = .ok (.bipush 7, 2) := by decide +kernel
theorem dX7_flag_17 : decode cX7_flag 17 = .ok (.if_icmp .ne 7, 3) := by decide +kernel
theorem dX7_flag_20 : decode cX7_flag 20 = .ok (.iconst 0, 1) := by decide +kernel
theorem dX7_flag_21 : decode cX7_flag 21 = .ok (.goto 4, 3) := by decide +kernel
theorem dX7_flag_24 : decode cX7_flag 24 = .ok (.iconst 1, 1) := by decide +kernel
theorem dX7_flag_25 : decode cX7_flag 25 = .ok (.invokevirtual 110, 3) := by decide +kernel
theorem dX7_flag_28 : decode cX7_flag 28 = .ok (.iinc 2 1, 3) := by decide +kernel
theorem dX7_flag_31 : decode cX7_flag 31 = .ok (.goto (-29), 3) := by decide +kernel
theorem dX7_flag_34 : decode cX7_flag 34 = .ok (.return_, 1) := by decide +kernel
set_option maxRecDepth 20000 in
theorem ggX7_frame_X7_unitCheck : GoodIn wsX7_frame wsX7_unitCheck := goodIn_r _ [11, 12, 1, 13, 14, 10, 15, 16, 26, 27, 28, 29, 30, 31, 32, 33, 34, 35, 36, 37, 38, 39, 40, 41, 42, 43, 44, 45, 46, 47, 48, 49, 50, 51, 52] (by decide +kernel) (by decide +kernel)
set_option maxRecDepth 20000 in
theorem gX7_frame_X7_unitCheck : GoodIn wsX7_frame (wsV RX7 114 RX7 yX7_unitCheck wsX7_unitCheck) := goodIn_app (goodIn_of _ (by decide +kernel)) ggX7_frame_X7_unitCheck
set_option maxRecDepth 20000 in
theorem ggX7_frame_X7_flag : GoodIn wsX7_frame wsX7_flag := goodIn_r _ [20, 21, 22, 23, 10, 24, 6, 25, 5, 26, 27, 28, 29, 30, 31, 32, 33, 34, 35, 36, 37, 38, 39, 40, 41, 42, 43, 44, 45, 46, 47, 48, 49, 50, 51, 52] (by decide +kernel) (by decide +kernel)
set_option maxRecDepth 20000 in
theorem gX7_frame_X7_flag : GoodIn wsX7_frame (wsV RX7 118 RX7 yX7_flag wsX7_flag) := goodIn_app (goodIn_of _ (by decide +kernel)) ggX7_frame_X7_flag
set_option maxRecDepth 20000 in
theorem ggX7_frame_X7_bit : GoodIn wsX7_frame wsX7_bit := goodIn_r _ [24, 6, 25, 5, 26, 27, 28, 29, 30, 31, 32, 33, 34, 35, 36, 37, 38, 39, 40, 41, 42, 43, 44, 45, 46, 47, 48, 49, 50, 51, 52] (by decide +kernel) (by decide +kernel)
set_option maxRecDepth 20000 in
theorem gX7_frame_X7_bit : GoodIn wsX7_frame (wsV RX7 110 RX7 yX7_bit wsX7_bit) := goodIn_app (goodIn_of _ (by decide +kernel)) ggX7_frame_X7_bit
theorem dX7_frame_0 : decode cX7_frame 0 = .ok (.aload_n 0, 1) := by decide +kernel
theorem dX7_frame_1 : decode cX7_frame 1 = .ok (.getfield 81, 3) := by decide +kernel
theorem dX7_frame_4 : decode cX7_frame 4 = .ok (.iconst 0, 1) := by decide +kernel
theorem dX7_frame_5 : decode cX7_frame 5 = .ok (.aload_n 0, 1) := by decide +kernel
theorem dX7_frame_6 : decode cX7_frame 6 = .ok (.getfield 29, 3) := by decide +kernel
theorem dX7_frame_9 : decode cX7_frame 9 = .ok (.iload_n 1, 1) := by decide +kernel
theorem dX7_frame_10 : decode cX7_frame 10 = .ok (.iaload, 1) := by decide +kernel
theorem dX7_frame_11 : decode cX7_frame 11 = .ok (.sipush 128, 3) := by decide +kernel
theorem dX7_frame_14 : decode cX7_frame 14 = .ok (.aload_n 0, 1) := by decide +kernel
theorem dX7_frame_15 : decode cX7_frame 15 = .ok (.getfield 23, 3) := by decide +kernel
theorem dX7_frame_18 : decode cX7_frame 18 = .ok (.iload_n 1, 1) := by decide +kernel
theorem dX7_frame_19 : decode cX7_frame 19 = .ok (.iaload, 1) := by decide +kernel
theorem dX7_frame_20 : decode cX7_frame 20 = .ok (.imul, 1) := by decide +kernel
theorem dX7_frame_21 : decode cX7_frame 21 = .ok (.iadd, 1) := by decide +kernel
theorem dX7_frame_22 : decode cX7_frame 22 = .ok (.iastore, 1) := by decide +kernel
theorem dX7_frame_23 : decode cX7_frame 23 = .ok (.aload_n 0, 1) := by decide +kernel
theorem dX7_frame_24 : decode cX7_frame 24 = .ok (.getfield 81, 3) := by decide +kernel
theorem dX7_frame_27 : decode cX7_frame 27 = .ok (.iconst 1, 1) := by decide +kernel
theorem dX7_frame_28 : decode cX7_frame 28 = .ok (.iload_n 2, 1) := by decide +kernel
theorem dX7_frame_29 : decode cX7_frame 29 = .ok (.sipush 128, 3) := by decide +kernel
theorem dX7_frame_32 : decode cX7_frame 32 = .ok (.aload_n 0, 1) := by decide +kernel
theorem dX7_frame_33 : decode cX7_frame 33 = .ok (.getfield 20, 3) := by decide +kernel
theorem dX7_frame_36 : decode cX7_frame 36 = .ok (.iload_n 1, 1) := by decide +kernel
theorem dX7_frame_37 : decode cX7_frame 37 = .ok (.iaload, 1) := by decide +kernel
theorem dX7_frame_38 : decode cX7_frame 38 = .ok (.imul, 1) := by decide +kernel
theorem dX7_frame_39 : decode cX7_frame 39 = .ok (.iadd, 1) := by decide +kernel
theorem dX7_frame_40 : decode cX7_frame 40 = .ok (.iastore, 1) := by decide +kernel
theorem dX7_frame_41 : decode cX7_frame 41 = .ok (.aload_n 0, 1) := by decide +kernel
theorem dX7_frame_42 : decode cX7_frame 42 = .ok (.getfield 81, 3) := by decide +kernel
theorem dX7_frame_45 : decode cX7_frame 45 = .ok (.iconst 2, 1) := by decide +kernel
theorem dX7_frame_46 : decode cX7_frame 46 = .ok (.iload_n 3, 1) := by decide +kernel
theorem dX7_frame_47 : decode cX7_frame 47 = .ok (.bipush 63, 2) := by decide +kernel
theorem dX7_frame_49 : decode cX7_frame 49 = .ok (.if_icmp .le 8, 3) := by decide +kernel
theorem dX7_frame_52 : decode cX7_frame 52 = .ok (.bipush 63, 2) := by decide +kernel
theorem dX7_frame_54 : decode cX7_frame 54 = .ok (.goto 4, 3) := by decide +kernel
theorem dX7_frame_57 : decode cX7_frame 57 = .ok (.iload_n 3, 1) := by decide +kernel
theorem dX7_frame_58 : decode cX7_frame 58 = .ok (.iastore, 1) := by decide +kernel
theorem dX7_frame_59 : decode cX7_frame 59 = .ok (.iconst 0, 1) := by decide +kernel
theorem dX7_frame_60 : decode cX7_frame 60 = .ok (.istore 5, 2) := by decide +kernel
theorem dX7_frame_62 : decode cX7_frame 62 = .ok (.iload 5, 2) := by decide +kernel
theorem dX7_frame_64 : decode cX7_frame 64 = .ok (.iload_n 3, 1) := by decide +kernel
theorem dX7_frame_65 : decode cX7_frame 65 = .ok (.if_icmp .ge 36, 3) := by decide +kernel
theorem dX7_frame_68 : decode cX7_frame 68 = .ok (.aload_n 0, 1) := by decide +kernel
theorem dX7_frame_69 : decode cX7_frame 69 = .ok (.getfield 81, 3) := by decide +kernel
theorem dX7_frame_72 : decode cX7_frame 72 = .ok (.iconst 3, 1) := by decide +kernel
theorem dX7_frame_73 : decode cX7_frame 73 = .ok (.iload 5, 2) := by decide +kernel
theorem dX7_frame_75 : decode cX7_frame 75 = .ok (.iadd, 1) := by decide +kernel
theorem dX7_frame_76 : decode cX7_frame 76 = .ok (.iload 4, 2) := by decide +kernel
theorem dX7_frame_78 : decode cX7_frame 78 = .ok (.bipush 37, 2) := by decide +kernel
theorem dX7_frame_80 : decode cX7_frame 80 = .ok (.iload 5, 2) := by decide +kernel
theorem dX7_frame_82 : decode cX7_frame 82 = .ok (.imul, 1) := by decide +kernel
theorem dX7_frame_83 : decode cX7_frame 83 = .ok (.iadd, 1) := by decide +kernel
theorem dX7_frame_84 : decode cX7_frame 84 = .ok (.iload 5, 2) := by decide +kernel
theorem dX7_frame_86 : decode cX7_frame 86 = .ok (.bipush 8, 2) := by decide +kernel
theorem dX7_frame_88 : decode cX7_frame 88 = .ok (.idiv, 1) := by decide +kernel
theorem dX7_frame_89 : decode cX7_frame 89 = .ok (.iadd, 1) := by decide +kernel
theorem dX7_frame_90 : decode cX7_frame 90 = .ok (.sipush 255, 3) := by decide +kernel
theorem dX7_frame_93 : decode cX7_frame 93 = .ok (.iand, 1) := by decide +kernel
theorem dX7_frame_94 : decode cX7_frame 94 = .ok (.iastore, 1) := by decide +kernel
theorem dX7_frame_95 : decode cX7_frame 95 = .ok (.iinc 5 1, 3) := by decide +kernel
theorem dX7_frame_98 : decode cX7_frame 98 = .ok (.goto (-36), 3) := by decide +kernel
theorem dX7_frame_101 : decode cX7_frame 101 = .ok (.aload_n 0, 1) := by decide +kernel
theorem dX7_frame_102 : decode cX7_frame 102 = .ok (.iconst 3, 1) := by decide +kernel
theorem dX7_frame_103 : decode cX7_frame 103 = .ok (.iload_n 3, 1) := by decide +kernel
theorem dX7_frame_104 : decode cX7_frame 104 = .ok (.iadd, 1) := by decide +kernel
theorem dX7_frame_105 : decode cX7_frame 105 = .ok (.invokevirtual 114, 3) := by decide +kernel
theorem dX7_frame_108 : decode cX7_frame 108 = .ok (.istore 5, 2) := by decide +kernel
theorem dX7_frame_110 : decode cX7_frame 110 = .ok (.aload_n 0, 1) := by decide +kernel
theorem dX7_frame_111 : decode cX7_frame 111 = .ok (.getfield 81, 3) := by decide +kernel
theorem dX7_frame_114 : decode cX7_frame 114 = .ok (.iconst 3, 1) := by decide +kernel
theorem dX7_frame_115 : decode cX7_frame 115 = .ok (.iload_n 3, 1) := by decide +kernel
theorem dX7_frame_116 : decode cX7_frame 116 = .ok (.iadd, 1) := by decide +kernel
theorem dX7_frame_117 : decode cX7_frame 117 = .ok (.iload 5, 2) := by decide +kernel
theorem dX7_frame_119 : decode cX7_frame 119 = .ok (.sipush 255, 3) := by decide +kernel
