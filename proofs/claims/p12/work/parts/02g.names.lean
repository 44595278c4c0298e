theorem dX7_frame_122 : decode cX7_frame 122 = .ok (.iand, 1) := by decide +kernel
theorem dX7_frame_123 : decode cX7_frame 123 = .ok (.iastore, 1) := by decide +kernel
theorem dX7_frame_124 : decode cX7_frame 124 = .ok (.aload_n 0, 1) := by decide +kernel
theorem dX7_frame_125 : decode cX7_frame 125 = .ok (.getfield 81, 3) := by decide +kernel
theorem dX7_frame_128 : decode cX7_frame 128 = .ok (.iconst 4, 1) := by decide +kernel
theorem dX7_frame_129 : decode cX7_frame 129 = .ok (.iload_n 3, 1) := by decide +kernel
theorem dX7_frame_130 : decode cX7_frame 130 = .ok (.iadd, 1) := by decide +kernel
theorem dX7_frame_131 : decode cX7_frame 131 = .ok (.iload 5, 2) := by decide +kernel
theorem dX7_frame_133 : decode cX7_frame 133 = .ok (.bipush 8, 2) := by decide +kernel
theorem dX7_frame_135 : decode cX7_frame 135 = .ok (.ishr, 1) := by decide +kernel
theorem dX7_frame_136 : decode cX7_frame 136 = .ok (.iastore, 1) := by decide +kernel
theorem dX7_frame_137 : decode cX7_frame 137 = .ok (.aload_n 0, 1) := by decide +kernel
theorem dX7_frame_138 : decode cX7_frame 138 = .ok (.getfield 13, 3) := by decide +kernel
theorem dX7_frame_141 : decode cX7_frame 141 = .ok (.bipush 40, 2) := by decide +kernel
theorem dX7_frame_143 : decode cX7_frame 143 = .ok (.iload_n 1, 1) := by decide +kernel
theorem dX7_frame_144 : decode cX7_frame 144 = .ok (.imul, 1) := by decide +kernel
theorem dX7_frame_145 : decode cX7_frame 145 = .ok (.aload_n 0, 1) := by decide +kernel
theorem dX7_frame_146 : decode cX7_frame 146 = .ok (.getfield 7, 3) := by decide +kernel
theorem dX7_frame_149 : decode cX7_frame 149 = .ok (.iload_n 1, 1) := by decide +kernel
theorem dX7_frame_150 : decode cX7_frame 150 = .ok (.iaload, 1) := by decide +kernel
theorem dX7_frame_151 : decode cX7_frame 151 = .ok (.iadd, 1) := by decide +kernel
theorem dX7_frame_152 : decode cX7_frame 152 = .ok (.iconst 0, 1) := by decide +kernel
theorem dX7_frame_153 : decode cX7_frame 153 = .ok (.iastore, 1) := by decide +kernel
theorem dX7_frame_154 : decode cX7_frame 154 = .ok (.aload_n 0, 1) := by decide +kernel
theorem dX7_frame_155 : decode cX7_frame 155 = .ok (.getfield 7, 3) := by decide +kernel
theorem dX7_frame_158 : decode cX7_frame 158 = .ok (.iload_n 1, 1) := by decide +kernel
theorem dX7_frame_159 : decode cX7_frame 159 = .ok (.dup2, 1) := by decide +kernel
theorem dX7_frame_160 : decode cX7_frame 160 = .ok (.iaload, 1) := by decide +kernel
theorem dX7_frame_161 : decode cX7_frame 161 = .ok (.iconst 1, 1) := by decide +kernel
theorem dX7_frame_162 : decode cX7_frame 162 = .ok (.iadd, 1) := by decide +kernel
theorem dX7_frame_163 : decode cX7_frame 163 = .ok (.iastore, 1) := by decide +kernel
theorem dX7_frame_164 : decode cX7_frame 164 = .ok (.aload_n 0, 1) := by decide +kernel
theorem dX7_frame_165 : decode cX7_frame 165 = .ok (.iload_n 1, 1) := by decide +kernel
theorem dX7_frame_166 : decode cX7_frame 166 = .ok (.invokevirtual 118, 3) := by decide +kernel
theorem dX7_frame_169 : decode cX7_frame 169 = .ok (.iconst 0, 1) := by decide +kernel
theorem dX7_frame_170 : decode cX7_frame 170 = .ok (.istore 6, 2) := by decide +kernel
theorem dX7_frame_172 : decode cX7_frame 172 = .ok (.iconst 0, 1) := by decide +kernel
theorem dX7_frame_173 : decode cX7_frame 173 = .ok (.istore 7, 2) := by decide +kernel
theorem dX7_frame_175 : decode cX7_frame 175 = .ok (.iload 7, 2) := by decide +kernel
theorem dX7_frame_177 : decode cX7_frame 177 = .ok (.bipush 8, 2) := by decide +kernel
theorem dX7_frame_179 : decode cX7_frame 179 = .ok (.iconst 5, 1) := by decide +kernel
theorem dX7_frame_180 : decode cX7_frame 180 = .ok (.iload_n 3, 1) := by decide +kernel
theorem dX7_frame_181 : decode cX7_frame 181 = .ok (.iadd, 1) := by decide +kernel
theorem dX7_frame_182 : decode cX7_frame 182 = .ok (.imul, 1) := by decide +kernel
theorem dX7_frame_183 : decode cX7_frame 183 = .ok (.if_icmp .ge 67, 3) := by decide +kernel
theorem dX7_frame_186 : decode cX7_frame 186 = .ok (.aload_n 0, 1) := by decide +kernel
theorem dX7_frame_187 : decode cX7_frame 187 = .ok (.getfield 81, 3) := by decide +kernel
theorem dX7_frame_190 : decode cX7_frame 190 = .ok (.iload 7, 2) := by decide +kernel
theorem dX7_frame_192 : decode cX7_frame 192 = .ok (.bipush 8, 2) := by decide +kernel
theorem dX7_frame_194 : decode cX7_frame 194 = .ok (.idiv, 1) := by decide +kernel
theorem dX7_frame_195 : decode cX7_frame 195 = .ok (.iaload, 1) := by decide +kernel
theorem dX7_frame_196 : decode cX7_frame 196 = .ok (.iload 7, 2) := by decide +kernel
theorem dX7_frame_198 : decode cX7_frame 198 = .ok (.bipush 8, 2) := by decide +kernel
theorem dX7_frame_200 : decode cX7_frame 200 = .ok (.irem, 1) := by decide +kernel
theorem dX7_frame_201 : decode cX7_frame 201 = .ok (.ishr, 1) := by decide +kernel
theorem dX7_frame_202 : decode cX7_frame 202 = .ok (.iconst 1, 1) := by decide +kernel
theorem dX7_frame_203 : decode cX7_frame 203 = .ok (.iand, 1) := by decide +kernel
theorem dX7_frame_204 : decode cX7_frame 204 = .ok (.istore 8, 2) := by decide +kernel
theorem dX7_frame_206 : decode cX7_frame 206 = .ok (.aload_n 0, 1) := by decide +kernel
theorem dX7_frame_207 : decode cX7_frame 207 = .ok (.iload_n 1, 1) := by decide +kernel
theorem dX7_frame_208 : decode cX7_frame 208 = .ok (.iload 8, 2) := by decide +kernel
theorem dX7_frame_210 : decode cX7_frame 210 = .ok (.invokevirtual 110, 3) := by decide +kernel
theorem dX7_frame_213 : decode cX7_frame 213 = .ok (.iload 8, 2) := by decide +kernel
theorem dX7_frame_215 : decode cX7_frame 215 = .ok (.iconst 1, 1) := by decide +kernel
theorem dX7_frame_216 : decode cX7_frame 216 = .ok (.if_icmp .ne 10, 3) := by decide +kernel
theorem dX7_frame_219 : decode cX7_frame 219 = .ok (.iload 6, 2) := by decide +kernel
theorem dX7_frame_221 : decode cX7_frame 221 = .ok (.iconst 1, 1) := by decide +kernel
theorem dX7_frame_222 : decode cX7_frame 222 = .ok (.iadd, 1) := by decide +kernel
theorem dX7_frame_223 : decode cX7_frame 223 = .ok (.goto 4, 3) := by decide +kernel
theorem dX7_frame_226 : decode cX7_frame 226 = .ok (.iconst 0, 1) := by decide +kernel
theorem dX7_frame_227 : decode cX7_frame 227 = .ok (.istore 6, 2) := by decide +kernel
theorem dX7_frame_229 : decode cX7_frame 229 = .ok (.iload 6, 2) := by decide +kernel
theorem dX7_frame_231 : decode cX7_frame 231 = .ok (.iconst 5, 1) := by decide +kernel
theorem dX7_frame_232 : decode cX7_frame 232 = .ok (.if_icmp .ne 12, 3) := by decide +kernel
theorem dX7_frame_235 : decode cX7_frame 235 = .ok (.aload_n 0, 1) := by decide +kernel
theorem dX7_frame_236 : decode cX7_frame 236 = .ok (.iload_n 1, 1) := by decide +kernel
theorem dX7_frame_237 : decode cX7_frame 237 = .ok (.iconst 0, 1) := by decide +kernel
theorem dX7_frame_238 : decode cX7_frame 238 = .ok (.invokevirtual 110, 3) := by decide +kernel
theorem dX7_frame_241 : decode cX7_frame 241 = .ok (.iconst 0, 1) := by decide +kernel
theorem dX7_frame_242 : decode cX7_frame 242 = .ok (.istore 6, 2) := by decide +kernel
theorem dX7_frame_244 : decode cX7_frame 244 = .ok (.iinc 7 1, 3) := by decide +kernel
theorem dX7_frame_247 : decode cX7_frame 247 = .ok (.goto (-72), 3) := by decide +kernel
theorem dX7_frame_250 : decode cX7_frame 250 = .ok (.aload_n 0, 1) := by decide +kernel
theorem dX7_frame_251 : decode cX7_frame 251 = .ok (.iload_n 1, 1) := by decide +kernel
theorem dX7_frame_252 : decode cX7_frame 252 = .ok (.invokevirtual 118, 3) := by decide +kernel
theorem dX7_frame_255 : decode cX7_frame 255 = .ok (.return_, 1) := by decide +kernel
set_option maxRecDepth 20000 in
theorem ggX7_send_X7_isEnd : GoodIn wsX7_send wsX7_isEnd := goodIn_r _ [15] (by decide +kernel) (by decide +kernel)
set_option maxRecDepth 20000 in
theorem gX7_send_X7_isEnd : GoodIn wsX7_send (va_wsS RX7 107 yX7_isEnd wsX7_isEnd) := goodIn_app (goodIn_of _ (by decide +kernel)) ggX7_send_X7_isEnd
set_option maxRecDepth 20000 in
theorem ggX7_send_X7_refuses : GoodIn wsX7_send wsX7_refuses := goodIn_r _ [19, 20, 48, 49, 50, 51, 52, 53, 54, 55, 56, 57, 58, 59, 60, 61, 62, 63, 64, 65, 66, 67, 68, 69, 70, 71, 72, 73, 74] (by decide +kernel) (by decide +kernel)
set_option maxRecDepth 20000 in
theorem gX7_send_X7_refuses : GoodIn wsX7_send (wsV RX7 101 RX7 yX7_refuses wsX7_refuses) := goodIn_app (goodIn_of _ (by decide +kernel)) ggX7_send_X7_refuses
set_option maxRecDepth 20000 in
theorem ggX7_send_X7_frame : GoodIn wsX7_send wsX7_frame := goodIn_r _ [24, 25, 26, 27, 28, 29, 1, 30, 31, 32, 14, 33, 34, 35, 36, 37, 38, 39, 40, 41, 42, 43, 44, 45, 46, 47, 48, 49, 50, 51, 52, 53, 54, 55, 56, 57, 58, 59, 60, 61, 62, 63, 64, 65, 66, 67, 68, 69, 70, 71, 72, 73, 74] (by decide +kernel) (by decide +kernel)
set_option maxRecDepth 20000 in
theorem gX7_send_X7_frame : GoodIn wsX7_send (wsV RX7 121 RX7 yX7_frame wsX7_frame) := goodIn_app (goodIn_of _ (by decide +kernel)) ggX7_send_X7_frame
theorem dX7_send_0 : decode cX7_send 0 = .ok (.aload_n 0, 1) := by decide +kernel
theorem dX7_send_1 : decode cX7_send 1 = .ok (.iload_n 1, 1) := by decide +kernel
theorem dX7_send_2 : decode cX7_send 2 = .ok (.invokestatic 107, 3) := by decide +kernel
theorem dX7_send_5 : decode cX7_send 5 = .ok (.ifCond .ne 7, 3) := by decide +kernel
theorem dX7_send_8 : decode cX7_send 8 = .ok (.iconst 1, 1) := by decide +kernel
theorem dX7_send_9 : decode cX7_send 9 = .ok (.goto 28, 3) := by decide +kernel
theorem dX7_send_12 : decode cX7_send 12 = .ok (.aload_n 0, 1) := by decide +kernel
theorem dX7_send_13 : decode cX7_send 13 = .ok (.getfield 7, 3) := by decide +kernel
theorem dX7_send_16 : decode cX7_send 16 = .ok (.iload_n 1, 1) := by decide +kernel
theorem dX7_send_17 : decode cX7_send 17 = .ok (.iaload, 1) := by decide +kernel
theorem dX7_send_18 : decode cX7_send 18 = .ok (.bipush 40, 2) := by decide +kernel
theorem dX7_send_20 : decode cX7_send 20 = .ok (.if_icmp .eq 12, 3) := by decide +kernel
theorem dX7_send_23 : decode cX7_send 23 = .ok (.aload_n 0, 1) := by decide +kernel
theorem dX7_send_24 : decode cX7_send 24 = .ok (.getfield 68, 3) := by decide +kernel
theorem dX7_send_27 : decode cX7_send 27 = .ok (.iload_n 1, 1) := by decide +kernel
theorem dX7_send_28 : decode cX7_send 28 = .ok (.baload, 1) := by decide +kernel
theorem dX7_send_29 : decode cX7_send 29 = .ok (.ifCond .eq 7, 3) := by decide +kernel
theorem dX7_send_32 : decode cX7_send 32 = .ok (.iconst 2, 1) := by decide +kernel
theorem dX7_send_33 : decode cX7_send 33 = .ok (.goto 4, 3) := by decide +kernel
theorem dX7_send_36 : decode cX7_send 36 = .ok (.iconst 0, 1) := by decide +kernel
theorem dX7_send_37 : decode cX7_send 37 = .ok (.invokevirtual 101, 3) := by decide +kernel
theorem dX7_send_40 : decode cX7_send 40 = .ok (.ifCond .eq 5, 3) := by decide +kernel
theorem dX7_send_43 : decode cX7_send 43 = .ok (.iconst 0, 1) := by decide +kernel
theorem dX7_send_44 : decode cX7_send 44 = .ok (.ireturn, 1) := by decide +kernel
theorem dX7_send_45 : decode cX7_send 45 = .ok (.bipush 127, 2) := by decide +kernel
theorem dX7_send_47 : decode cX7_send 47 = .ok (.iload_n 1, 1) := by decide +kernel
theorem dX7_send_48 : decode cX7_send 48 = .ok (.imul, 1) := by decide +kernel
theorem dX7_send_49 : decode cX7_send 49 = .ok (.istore_n 2, 1) := by decide +kernel
theorem dX7_send_50 : decode cX7_send 50 = .ok (.aload_n 0, 1) := by decide +kernel
theorem dX7_send_51 : decode cX7_send 51 = .ok (.getfield 56, 3) := by decide +kernel
theorem dX7_send_54 : decode cX7_send 54 = .ok (.iload_n 1, 1) := by decide +kernel
theorem dX7_send_55 : decode cX7_send 55 = .ok (.iaload, 1) := by decide +kernel
theorem dX7_send_56 : decode cX7_send 56 = .ok (.aload_n 0, 1) := by decide +kernel
theorem dX7_send_57 : decode cX7_send 57 = .ok (.getfield 44, 3) := by decide +kernel
theorem dX7_send_60 : decode cX7_send 60 = .ok (.iload_n 1, 1) := by decide +kernel
theorem dX7_send_61 : decode cX7_send 61 = .ok (.iaload, 1) := by decide +kernel
theorem dX7_send_62 : decode cX7_send 62 = .ok (.if_icmp .ge 47, 3) := by decide +kernel
theorem dX7_send_65 : decode cX7_send 65 = .ok (.iload_n 2, 1) := by decide +kernel
theorem dX7_send_66 : decode cX7_send 66 = .ok (.aload_n 0, 1) := by decide +kernel
theorem dX7_send_67 : decode cX7_send 67 = .ok (.getfield 56, 3) := by decide +kernel
theorem dX7_send_70 : decode cX7_send 70 = .ok (.iload_n 1, 1) := by decide +kernel
theorem dX7_send_71 : decode cX7_send 71 = .ok (.iaload, 1) := by decide +kernel
theorem dX7_send_72 : decode cX7_send 72 = .ok (.iadd, 1) := by decide +kernel
theorem dX7_send_73 : decode cX7_send 73 = .ok (.istore_n 3, 1) := by decide +kernel
theorem dX7_send_74 : decode cX7_send 74 = .ok (.aload_n 0, 1) := by decide +kernel
theorem dX7_send_75 : decode cX7_send 75 = .ok (.getfield 56, 3) := by decide +kernel
theorem dX7_send_78 : decode cX7_send 78 = .ok (.iload_n 1, 1) := by decide +kernel
theorem dX7_send_79 : decode cX7_send 79 = .ok (.dup2, 1) := by decide +kernel
theorem dX7_send_80 : decode cX7_send 80 = .ok (.iaload, 1) := by decide +kernel
theorem dX7_send_81 : decode cX7_send 81 = .ok (.iconst 1, 1) := by decide +kernel
theorem dX7_send_82 : decode cX7_send 82 = .ok (.iadd, 1) := by decide +kernel
theorem dX7_send_83 : decode cX7_send 83 = .ok (.iastore, 1) := by decide +kernel
theorem dX7_send_84 : decode cX7_send 84 = .ok (.aload_n 0, 1) := by decide +kernel
theorem dX7_send_85 : decode cX7_send 85 = .ok (.iload_n 1, 1) := by decide +kernel
theorem dX7_send_86 : decode cX7_send 86 = .ok (.aload_n 0, 1) := by decide +kernel
theorem dX7_send_87 : decode cX7_send 87 = .ok (.getfield 47, 3) := by decide +kernel
theorem dX7_send_90 : decode cX7_send 90 = .ok (.iload_n 3, 1) := by decide +kernel
theorem dX7_send_91 : decode cX7_send 91 = .ok (.iaload, 1) := by decide +kernel
theorem dX7_send_92 : decode cX7_send 92 = .ok (.aload_n 0, 1) := by decide +kernel
theorem dX7_send_93 : decode cX7_send 93 = .ok (.getfield 50, 3) := by decide +kernel
theorem dX7_send_96 : decode cX7_send 96 = .ok (.iload_n 3, 1) := by decide +kernel
theorem dX7_send_97 : decode cX7_send 97 = .ok (.iaload, 1) := by decide +kernel
theorem dX7_send_98 : decode cX7_send 98 = .ok (.aload_n 0, 1) := by decide +kernel
theorem dX7_send_99 : decode cX7_send 99 = .ok (.getfield 53, 3) := by decide +kernel
theorem dX7_send_102 : decode cX7_send 102 = .ok (.iload_n 3, 1) := by decide +kernel
theorem dX7_send_103 : decode cX7_send 103 = .ok (.iaload, 1) := by decide +kernel
theorem dX7_send_104 : decode cX7_send 104 = .ok (.invokevirtual 121, 3) := by decide +kernel
theorem dX7_send_107 : decode cX7_send 107 = .ok (.iconst 2, 1) := by decide +kernel
theorem dX7_send_108 : decode cX7_send 108 = .ok (.ireturn, 1) := by decide +kernel
theorem dX7_send_109 : decode cX7_send 109 = .ok (.aload_n 0, 1) := by decide +kernel
theorem dX7_send_110 : decode cX7_send 110 = .ok (.getfield 44, 3) := by decide +kernel
theorem dX7_send_113 : decode cX7_send 113 = .ok (.iload_n 1, 1) := by decide +kernel
theorem dX7_send_114 : decode cX7_send 114 = .ok (.iaload, 1) := by decide +kernel
theorem dX7_send_115 : decode cX7_send 115 = .ok (.bipush 127, 2) := by decide +kernel
theorem dX7_send_117 : decode cX7_send 117 = .ok (.if_icmp .eq 12, 3) := by decide +kernel
theorem dX7_send_120 : decode cX7_send 120 = .ok (.aload_n 0, 1) := by decide +kernel
theorem dX7_send_121 : decode cX7_send 121 = .ok (.getfield 35, 3) := by decide +kernel
theorem dX7_send_124 : decode cX7_send 124 = .ok (.iload_n 1, 1) := by decide +kernel
theorem dX7_send_125 : decode cX7_send 125 = .ok (.iaload, 1) := by decide +kernel
theorem dX7_send_126 : decode cX7_send 126 = .ok (.ifCond .ne 18, 3) := by decide +kernel
theorem dX7_send_129 : decode cX7_send 129 = .ok (.aload_n 0, 1) := by decide +kernel
theorem dX7_send_130 : decode cX7_send 130 = .ok (.iload_n 1, 1) := by decide +kernel
theorem dX7_send_131 : decode cX7_send 131 = .ok (.aload_n 0, 1) := by decide +kernel
theorem dX7_send_132 : decode cX7_send 132 = .ok (.getfield 26, 3) := by decide +kernel
theorem dX7_send_135 : decode cX7_send 135 = .ok (.iload_n 1, 1) := by decide +kernel
theorem dX7_send_136 : decode cX7_send 136 = .ok (.iaload, 1) := by decide +kernel
theorem dX7_send_137 : decode cX7_send 137 = .ok (.iconst 0, 1) := by decide +kernel
theorem dX7_send_138 : decode cX7_send 138 = .ok (.iconst 0, 1) := by decide +kernel
theorem dX7_send_139 : decode cX7_send 139 = .ok (.invokevirtual 121, 3) := by decide +kernel
theorem dX7_send_142 : decode cX7_send 142 = .ok (.iconst 0, 1) := by decide +kernel
theorem dX7_send_143 : decode cX7_send 143 = .ok (.ireturn, 1) := by decide +kernel
theorem dX7_send_144 : decode cX7_send 144 = .ok (.iload_n 2, 1) := by decide +kernel
theorem dX7_send_145 : decode cX7_send 145 = .ok (.aload_n 0, 1) := by decide +kernel
theorem dX7_send_146 : decode cX7_send 146 = .ok (.getfield 44, 3) := by decide +kernel
theorem dX7_send_149 : decode cX7_send 149 = .ok (.iload_n 1, 1) := by decide +kernel
theorem dX7_send_150 : decode cX7_send 150 = .ok (.iaload, 1) := by decide +kernel
theorem dX7_send_151 : decode cX7_send 151 = .ok (.iadd, 1) := by decide +kernel
theorem dX7_send_152 : decode cX7_send 152 = .ok (.istore_n 3, 1) := by decide +kernel
theorem dX7_send_153 : decode cX7_send 153 = .ok (.aload_n 0, 1) := by decide +kernel
theorem dX7_send_154 : decode cX7_send 154 = .ok (.getfield 26, 3) := by decide +kernel
theorem dX7_send_157 : decode cX7_send 157 = .ok (.iload_n 1, 1) := by decide +kernel
theorem dX7_send_158 : decode cX7_send 158 = .ok (.aload_n 0, 1) := by decide +kernel
theorem dX7_send_159 : decode cX7_send 159 = .ok (.getfield 26, 3) := by decide +kernel
theorem dX7_send_162 : decode cX7_send 162 = .ok (.iload_n 1, 1) := by decide +kernel
theorem dX7_send_163 : decode cX7_send 163 = .ok (.iaload, 1) := by decide +kernel
theorem dX7_send_164 : decode cX7_send 164 = .ok (.iconst 1, 1) := by decide +kernel
theorem dX7_send_165 : decode cX7_send 165 = .ok (.iadd, 1) := by decide +kernel
theorem dX7_send_166 : decode cX7_send 166 = .ok (.bipush 127, 2) := by decide +kernel
theorem dX7_send_168 : decode cX7_send 168 = .ok (.iand, 1) := by decide +kernel
theorem dX7_send_169 : decode cX7_send 169 = .ok (.iastore, 1) := by decide +kernel
theorem dX7_send_170 : decode cX7_send 170 = .ok (.aload_n 0, 1) := by decide +kernel
theorem dX7_send_171 : decode cX7_send 171 = .ok (.getfield 47, 3) := by decide +kernel
theorem dX7_send_174 : decode cX7_send 174 = .ok (.iload_n 3, 1) := by decide +kernel
theorem dX7_send_175 : decode cX7_send 175 = .ok (.aload_n 0, 1) := by decide +kernel
theorem dX7_send_176 : decode cX7_send 176 = .ok (.getfield 26, 3) := by decide +kernel
theorem dX7_send_179 : decode cX7_send 179 = .ok (.iload_n 1, 1) := by decide +kernel
theorem dX7_send_180 : decode cX7_send 180 = .ok (.iaload, 1) := by decide +kernel
theorem dX7_send_181 : decode cX7_send 181 = .ok (.iastore, 1) := by decide +kernel
theorem dX7_send_182 : decode cX7_send 182 = .ok (.aload_n 0, 1) := by decide +kernel
theorem dX7_send_183 : decode cX7_send 183 = .ok (.getfield 50, 3) := by decide +kernel
theorem dX7_send_186 : decode cX7_send 186 = .ok (.iload_n 3, 1) := by decide +kernel
theorem dX7_send_187 : decode cX7_send 187 = .ok (.aload_n 0, 1) := by decide +kernel
theorem dX7_send_188 : decode cX7_send 188 = .ok (.getfield 38, 3) := by decide +kernel
theorem dX7_send_191 : decode cX7_send 191 = .ok (.bipush 60, 2) := by decide +kernel
theorem dX7_send_193 : decode cX7_send 193 = .ok (.iload_n 1, 1) := by decide +kernel
theorem dX7_send_194 : decode cX7_send 194 = .ok (.imul, 1) := by decide +kernel
theorem dX7_send_195 : decode cX7_send 195 = .ok (.iaload, 1) := by decide +kernel
theorem dX7_send_196 : decode cX7_send 196 = .ok (.iastore, 1) := by decide +kernel
theorem dX7_send_197 : decode cX7_send 197 = .ok (.aload_n 0, 1) := by decide +kernel
theorem dX7_send_198 : decode cX7_send 198 = .ok (.getfield 53, 3) := by decide +kernel
theorem dX7_send_201 : decode cX7_send 201 = .ok (.iload_n 3, 1) := by decide +kernel
theorem dX7_send_202 : decode cX7_send 202 = .ok (.aload_n 0, 1) := by decide +kernel
theorem dX7_send_203 : decode cX7_send 203 = .ok (.getfield 41, 3) := by decide +kernel
theorem dX7_send_206 : decode cX7_send 206 = .ok (.bipush 60, 2) := by decide +kernel
theorem dX7_send_208 : decode cX7_send 208 = .ok (.iload_n 1, 1) := by decide +kernel
theorem dX7_send_209 : decode cX7_send 209 = .ok (.imul, 1) := by decide +kernel
theorem dX7_send_210 : decode cX7_send 210 = .ok (.iaload, 1) := by decide +kernel
theorem dX7_send_211 : decode cX7_send 211 = .ok (.iastore, 1) := by decide +kernel
theorem dX7_send_212 : decode cX7_send 212 = .ok (.bipush 60, 2) := by decide +kernel
theorem dX7_send_214 : decode cX7_send 214 = .ok (.iload_n 1, 1) := by decide +kernel
theorem dX7_send_215 : decode cX7_send 215 = .ok (.imul, 1) := by decide +kernel
theorem dX7_send_216 : decode cX7_send 216 = .ok (.istore 4, 2) := by decide +kernel
theorem dX7_send_218 : decode cX7_send 218 = .ok (.iload 4, 2) := by decide +kernel
theorem dX7_send_220 : decode cX7_send 220 = .ok (.iconst 1, 1) := by decide +kernel
theorem dX7_send_221 : decode cX7_send 221 = .ok (.iadd, 1) := by decide +kernel
theorem dX7_send_222 : decode cX7_send 222 = .ok (.bipush 60, 2) := by decide +kernel
theorem dX7_send_224 : decode cX7_send 224 = .ok (.iload_n 1, 1) := by decide +kernel
theorem dX7_send_225 : decode cX7_send 225 = .ok (.imul, 1) := by decide +kernel
theorem dX7_send_226 : decode cX7_send 226 = .ok (.aload_n 0, 1) := by decide +kernel
theorem dX7_send_227 : decode cX7_send 227 = .ok (.getfield 35, 3) := by decide +kernel
theorem dX7_send_230 : decode cX7_send 230 = .ok (.iload_n 1, 1) := by decide +kernel
theorem dX7_send_231 : decode cX7_send 231 = .ok (.iaload, 1) := by decide +kernel
theorem dX7_send_232 : decode cX7_send 232 = .ok (.iadd, 1) := by decide +kernel
theorem dX7_send_233 : decode cX7_send 233 = .ok (.if_icmp .ge 41, 3) := by decide +kernel
theorem dX7_send_236 : decode cX7_send 236 = .ok (.aload_n 0, 1) := by decide +kernel
theorem dX7_send_237 : decode cX7_send 237 = .ok (.getfield 38, 3) := by decide +kernel
theorem dX7_send_240 : decode cX7_send 240 = .ok (.iload 4, 2) := by decide +kernel
theorem dX7_send_242 : decode cX7_send 242 = .ok (.aload_n 0, 1) := by decide +kernel
theorem dX7_send_243 : decode cX7_send 243 = .ok (.getfield 38, 3) := by decide +kernel
theorem dX7_send_246 : decode cX7_send 246 = .ok (.iload 4, 2) := by decide +kernel
theorem dX7_send_248 : decode cX7_send 248 = .ok (.iconst 1, 1) := by decide +kernel
theorem dX7_send_249 : decode cX7_send 249 = .ok (.iadd, 1) := by decide +kernel
theorem dX7_send_250 : decode cX7_send 250 = .ok (.iaload, 1) := by decide +kernel
theorem dX7_send_251 : decode cX7_send 251 = .ok (.iastore, 1) := by decide +kernel
theorem dX7_send_252 : decode cX7_send 252 = .ok (.aload_n 0, 1) := by decide +kernel
theorem dX7_send_253 : decode cX7_send 253 = .ok (.getfield 41, 3) := by decide +kernel
theorem dX7_send_256 : decode cX7_send 256 = .ok (.iload 4, 2) := by decide +kernel
theorem dX7_send_258 : decode cX7_send 258 = .ok (.aload_n 0, 1) := by decide +kernel
theorem dX7_send_259 : decode cX7_send 259 = .ok (.getfield 41, 3) := by decide +kernel
theorem dX7_send_262 : decode cX7_send 262 = .ok (.iload 4, 2) := by decide +kernel
theorem dX7_send_264 : decode cX7_send 264 = .ok (.iconst 1, 1) := by decide +kernel
theorem dX7_send_265 : decode cX7_send 265 = .ok (.iadd, 1) := by decide +kernel
theorem dX7_send_266 : decode cX7_send 266 = .ok (.iaload, 1) := by decide +kernel
theorem dX7_send_267 : decode cX7_send 267 = .ok (.iastore, 1) := by decide +kernel
theorem dX7_send_268 : decode cX7_send 268 = .ok (.iinc 4 1, 3) := by decide +kernel
theorem dX7_send_271 : decode cX7_send 271 = .ok (.goto (-53), 3) := by decide +kernel
theorem dX7_send_274 : decode cX7_send 274 = .ok (.aload_n 0, 1) := by decide +kernel
theorem dX7_send_275 : decode cX7_send 275 = .ok (.getfield 35, 3) := by decide +kernel
theorem dX7_send_278 : decode cX7_send 278 = .ok (.iload_n 1, 1) := by decide +kernel
theorem dX7_send_279 : decode cX7_send 279 = .ok (.dup2, 1) := by decide +kernel
theorem dX7_send_280 : decode cX7_send 280 = .ok (.iaload, 1) := by decide +kernel
theorem dX7_send_281 : decode cX7_send 281 = .ok (.iconst 1, 1) := by decide +kernel
theorem dX7_send_282 : decode cX7_send 282 = .ok (.isub, 1) := by decide +kernel
theorem dX7_send_283 : decode cX7_send 283 = .ok (.iastore, 1) := by decide +kernel
theorem dX7_send_284 : decode cX7_send 284 = .ok (.aload_n 0, 1) := by decide +kernel
theorem dX7_send_285 : decode cX7_send 285 = .ok (.getfield 44, 3) := by decide +kernel
theorem dX7_send_288 : decode cX7_send 288 = .ok (.iload_n 1, 1) := by decide +kernel
theorem dX7_send_289 : decode cX7_send 289 = .ok (.dup2, 1) := by decide +kernel
theorem dX7_send_290 : decode cX7_send 290 = .ok (.iaload, 1) := by decide +kernel
theorem dX7_send_291 : decode cX7_send 291 = .ok (.iconst 1, 1) := by decide +kernel
theorem dX7_send_292 : decode cX7_send 292 = .ok (.iadd, 1) := by decide +kernel
theorem dX7_send_293 : decode cX7_send 293 = .ok (.iastore, 1) := by decide +kernel
theorem dX7_send_294 : decode cX7_send 294 = .ok (.aload_n 0, 1) := by decide +kernel
theorem dX7_send_295 : decode cX7_send 295 = .ok (.getfield 56, 3) := by decide +kernel
theorem dX7_send_298 : decode cX7_send 298 = .ok (.iload_n 1, 1) := by decide +kernel
theorem dX7_send_299 : decode cX7_send 299 = .ok (.aload_n 0, 1) := by decide +kernel
theorem dX7_send_300 : decode cX7_send 300 = .ok (.getfield 44, 3) := by decide +kernel
theorem dX7_send_303 : decode cX7_send 303 = .ok (.iload_n 1, 1) := by decide +kernel
theorem dX7_send_304 : decode cX7_send 304 = .ok (.iaload, 1) := by decide +kernel
theorem dX7_send_305 : decode cX7_send 305 = .ok (.iastore, 1) := by decide +kernel
theorem dX7_send_306 : decode cX7_send 306 = .ok (.aload_n 0, 1) := by decide +kernel
theorem dX7_send_307 : decode cX7_send 307 = .ok (.iload_n 1, 1) := by decide +kernel
theorem dX7_send_308 : decode cX7_send 308 = .ok (.aload_n 0, 1) := by decide +kernel
theorem dX7_send_309 : decode cX7_send 309 = .ok (.getfield 47, 3) := by decide +kernel
theorem dX7_send_312 : decode cX7_send 312 = .ok (.iload_n 3, 1) := by decide +kernel
theorem dX7_send_313 : decode cX7_send 313 = .ok (.iaload, 1) := by decide +kernel
theorem dX7_send_314 : decode cX7_send 314 = .ok (.aload_n 0, 1) := by decide +kernel
theorem dX7_send_315 : decode cX7_send 315 = .ok (.getfield 50, 3) := by decide +kernel
theorem dX7_send_318 : decode cX7_send 318 = .ok (.iload_n 3, 1) := by decide +kernel
theorem dX7_send_319 : decode cX7_send 319 = .ok (.iaload, 1) := by decide +kernel
theorem dX7_send_320 : decode cX7_send 320 = .ok (.aload_n 0, 1) := by decide +kernel
theorem dX7_send_321 : decode cX7_send 321 = .ok (.getfield 53, 3) := by decide +kernel
theorem dX7_send_324 : decode cX7_send 324 = .ok (.iload_n 3, 1) := by decide +kernel
theorem dX7_send_325 : decode cX7_send 325 = .ok (.iaload, 1) := by decide +kernel
theorem dX7_send_326 : decode cX7_send 326 = .ok (.invokevirtual 121, 3) := by decide +kernel
theorem dX7_send_329 : decode cX7_send 329 = .ok (.iconst 1, 1) := by decide +kernel
theorem dX7_send_330 : decode cX7_send 330 = .ok (.ireturn, 1) := by decide +kernel
theorem dX7_isFlag_0 : decode cX7_isFlag 0 = .ok (.iconst 0, 1) := by decide +kernel
theorem dX7_isFlag_1 : decode cX7_isFlag 1 = .ok (.istore_n 2, 1) := by decide +kernel
theorem dX7_isFlag_2 : decode cX7_isFlag 2 = .ok (.iconst 0, 1) := by decide +kernel
theorem dX7_isFlag_3 : decode cX7_isFlag 3 = .ok (.istore_n 3, 1) := by decide +kernel
theorem dX7_isFlag_4 : decode cX7_isFlag 4 = .ok (.iload_n 3, 1) := by decide +kernel
theorem dX7_isFlag_5 : decode cX7_isFlag 5 = .ok (.bipush 8, 2) := by decide +kernel
theorem dX7_isFlag_7 : decode cX7_isFlag 7 = .ok (.if_icmp .ge 22, 3) := by decide +kernel
theorem dX7_isFlag_10 : decode cX7_isFlag 10 = .ok (.iconst 2, 1) := by decide +kernel
theorem dX7_isFlag_11 : decode cX7_isFlag 11 = .ok (.iload_n 2, 1) := by decide +kernel
theorem dX7_isFlag_12 : decode cX7_isFlag 12 = .ok (.imul, 1) := by decide +kernel
theorem dX7_isFlag_13 : decode cX7_isFlag 13 = .ok (.aload_n 0, 1) := by decide +kernel
theorem dX7_isFlag_14 : decode cX7_isFlag 14 = .ok (.getfield 17, 3) := by decide +kernel
theorem dX7_isFlag_17 : decode cX7_isFlag 17 = .ok (.iload_n 1, 1) := by decide +kernel
theorem dX7_isFlag_18 : decode cX7_isFlag 18 = .ok (.iload_n 3, 1) := by decide +kernel
theorem dX7_isFlag_19 : decode cX7_isFlag 19 = .ok (.iadd, 1) := by decide +kernel
theorem dX7_isFlag_20 : decode cX7_isFlag 20 = .ok (.iaload, 1) := by decide +kernel
theorem dX7_isFlag_21 : decode cX7_isFlag 21 = .ok (.iadd, 1) := by decide +kernel
theorem dX7_isFlag_22 : decode cX7_isFlag 22 = .ok (.istore_n 2, 1) := by decide +kernel
theorem dX7_isFlag_23 : decode cX7_isFlag 23 = .ok (.iinc 3 1, 3) := by decide +kernel
theorem dX7_isFlag_26 : decode cX7_isFlag 26 = .ok (.goto (-22), 3) := by decide +kernel
theorem dX7_isFlag_29 : decode cX7_isFlag 29 = .ok (.iload_n 2, 1) := by decide +kernel
theorem dX7_isFlag_30 : decode cX7_isFlag 30 = .ok (.ireturn, 1) := by decide +kernel
set_option maxRecDepth 20000 in
theorem ggX7_fault_X7_isFlag : GoodIn wsX7_fault wsX7_isFlag := goodIn_r _ [10, 2, 20, 21, 22, 23, 24, 25, 26, 27, 28, 29, 30, 31, 32, 33, 34, 35, 36, 37, 38, 39, 40, 41, 42, 43, 44, 45, 46] (by decide +kernel) (by decide +kernel)
set_option maxRecDepth 20000 in
theorem gX7_fault_X7_isFlag : GoodIn wsX7_fault (wsV RX7 125 RX7 yX7_isFlag wsX7_isFlag) := goodIn_app (goodIn_of _ (by decide +kernel)) ggX7_fault_X7_isFlag
set_option maxRecDepth 20000 in
theorem ggX7_fault_X7_unitCheck : GoodIn wsX7_fault wsX7_unitCheck := goodIn_r _ [14, 15, 5, 16, 17, 9, 18, 19, 20, 21, 22, 23, 24, 25, 26, 27, 28, 29, 30, 31, 32, 33, 34, 35, 36, 37, 38, 39, 40, 41, 42, 43, 44, 45, 46] (by decide +kernel) (by decide +kernel)
set_option maxRecDepth 20000 in
theorem gX7_fault_X7_unitCheck : GoodIn wsX7_fault (wsV RX7 114 RX7 yX7_unitCheck wsX7_unitCheck) := goodIn_app (goodIn_of _ (by decide +kernel)) ggX7_fault_X7_unitCheck
theorem dX7_fault_0 : decode cX7_fault 0 = .ok (.sipush 3000, 3) := by decide +kernel
theorem dX7_fault_3 : decode cX7_fault 3 = .ok (.iload_n 1, 1) := by decide +kernel
theorem dX7_fault_4 : decode cX7_fault 4 = .ok (.imul, 1) := by decide +kernel
theorem dX7_fault_5 : decode cX7_fault 5 = .ok (.istore_n 2, 1) := by decide +kernel
theorem dX7_fault_6 : decode cX7_fault 6 = .ok (.aload_n 0, 1) := by decide +kernel
theorem dX7_fault_7 : decode cX7_fault 7 = .ok (.getfield 13, 3) := by decide +kernel
theorem dX7_fault_10 : decode cX7_fault 10 = .ok (.iload_n 1, 1) := by decide +kernel
theorem dX7_fault_11 : decode cX7_fault 11 = .ok (.iaload, 1) := by decide +kernel
theorem dX7_fault_12 : decode cX7_fault 12 = .ok (.istore_n 3, 1) := by decide +kernel
theorem dX7_fault_13 : decode cX7_fault 13 = .ok (.iload_n 3, 1) := by decide +kernel
theorem dX7_fault_14 : decode cX7_fault 14 = .ok (.bipush 16, 2) := by decide +kernel
theorem dX7_fault_16 : decode cX7_fault 16 = .ok (.if_icmp .lt 28, 3) := by decide +kernel
theorem dX7_fault_19 : decode cX7_fault 19 = .ok (.aload_n 0, 1) := by decide +kernel
theorem dX7_fault_20 : decode cX7_fault 20 = .ok (.iload_n 2, 1) := by decide +kernel
theorem dX7_fault_21 : decode cX7_fault 21 = .ok (.invokevirtual 125, 3) := by decide +kernel
theorem dX7_fault_24 : decode cX7_fault 24 = .ok (.bipush 126, 2) := by decide +kernel
theorem dX7_fault_26 : decode cX7_fault 26 = .ok (.if_icmp .ne 18, 3) := by decide +kernel
theorem dX7_fault_29 : decode cX7_fault 29 = .ok (.aload_n 0, 1) := by decide +kernel
theorem dX7_fault_30 : decode cX7_fault 30 = .ok (.iload_n 2, 1) := by decide +kernel
theorem dX7_fault_31 : decode cX7_fault 31 = .ok (.iload_n 3, 1) := by decide +kernel
theorem dX7_fault_32 : decode cX7_fault 32 = .ok (.iadd, 1) := by decide +kernel
theorem dX7_fault_33 : decode cX7_fault 33 = .ok (.bipush 8, 2) := by decide +kernel
theorem dX7_fault_35 : decode cX7_fault 35 = .ok (.isub, 1) := by decide +kernel
theorem dX7_fault_36 : decode cX7_fault 36 = .ok (.invokevirtual 125, 3) := by decide +kernel
theorem dX7_fault_39 : decode cX7_fault 39 = .ok (.bipush 126, 2) := by decide +kernel
theorem dX7_fault_41 : decode cX7_fault 41 = .ok (.if_icmp .eq 5, 3) := by decide +kernel
theorem dX7_fault_44 : decode cX7_fault 44 = .ok (.iconst 1, 1) := by decide +kernel
theorem dX7_fault_45 : decode cX7_fault 45 = .ok (.ireturn, 1) := by decide +kernel
theorem dX7_fault_46 : decode cX7_fault 46 = .ok (.iconst 0, 1) := by decide +kernel
theorem dX7_fault_47 : decode cX7_fault 47 = .ok (.istore 4, 2) := by decide +kernel
theorem dX7_fault_49 : decode cX7_fault 49 = .ok (.iconst 0, 1) := by decide +kernel
theorem dX7_fault_50 : decode cX7_fault 50 = .ok (.istore 5, 2) := by decide +kernel
theorem dX7_fault_52 : decode cX7_fault 52 = .ok (.iconst 0, 1) := by decide +kernel
theorem dX7_fault_53 : decode cX7_fault 53 = .ok (.istore 6, 2) := by decide +kernel
theorem dX7_fault_55 : decode cX7_fault 55 = .ok (.bipush 8, 2) := by decide +kernel
theorem dX7_fault_57 : decode cX7_fault 57 = .ok (.istore 7, 2) := by decide +kernel
theorem dX7_fault_59 : decode cX7_fault 59 = .ok (.iload 7, 2) := by decide +kernel
theorem dX7_fault_61 : decode cX7_fault 61 = .ok (.iload_n 3, 1) := by decide +kernel
theorem dX7_fault_62 : decode cX7_fault 62 = .ok (.bipush 8, 2) := by decide +kernel
theorem dX7_fault_64 : decode cX7_fault 64 = .ok (.isub, 1) := by decide +kernel
theorem dX7_fault_65 : decode cX7_fault 65 = .ok (.if_icmp .ge 75, 3) := by decide +kernel
theorem dX7_fault_68 : decode cX7_fault 68 = .ok (.aload_n 0, 1) := by decide +kernel
theorem dX7_fault_69 : decode cX7_fault 69 = .ok (.getfield 17, 3) := by decide +kernel
theorem dX7_fault_72 : decode cX7_fault 72 = .ok (.iload_n 2, 1) := by decide +kernel
theorem dX7_fault_73 : decode cX7_fault 73 = .ok (.iload 7, 2) := by decide +kernel
theorem dX7_fault_75 : decode cX7_fault 75 = .ok (.iadd, 1) := by decide +kernel
theorem dX7_fault_76 : decode cX7_fault 76 = .ok (.iaload, 1) := by decide +kernel
theorem dX7_fault_77 : decode cX7_fault 77 = .ok (.istore 8, 2) := by decide +kernel
theorem dX7_fault_79 : decode cX7_fault 79 = .ok (.iload 8, 2) := by decide +kernel
theorem dX7_fault_81 : decode cX7_fault 81 = .ok (.iconst 1, 1) := by decide +kernel
theorem dX7_fault_82 : decode cX7_fault 82 = .ok (.if_icmp .ne 10, 3) := by decide +kernel
theorem dX7_fault_85 : decode cX7_fault 85 = .ok (.iload 4, 2) := by decide +kernel
theorem dX7_fault_87 : decode cX7_fault 87 = .ok (.iconst 1, 1) := by decide +kernel
theorem dX7_fault_88 : decode cX7_fault 88 = .ok (.iadd, 1) := by decide +kernel
theorem dX7_fault_89 : decode cX7_fault 89 = .ok (.goto 4, 3) := by decide +kernel
theorem dX7_fault_92 : decode cX7_fault 92 = .ok (.iconst 0, 1) := by decide +kernel
theorem dX7_fault_93 : decode cX7_fault 93 = .ok (.istore 4, 2) := by decide +kernel
theorem dX7_fault_95 : decode cX7_fault 95 = .ok (.iload 4, 2) := by decide +kernel
theorem dX7_fault_97 : decode cX7_fault 97 = .ok (.bipush 6, 2) := by decide +kernel
theorem dX7_fault_99 : decode cX7_fault 99 = .ok (.if_icmp .ne 5, 3) := by decide +kernel
theorem dX7_fault_102 : decode cX7_fault 102 = .ok (.iconst 2, 1) := by decide +kernel
theorem dX7_fault_103 : decode cX7_fault 103 = .ok (.ireturn, 1) := by decide +kernel
theorem dX7_fault_104 : decode cX7_fault 104 = .ok (.iload 6, 2) := by decide +kernel
theorem dX7_fault_106 : decode cX7_fault 106 = .ok (.ifCond .ne 15, 3) := by decide +kernel
theorem dX7_fault_109 : decode cX7_fault 109 = .ok (.aload_n 0, 1) := by decide +kernel
theorem dX7_fault_110 : decode cX7_fault 110 = .ok (.getfield 84, 3) := by decide +kernel
theorem dX7_fault_113 : decode cX7_fault 113 = .ok (.iload 5, 2) := by decide +kernel
theorem dX7_fault_115 : decode cX7_fault 115 = .ok (.iload 8, 2) := by decide +kernel
theorem dX7_fault_117 : decode cX7_fault 117 = .ok (.iastore, 1) := by decide +kernel
theorem dX7_fault_118 : decode cX7_fault 118 = .ok (.iinc 5 1, 3) := by decide +kernel
theorem dX7_fault_121 : decode cX7_fault 121 = .ok (.iload 4, 2) := by decide +kernel
theorem dX7_fault_123 : decode cX7_fault 123 = .ok (.iconst 5, 1) := by decide +kernel
theorem dX7_fault_124 : decode cX7_fault 124 = .ok (.if_icmp .ne 7, 3) := by decide +kernel
theorem dX7_fault_127 : decode cX7_fault 127 = .ok (.iconst 1, 1) := by decide +kernel
theorem dX7_fault_128 : decode cX7_fault 128 = .ok (.goto 4, 3) := by decide +kernel
theorem dX7_fault_131 : decode cX7_fault 131 = .ok (.iconst 0, 1) := by decide +kernel
theorem dX7_fault_132 : decode cX7_fault 132 = .ok (.istore 6, 2) := by decide +kernel
theorem dX7_fault_134 : decode cX7_fault 134 = .ok (.iinc 7 1, 3) := by decide +kernel
theorem dX7_fault_137 : decode cX7_fault 137 = .ok (.goto (-78), 3) := by decide +kernel
theorem dX7_fault_140 : decode cX7_fault 140 = .ok (.iload 5, 2) := by decide +kernel
theorem dX7_fault_142 : decode cX7_fault 142 = .ok (.bipush 8, 2) := by decide +kernel
theorem dX7_fault_144 : decode cX7_fault 144 = .ok (.irem, 1) := by decide +kernel
theorem dX7_fault_145 : decode cX7_fault 145 = .ok (.ifCond .ne 18, 3) := by decide +kernel
theorem dX7_fault_148 : decode cX7_fault 148 = .ok (.iload 5, 2) := by decide +kernel
theorem dX7_fault_150 : decode cX7_fault 150 = .ok (.bipush 40, 2) := by decide +kernel
theorem dX7_fault_152 : decode cX7_fault 152 = .ok (.if_icmp .lt 11, 3) := by decide +kernel
theorem dX7_fault_155 : decode cX7_fault 155 = .ok (.iload 5, 2) := by decide +kernel
theorem dX7_fault_157 : decode cX7_fault 157 = .ok (.sipush 2216, 3) := by decide +kernel
theorem dX7_fault_160 : decode cX7_fault 160 = .ok (.if_icmp .le 5, 3) := by decide +kernel
theorem dX7_fault_163 : decode cX7_fault 163 = .ok (.iconst 3, 1) := by decide +kernel
theorem dX7_fault_164 : decode cX7_fault 164 = .ok (.ireturn, 1) := by decide +kernel
theorem dX7_fault_165 : decode cX7_fault 165 = .ok (.aload_n 0, 1) := by decide +kernel
theorem dX7_fault_166 : decode cX7_fault 166 = .ok (.iload 5, 2) := by decide +kernel
theorem dX7_fault_168 : decode cX7_fault 168 = .ok (.bipush 8, 2) := by decide +kernel
theorem dX7_fault_170 : decode cX7_fault 170 = .ok (.idiv, 1) := by decide +kernel
theorem dX7_fault_171 : decode cX7_fault 171 = .ok (.putfield 128, 3) := by decide +kernel
theorem dX7_fault_174 : decode cX7_fault 174 = .ok (.iconst 0, 1) := by decide +kernel
theorem dX7_fault_175 : decode cX7_fault 175 = .ok (.istore 7, 2) := by decide +kernel
theorem dX7_fault_177 : decode cX7_fault 177 = .ok (.iload 7, 2) := by decide +kernel
theorem dX7_fault_179 : decode cX7_fault 179 = .ok (.aload_n 0, 1) := by decide +kernel
theorem dX7_fault_180 : decode cX7_fault 180 = .ok (.getfield 128, 3) := by decide +kernel
theorem dX7_fault_183 : decode cX7_fault 183 = .ok (.if_icmp .ge 59, 3) := by decide +kernel
theorem dX7_fault_186 : decode cX7_fault 186 = .ok (.aload_n 0, 1) := by decide +kernel
theorem dX7_fault_187 : decode cX7_fault 187 = .ok (.getfield 81, 3) := by decide +kernel
theorem dX7_fault_190 : decode cX7_fault 190 = .ok (.iload 7, 2) := by decide +kernel
theorem dX7_fault_192 : decode cX7_fault 192 = .ok (.iconst 0, 1) := by decide +kernel
theorem dX7_fault_193 : decode cX7_fault 193 = .ok (.iastore, 1) := by decide +kernel
theorem dX7_fault_194 : decode cX7_fault 194 = .ok (.iconst 0, 1) := by decide +kernel
theorem dX7_fault_195 : decode cX7_fault 195 = .ok (.istore 8, 2) := by decide +kernel
theorem dX7_fault_197 : decode cX7_fault 197 = .ok (.iload 8, 2) := by decide +kernel
theorem dX7_fault_199 : decode cX7_fault 199 = .ok (.bipush 8, 2) := by decide +kernel
theorem dX7_fault_201 : decode cX7_fault 201 = .ok (.if_icmp .ge 35, 3) := by decide +kernel
theorem dX7_fault_204 : decode cX7_fault 204 = .ok (.aload_n 0, 1) := by decide +kernel
theorem dX7_fault_205 : decode cX7_fault 205 = .ok (.getfield 81, 3) := by decide +kernel
theorem dX7_fault_208 : decode cX7_fault 208 = .ok (.iload 7, 2) := by decide +kernel
theorem dX7_fault_210 : decode cX7_fault 210 = .ok (.dup2, 1) := by decide +kernel
theorem dX7_fault_211 : decode cX7_fault 211 = .ok (.iaload, 1) := by decide +kernel
theorem dX7_fault_212 : decode cX7_fault 212 = .ok (.aload_n 0, 1) := by decide +kernel
theorem dX7_fault_213 : decode cX7_fault 213 = .ok (.getfield 84, 3) := by decide +kernel
theorem dX7_fault_216 : decode cX7_fault 216 = .ok (.bipush 8, 2) := by decide +kernel
theorem dX7_fault_218 : decode cX7_fault 218 = .ok (.iload 7, 2) := by decide +kernel
theorem dX7_fault_220 : decode cX7_fault 220 = .ok (.imul, 1) := by decide +kernel
theorem dX7_fault_221 : decode cX7_fault 221 = .ok (.iload 8, 2) := by decide +kernel
theorem dX7_fault_223 : decode cX7_fault 223 = .ok (.iadd, 1) := by decide +kernel
theorem dX7_fault_224 : decode cX7_fault 224 = .ok (.iaload, 1) := by decide +kernel
theorem dX7_fault_225 : decode cX7_fault 225 = .ok (.iload 8, 2) := by decide +kernel
theorem dX7_fault_227 : decode cX7_fault 227 = .ok (.ishl, 1) := by decide +kernel
theorem dX7_fault_228 : decode cX7_fault 228 = .ok (.iadd, 1) := by decide +kernel
theorem dX7_fault_229 : decode cX7_fault 229 = .ok (.iastore, 1) := by decide +kernel
theorem dX7_fault_230 : decode cX7_fault 230 = .ok (.iinc 8 1, 3) := by decide +kernel
theorem dX7_fault_233 : decode cX7_fault 233 = .ok (.goto (-36), 3) := by decide +kernel
theorem dX7_fault_236 : decode cX7_fault 236 = .ok (.iinc 7 1, 3) := by decide +kernel
theorem dX7_fault_239 : decode cX7_fault 239 = .ok (.goto (-62), 3) := by decide +kernel
theorem dX7_fault_242 : decode cX7_fault 242 = .ok (.aload_n 0, 1) := by decide +kernel
theorem dX7_fault_243 : decode cX7_fault 243 = .ok (.aload_n 0, 1) := by decide +kernel
theorem dX7_fault_244 : decode cX7_fault 244 = .ok (.getfield 128, 3) := by decide +kernel
theorem dX7_fault_247 : decode cX7_fault 247 = .ok (.iconst 2, 1) := by decide +kernel
theorem dX7_fault_248 : decode cX7_fault 248 = .ok (.isub, 1) := by decide +kernel
theorem dX7_fault_249 : decode cX7_fault 249 = .ok (.invokevirtual 114, 3) := by decide +kernel
theorem dX7_fault_252 : decode cX7_fault 252 = .ok (.aload_n 0, 1) := by decide +kernel
theorem dX7_fault_253 : decode cX7_fault 253 = .ok (.getfield 81, 3) := by decide +kernel
theorem dX7_fault_256 : decode cX7_fault 256 = .ok (.aload_n 0, 1) := by decide +kernel
theorem dX7_fault_257 : decode cX7_fault 257 = .ok (.getfield 128, 3) := by decide +kernel
theorem dX7_fault_260 : decode cX7_fault 260 = .ok (.iconst 2, 1) := by decide +kernel
theorem dX7_fault_261 : decode cX7_fault 261 = .ok (.isub, 1) := by decide +kernel
theorem dX7_fault_262 : decode cX7_fault 262 = .ok (.iaload, 1) := by decide +kernel
theorem dX7_fault_263 : decode cX7_fault 263 = .ok (.sipush 256, 3) := by decide +kernel
theorem dX7_fault_266 : decode cX7_fault 266 = .ok (.aload_n 0, 1) := by decide +kernel
theorem dX7_fault_267 : decode cX7_fault 267 = .ok (.getfield 81, 3) := by decide +kernel
theorem dX7_fault_270 : decode cX7_fault 270 = .ok (.aload_n 0, 1) := by decide +kernel
theorem dX7_fault_271 : decode cX7_fault 271 = .ok (.getfield 128, 3) := by decide +kernel
theorem dX7_fault_274 : decode cX7_fault 274 = .ok (.iconst 1, 1) := by decide +kernel
theorem dX7_fault_275 : decode cX7_fault 275 = .ok (.isub, 1) := by decide +kernel
theorem dX7_fault_276 : decode cX7_fault 276 = .ok (.iaload, 1) := by decide +kernel
theorem dX7_fault_277 : decode cX7_fault 277 = .ok (.imul, 1) := by decide +kernel
