theorem dX10_isUsable_124 : decode cX10_isUsable 124 = .ok (.iload 5, 2) := by decide +kernel
theorem dX10_isUsable_126 : decode cX10_isUsable 126 = .ok (.invokestatic 254, 3) := by decide +kernel
theorem dX10_isUsable_129 : decode cX10_isUsable 129 = .ok (.ifCond .eq 39, 3) := by decide +kernel
theorem dX10_isUsable_132 : decode cX10_isUsable 132 = .ok (.aload_n 0, 1) := by decide +kernel
theorem dX10_isUsable_133 : decode cX10_isUsable 133 = .ok (.iload 5, 2) := by decide +kernel
theorem dX10_isUsable_135 : decode cX10_isUsable 135 = .ok (.invokevirtual 251, 3) := by decide +kernel
theorem dX10_isUsable_138 : decode cX10_isUsable 138 = .ok (.ifCond .eq 30, 3) := by decide +kernel
theorem dX10_isUsable_141 : decode cX10_isUsable 141 = .ok (.aload_n 0, 1) := by decide +kernel
theorem dX10_isUsable_142 : decode cX10_isUsable 142 = .ok (.iload 5, 2) := by decide +kernel
theorem dX10_isUsable_144 : decode cX10_isUsable 144 = .ok (.iconst 0, 1) := by decide +kernel
theorem dX10_isUsable_145 : decode cX10_isUsable 145 = .ok (.invokevirtual 108, 3) := by decide +kernel
theorem dX10_isUsable_148 : decode cX10_isUsable 148 = .ok (.iconst 3, 1) := by decide +kernel
theorem dX10_isUsable_149 : decode cX10_isUsable 149 = .ok (.if_icmp .ne 19, 3) := by decide +kernel
theorem dX10_isUsable_152 : decode cX10_isUsable 152 = .ok (.aload_n 0, 1) := by decide +kernel
theorem dX10_isUsable_153 : decode cX10_isUsable 153 = .ok (.iload 5, 2) := by decide +kernel
theorem dX10_isUsable_155 : decode cX10_isUsable 155 = .ok (.iconst 2, 1) := by decide +kernel
theorem dX10_isUsable_156 : decode cX10_isUsable 156 = .ok (.invokevirtual 108, 3) := by decide +kernel
theorem dX10_isUsable_159 : decode cX10_isUsable 159 = .ok (.iload 4, 2) := by decide +kernel
theorem dX10_isUsable_161 : decode cX10_isUsable 161 = .ok (.if_icmp .ne 7, 3) := by decide +kernel
theorem dX10_isUsable_164 : decode cX10_isUsable 164 = .ok (.iconst 1, 1) := by decide +kernel
theorem dX10_isUsable_165 : decode cX10_isUsable 165 = .ok (.goto 4, 3) := by decide +kernel
theorem dX10_isUsable_168 : decode cX10_isUsable 168 = .ok (.iconst 0, 1) := by decide +kernel
theorem dX10_isUsable_169 : decode cX10_isUsable 169 = .ok (.istore_n 3, 1) := by decide +kernel
theorem dX10_isUsable_170 : decode cX10_isUsable 170 = .ok (.iinc 4 1, 3) := by decide +kernel
theorem dX10_isUsable_173 : decode cX10_isUsable 173 = .ok (.goto (-77), 3) := by decide +kernel
theorem dX10_isUsable_176 : decode cX10_isUsable 176 = .ok (.iload_n 3, 1) := by decide +kernel
theorem dX10_isUsable_177 : decode cX10_isUsable 177 = .ok (.ireturn, 1) := by decide +kernel
set_option maxRecDepth 20000 in
theorem ggX10_reopen_X10_restart : GoodIn wsX10_reopen wsX10_restart := goodIn_r _ [14, 15, 16, 17, 18, 19, 13, 20, 21, 22, 23, 52, 53, 54, 55, 56, 57, 58, 59, 60, 61, 62, 63, 64, 65, 66, 67, 68, 69, 70, 71, 72, 73, 74, 75, 76, 77, 78, 79, 80, 81, 82, 83, 84, 85, 86, 87, 88, 89] (by decide +kernel) (by decide +kernel)
set_option maxRecDepth 20000 in
theorem gX10_reopen_X10_restart : GoodIn wsX10_reopen (wsV RX10 124 RX10 yX10_restart wsX10_restart) := goodIn_app (goodIn_of _ (by decide +kernel)) ggX10_reopen_X10_restart
set_option maxRecDepth 20000 in
theorem ggX10_reopen_X10_isUsable : GoodIn wsX10_reopen wsX10_isUsable := goodIn_r _ [27, 28, 29, 30, 31, 13, 32, 33, 34, 35, 36, 37, 38, 39, 40, 41, 42, 43, 44, 45, 46, 47, 52, 53, 54, 55, 56, 57, 58, 59, 60, 61, 62, 63, 64, 65, 66, 67, 68, 69, 70, 71, 72, 73, 74, 75, 76, 77, 78, 79, 80, 81, 82, 83, 84, 85, 86, 87, 88, 89] (by decide +kernel) (by decide +kernel)
set_option maxRecDepth 20000 in
theorem gX10_reopen_X10_isUsable : GoodIn wsX10_reopen (wsV RX10 257 RX10 yX10_isUsable wsX10_isUsable) := goodIn_app (goodIn_of _ (by decide +kernel)) ggX10_reopen_X10_isUsable
set_option maxRecDepth 20000 in
theorem ggX10_reopen_X10_fails : GoodIn wsX10_reopen wsX10_fails := goodIn_r _ [51, 1, 52, 53, 54, 55, 56, 57, 58, 59, 60, 61, 62, 63, 64, 65, 66, 67, 68, 69, 70, 71, 72, 73, 74, 75, 76, 77, 78, 79, 80, 81, 82, 83, 84, 85, 86, 87, 88, 89] (by decide +kernel) (by decide +kernel)
set_option maxRecDepth 20000 in
theorem gX10_reopen_X10_fails : GoodIn wsX10_reopen (wsV RX10 136 RX10 yX10_fails wsX10_fails) := goodIn_app (goodIn_of _ (by decide +kernel)) ggX10_reopen_X10_fails
set_option maxRecDepth 20000 in
theorem ggX10_reopen_X10_at : GoodIn wsX10_reopen wsX10_at := goodIn_r _ [36, 37, 52, 53, 54, 55, 56, 57, 58, 59, 60, 61, 62, 63, 64, 65, 66, 67, 68, 69, 70, 71, 72, 73, 74, 75, 76, 77, 78, 79, 80, 81, 82, 83, 84, 85, 86, 87, 88, 89] (by decide +kernel) (by decide +kernel)
set_option maxRecDepth 20000 in
theorem gX10_reopen_X10_at : GoodIn wsX10_reopen (wsV RX10 108 RX10 yX10_at wsX10_at) := goodIn_app (goodIn_of _ (by decide +kernel)) ggX10_reopen_X10_at
theorem dX10_reopen_0 : decode cX10_reopen 0 = .ok (.aload_n 0, 1) := by decide +kernel
theorem dX10_reopen_1 : decode cX10_reopen 1 = .ok (.iconst 0, 1) := by decide +kernel
theorem dX10_reopen_2 : decode cX10_reopen 2 = .ok (.putfield 100, 3) := by decide +kernel
theorem dX10_reopen_5 : decode cX10_reopen 5 = .ok (.aload_n 0, 1) := by decide +kernel
theorem dX10_reopen_6 : decode cX10_reopen 6 = .ok (.invokevirtual 124, 3) := by decide +kernel
theorem dX10_reopen_9 : decode cX10_reopen 9 = .ok (.aload_n 0, 1) := by decide +kernel
theorem dX10_reopen_10 : decode cX10_reopen 10 = .ok (.iconst 0, 1) := by decide +kernel
theorem dX10_reopen_11 : decode cX10_reopen 11 = .ok (.invokevirtual 257, 3) := by decide +kernel
theorem dX10_reopen_14 : decode cX10_reopen 14 = .ok (.istore_n 1, 1) := by decide +kernel
theorem dX10_reopen_15 : decode cX10_reopen 15 = .ok (.aload_n 0, 1) := by decide +kernel
theorem dX10_reopen_16 : decode cX10_reopen 16 = .ok (.iconst 1, 1) := by decide +kernel
theorem dX10_reopen_17 : decode cX10_reopen 17 = .ok (.invokevirtual 257, 3) := by decide +kernel
theorem dX10_reopen_20 : decode cX10_reopen 20 = .ok (.istore_n 2, 1) := by decide +kernel
theorem dX10_reopen_21 : decode cX10_reopen 21 = .ok (.aload_n 0, 1) := by decide +kernel
theorem dX10_reopen_22 : decode cX10_reopen 22 = .ok (.iload_n 1, 1) := by decide +kernel
theorem dX10_reopen_23 : decode cX10_reopen 23 = .ok (.ifCond .ne 7, 3) := by decide +kernel
theorem dX10_reopen_26 : decode cX10_reopen 26 = .ok (.iload_n 2, 1) := by decide +kernel
theorem dX10_reopen_27 : decode cX10_reopen 27 = .ok (.ifCond .eq 7, 3) := by decide +kernel
theorem dX10_reopen_30 : decode cX10_reopen 30 = .ok (.iconst 1, 1) := by decide +kernel
theorem dX10_reopen_31 : decode cX10_reopen 31 = .ok (.goto 4, 3) := by decide +kernel
theorem dX10_reopen_34 : decode cX10_reopen 34 = .ok (.iconst 0, 1) := by decide +kernel
theorem dX10_reopen_35 : decode cX10_reopen 35 = .ok (.putfield 116, 3) := by decide +kernel
theorem dX10_reopen_38 : decode cX10_reopen 38 = .ok (.aload_n 0, 1) := by decide +kernel
theorem dX10_reopen_39 : decode cX10_reopen 39 = .ok (.getfield 69, 3) := by decide +kernel
theorem dX10_reopen_42 : decode cX10_reopen 42 = .ok (.aload_n 0, 1) := by decide +kernel
theorem dX10_reopen_43 : decode cX10_reopen 43 = .ok (.getfield 116, 3) := by decide +kernel
theorem dX10_reopen_46 : decode cX10_reopen 46 = .ok (.ifCond .eq 7, 3) := by decide +kernel
theorem dX10_reopen_49 : decode cX10_reopen 49 = .ok (.iconst 4, 1) := by decide +kernel
theorem dX10_reopen_50 : decode cX10_reopen 50 = .ok (.goto 4, 3) := by decide +kernel
theorem dX10_reopen_53 : decode cX10_reopen 53 = .ok (.iconst 5, 1) := by decide +kernel
theorem dX10_reopen_54 : decode cX10_reopen 54 = .ok (.dup2, 1) := by decide +kernel
theorem dX10_reopen_55 : decode cX10_reopen 55 = .ok (.iaload, 1) := by decide +kernel
theorem dX10_reopen_56 : decode cX10_reopen 56 = .ok (.iconst 1, 1) := by decide +kernel
theorem dX10_reopen_57 : decode cX10_reopen 57 = .ok (.iadd, 1) := by decide +kernel
theorem dX10_reopen_58 : decode cX10_reopen 58 = .ok (.iastore, 1) := by decide +kernel
theorem dX10_reopen_59 : decode cX10_reopen 59 = .ok (.aload_n 0, 1) := by decide +kernel
theorem dX10_reopen_60 : decode cX10_reopen 60 = .ok (.getfield 116, 3) := by decide +kernel
theorem dX10_reopen_63 : decode cX10_reopen 63 = .ok (.ifCond .ne 9, 3) := by decide +kernel
theorem dX10_reopen_66 : decode cX10_reopen 66 = .ok (.aload_n 0, 1) := by decide +kernel
theorem dX10_reopen_67 : decode cX10_reopen 67 = .ok (.iconst 1, 1) := by decide +kernel
theorem dX10_reopen_68 : decode cX10_reopen 68 = .ok (.invokevirtual 136, 3) := by decide +kernel
theorem dX10_reopen_71 : decode cX10_reopen 71 = .ok (.ireturn, 1) := by decide +kernel
theorem dX10_reopen_72 : decode cX10_reopen 72 = .ok (.iload_n 1, 1) := by decide +kernel
theorem dX10_reopen_73 : decode cX10_reopen 73 = .ok (.ifCond .eq 22, 3) := by decide +kernel
theorem dX10_reopen_76 : decode cX10_reopen 76 = .ok (.iload_n 2, 1) := by decide +kernel
theorem dX10_reopen_77 : decode cX10_reopen 77 = .ok (.ifCond .eq 22, 3) := by decide +kernel
theorem dX10_reopen_80 : decode cX10_reopen 80 = .ok (.aload_n 0, 1) := by decide +kernel
theorem dX10_reopen_81 : decode cX10_reopen 81 = .ok (.iconst 1, 1) := by decide +kernel
theorem dX10_reopen_82 : decode cX10_reopen 82 = .ok (.iconst 1, 1) := by decide +kernel
theorem dX10_reopen_83 : decode cX10_reopen 83 = .ok (.invokevirtual 108, 3) := by decide +kernel
theorem dX10_reopen_86 : decode cX10_reopen 86 = .ok (.aload_n 0, 1) := by decide +kernel
theorem dX10_reopen_87 : decode cX10_reopen 87 = .ok (.iconst 0, 1) := by decide +kernel
theorem dX10_reopen_88 : decode cX10_reopen 88 = .ok (.iconst 1, 1) := by decide +kernel
theorem dX10_reopen_89 : decode cX10_reopen 89 = .ok (.invokevirtual 108, 3) := by decide +kernel
theorem dX10_reopen_92 : decode cX10_reopen 92 = .ok (.if_icmp .le 7, 3) := by decide +kernel
theorem dX10_reopen_95 : decode cX10_reopen 95 = .ok (.iconst 1, 1) := by decide +kernel
theorem dX10_reopen_96 : decode cX10_reopen 96 = .ok (.goto 4, 3) := by decide +kernel
theorem dX10_reopen_99 : decode cX10_reopen 99 = .ok (.iconst 0, 1) := by decide +kernel
theorem dX10_reopen_100 : decode cX10_reopen 100 = .ok (.istore_n 3, 1) := by decide +kernel
theorem dX10_reopen_101 : decode cX10_reopen 101 = .ok (.aload_n 0, 1) := by decide +kernel
theorem dX10_reopen_102 : decode cX10_reopen 102 = .ok (.iload_n 3, 1) := by decide +kernel
theorem dX10_reopen_103 : decode cX10_reopen 103 = .ok (.putfield 127, 3) := by decide +kernel
theorem dX10_reopen_106 : decode cX10_reopen 106 = .ok (.aload_n 0, 1) := by decide +kernel
theorem dX10_reopen_107 : decode cX10_reopen 107 = .ok (.getfield 13, 3) := by decide +kernel
theorem dX10_reopen_110 : decode cX10_reopen 110 = .ok (.iconst 0, 1) := by decide +kernel
theorem dX10_reopen_111 : decode cX10_reopen 111 = .ok (.aload_n 0, 1) := by decide +kernel
theorem dX10_reopen_112 : decode cX10_reopen 112 = .ok (.iload_n 3, 1) := by decide +kernel
theorem dX10_reopen_113 : decode cX10_reopen 113 = .ok (.iconst 1, 1) := by decide +kernel
theorem dX10_reopen_114 : decode cX10_reopen 114 = .ok (.invokevirtual 108, 3) := by decide +kernel
theorem dX10_reopen_117 : decode cX10_reopen 117 = .ok (.iastore, 1) := by decide +kernel
theorem dX10_reopen_118 : decode cX10_reopen 118 = .ok (.aload_n 0, 1) := by decide +kernel
theorem dX10_reopen_119 : decode cX10_reopen 119 = .ok (.getfield 16, 3) := by decide +kernel
theorem dX10_reopen_122 : decode cX10_reopen 122 = .ok (.iconst 0, 1) := by decide +kernel
theorem dX10_reopen_123 : decode cX10_reopen 123 = .ok (.aload_n 0, 1) := by decide +kernel
theorem dX10_reopen_124 : decode cX10_reopen 124 = .ok (.iload_n 3, 1) := by decide +kernel
theorem dX10_reopen_125 : decode cX10_reopen 125 = .ok (.iconst 2, 1) := by decide +kernel
theorem dX10_reopen_126 : decode cX10_reopen 126 = .ok (.invokevirtual 108, 3) := by decide +kernel
theorem dX10_reopen_129 : decode cX10_reopen 129 = .ok (.iastore, 1) := by decide +kernel
theorem dX10_reopen_130 : decode cX10_reopen 130 = .ok (.iconst 0, 1) := by decide +kernel
theorem dX10_reopen_131 : decode cX10_reopen 131 = .ok (.istore 4, 2) := by decide +kernel
theorem dX10_reopen_133 : decode cX10_reopen 133 = .ok (.iload 4, 2) := by decide +kernel
theorem dX10_reopen_135 : decode cX10_reopen 135 = .ok (.bipush 8, 2) := by decide +kernel
theorem dX10_reopen_137 : decode cX10_reopen 137 = .ok (.if_icmp .ge 121, 3) := by decide +kernel
theorem dX10_reopen_140 : decode cX10_reopen 140 = .ok (.aload_n 0, 1) := by decide +kernel
theorem dX10_reopen_141 : decode cX10_reopen 141 = .ok (.aload_n 0, 1) := by decide +kernel
theorem dX10_reopen_142 : decode cX10_reopen 142 = .ok (.getfield 16, 3) := by decide +kernel
theorem dX10_reopen_145 : decode cX10_reopen 145 = .ok (.iconst 0, 1) := by decide +kernel
theorem dX10_reopen_146 : decode cX10_reopen 146 = .ok (.iaload, 1) := by decide +kernel
theorem dX10_reopen_147 : decode cX10_reopen 147 = .ok (.iconst 4, 1) := by decide +kernel
theorem dX10_reopen_148 : decode cX10_reopen 148 = .ok (.iload 4, 2) := by decide +kernel
theorem dX10_reopen_150 : decode cX10_reopen 150 = .ok (.iadd, 1) := by decide +kernel
theorem dX10_reopen_151 : decode cX10_reopen 151 = .ok (.invokevirtual 108, 3) := by decide +kernel
theorem dX10_reopen_154 : decode cX10_reopen 154 = .ok (.istore 5, 2) := by decide +kernel
theorem dX10_reopen_156 : decode cX10_reopen 156 = .ok (.aload_n 0, 1) := by decide +kernel
theorem dX10_reopen_157 : decode cX10_reopen 157 = .ok (.getfield 19, 3) := by decide +kernel
theorem dX10_reopen_160 : decode cX10_reopen 160 = .ok (.iload 4, 2) := by decide +kernel
theorem dX10_reopen_162 : decode cX10_reopen 162 = .ok (.iload 5, 2) := by decide +kernel
theorem dX10_reopen_164 : decode cX10_reopen 164 = .ok (.iastore, 1) := by decide +kernel
theorem dX10_reopen_165 : decode cX10_reopen 165 = .ok (.iconst 0, 1) := by decide +kernel
theorem dX10_reopen_166 : decode cX10_reopen 166 = .ok (.istore 6, 2) := by decide +kernel
theorem dX10_reopen_168 : decode cX10_reopen 168 = .ok (.iload 6, 2) := by decide +kernel
theorem dX10_reopen_170 : decode cX10_reopen 170 = .ok (.bipush 8, 2) := by decide +kernel
theorem dX10_reopen_172 : decode cX10_reopen 172 = .ok (.if_icmp .ge 80, 3) := by decide +kernel
theorem dX10_reopen_175 : decode cX10_reopen 175 = .ok (.aload_n 0, 1) := by decide +kernel
theorem dX10_reopen_176 : decode cX10_reopen 176 = .ok (.getfield 22, 3) := by decide +kernel
theorem dX10_reopen_179 : decode cX10_reopen 179 = .ok (.iload 4, 2) := by decide +kernel
theorem dX10_reopen_181 : decode cX10_reopen 181 = .ok (.bipush 8, 2) := by decide +kernel
theorem dX10_reopen_183 : decode cX10_reopen 183 = .ok (.iload 6, 2) := by decide +kernel
theorem dX10_reopen_185 : decode cX10_reopen 185 = .ok (.imul, 1) := by decide +kernel
theorem dX10_reopen_186 : decode cX10_reopen 186 = .ok (.iadd, 1) := by decide +kernel
theorem dX10_reopen_187 : decode cX10_reopen 187 = .ok (.iload 5, 2) := by decide +kernel
theorem dX10_reopen_189 : decode cX10_reopen 189 = .ok (.ifCond .lt 23, 3) := by decide +kernel
theorem dX10_reopen_192 : decode cX10_reopen 192 = .ok (.aload_n 0, 1) := by decide +kernel
theorem dX10_reopen_193 : decode cX10_reopen 193 = .ok (.iload 5, 2) := by decide +kernel
theorem dX10_reopen_195 : decode cX10_reopen 195 = .ok (.iconst 3, 1) := by decide +kernel
theorem dX10_reopen_196 : decode cX10_reopen 196 = .ok (.invokevirtual 108, 3) := by decide +kernel
theorem dX10_reopen_199 : decode cX10_reopen 199 = .ok (.iload 6, 2) := by decide +kernel
theorem dX10_reopen_201 : decode cX10_reopen 201 = .ok (.ishr, 1) := by decide +kernel
theorem dX10_reopen_202 : decode cX10_reopen 202 = .ok (.iconst 1, 1) := by decide +kernel
theorem dX10_reopen_203 : decode cX10_reopen 203 = .ok (.iand, 1) := by decide +kernel
theorem dX10_reopen_204 : decode cX10_reopen 204 = .ok (.iconst 1, 1) := by decide +kernel
theorem dX10_reopen_205 : decode cX10_reopen 205 = .ok (.if_icmp .ne 7, 3) := by decide +kernel
theorem dX10_reopen_208 : decode cX10_reopen 208 = .ok (.iconst 1, 1) := by decide +kernel
theorem dX10_reopen_209 : decode cX10_reopen 209 = .ok (.goto 4, 3) := by decide +kernel
theorem dX10_reopen_212 : decode cX10_reopen 212 = .ok (.iconst 0, 1) := by decide +kernel
theorem dX10_reopen_213 : decode cX10_reopen 213 = .ok (.bastore, 1) := by decide +kernel
theorem dX10_reopen_214 : decode cX10_reopen 214 = .ok (.aload_n 0, 1) := by decide +kernel
theorem dX10_reopen_215 : decode cX10_reopen 215 = .ok (.getfield 26, 3) := by decide +kernel
theorem dX10_reopen_218 : decode cX10_reopen 218 = .ok (.iload 4, 2) := by decide +kernel
theorem dX10_reopen_220 : decode cX10_reopen 220 = .ok (.bipush 8, 2) := by decide +kernel
theorem dX10_reopen_222 : decode cX10_reopen 222 = .ok (.iload 6, 2) := by decide +kernel
theorem dX10_reopen_224 : decode cX10_reopen 224 = .ok (.imul, 1) := by decide +kernel
theorem dX10_reopen_225 : decode cX10_reopen 225 = .ok (.iadd, 1) := by decide +kernel
theorem dX10_reopen_226 : decode cX10_reopen 226 = .ok (.iload 5, 2) := by decide +kernel
theorem dX10_reopen_228 : decode cX10_reopen 228 = .ok (.ifCond .lt 16, 3) := by decide +kernel
theorem dX10_reopen_231 : decode cX10_reopen 231 = .ok (.aload_n 0, 1) := by decide +kernel
theorem dX10_reopen_232 : decode cX10_reopen 232 = .ok (.iload 5, 2) := by decide +kernel
theorem dX10_reopen_234 : decode cX10_reopen 234 = .ok (.iconst 4, 1) := by decide +kernel
theorem dX10_reopen_235 : decode cX10_reopen 235 = .ok (.iload 6, 2) := by decide +kernel
theorem dX10_reopen_237 : decode cX10_reopen 237 = .ok (.iadd, 1) := by decide +kernel
theorem dX10_reopen_238 : decode cX10_reopen 238 = .ok (.invokevirtual 108, 3) := by decide +kernel
theorem dX10_reopen_241 : decode cX10_reopen 241 = .ok (.goto 4, 3) := by decide +kernel
theorem dX10_reopen_244 : decode cX10_reopen 244 = .ok (.iconst 0, 1) := by decide +kernel
theorem dX10_reopen_245 : decode cX10_reopen 245 = .ok (.iastore, 1) := by decide +kernel
theorem dX10_reopen_246 : decode cX10_reopen 246 = .ok (.iinc 6 1, 3) := by decide +kernel
theorem dX10_reopen_249 : decode cX10_reopen 249 = .ok (.goto (-81), 3) := by decide +kernel
theorem dX10_reopen_252 : decode cX10_reopen 252 = .ok (.iinc 4 1, 3) := by decide +kernel
theorem dX10_reopen_255 : decode cX10_reopen 255 = .ok (.goto (-122), 3) := by decide +kernel
theorem dX10_reopen_258 : decode cX10_reopen 258 = .ok (.aload_n 0, 1) := by decide +kernel
theorem dX10_reopen_259 : decode cX10_reopen 259 = .ok (.getfield 13, 3) := by decide +kernel
theorem dX10_reopen_262 : decode cX10_reopen 262 = .ok (.iconst 0, 1) := by decide +kernel
theorem dX10_reopen_263 : decode cX10_reopen 263 = .ok (.iaload, 1) := by decide +kernel
theorem dX10_reopen_264 : decode cX10_reopen 264 = .ok (.ireturn, 1) := by decide +kernel
theorem dX10_isOpen_0 : decode cX10_isOpen 0 = .ok (.aload_n 0, 1) := by decide +kernel
theorem dX10_isOpen_1 : decode cX10_isOpen 1 = .ok (.iconst 0, 1) := by decide +kernel
theorem dX10_isOpen_2 : decode cX10_isOpen 2 = .ok (.putfield 100, 3) := by decide +kernel
theorem dX10_isOpen_5 : decode cX10_isOpen 5 = .ok (.aload_n 0, 1) := by decide +kernel
theorem dX10_isOpen_6 : decode cX10_isOpen 6 = .ok (.getfield 116, 3) := by decide +kernel
theorem dX10_isOpen_9 : decode cX10_isOpen 9 = .ok (.ireturn, 1) := by decide +kernel
theorem dX10_commitNumber_0 : decode cX10_commitNumber 0 = .ok (.aload_n 0, 1) := by decide +kernel
theorem dX10_commitNumber_1 : decode cX10_commitNumber 1 = .ok (.aload_n 0, 1) := by decide +kernel
theorem dX10_commitNumber_2 : decode cX10_commitNumber 2 = .ok (.getfield 116, 3) := by decide +kernel
theorem dX10_commitNumber_5 : decode cX10_commitNumber 5 = .ok (.ifCond .eq 7, 3) := by decide +kernel
theorem dX10_commitNumber_8 : decode cX10_commitNumber 8 = .ok (.iconst 0, 1) := by decide +kernel
theorem dX10_commitNumber_9 : decode cX10_commitNumber 9 = .ok (.goto 4, 3) := by decide +kernel
theorem dX10_commitNumber_12 : decode cX10_commitNumber 12 = .ok (.iconst 1, 1) := by decide +kernel
theorem dX10_commitNumber_13 : decode cX10_commitNumber 13 = .ok (.putfield 100, 3) := by decide +kernel
theorem dX10_commitNumber_16 : decode cX10_commitNumber 16 = .ok (.aload_n 0, 1) := by decide +kernel
theorem dX10_commitNumber_17 : decode cX10_commitNumber 17 = .ok (.getfield 100, 3) := by decide +kernel
theorem dX10_commitNumber_20 : decode cX10_commitNumber 20 = .ok (.ifCond .le 7, 3) := by decide +kernel
theorem dX10_commitNumber_23 : decode cX10_commitNumber 23 = .ok (.iconst 0, 1) := by decide +kernel
theorem dX10_commitNumber_24 : decode cX10_commitNumber 24 = .ok (.goto 9, 3) := by decide +kernel
theorem dX10_commitNumber_27 : decode cX10_commitNumber 27 = .ok (.aload_n 0, 1) := by decide +kernel
theorem dX10_commitNumber_28 : decode cX10_commitNumber 28 = .ok (.getfield 13, 3) := by decide +kernel
theorem dX10_commitNumber_31 : decode cX10_commitNumber 31 = .ok (.iconst 0, 1) := by decide +kernel
theorem dX10_commitNumber_32 : decode cX10_commitNumber 32 = .ok (.iaload, 1) := by decide +kernel
theorem dX10_commitNumber_33 : decode cX10_commitNumber 33 = .ok (.ireturn, 1) := by decide +kernel
theorem dX10_size_0 : decode cX10_size 0 = .ok (.aload_n 0, 1) := by decide +kernel
theorem dX10_size_1 : decode cX10_size 1 = .ok (.aload_n 0, 1) := by decide +kernel
theorem dX10_size_2 : decode cX10_size 2 = .ok (.getfield 116, 3) := by decide +kernel
theorem dX10_size_5 : decode cX10_size 5 = .ok (.ifCond .eq 7, 3) := by decide +kernel
theorem dX10_size_8 : decode cX10_size 8 = .ok (.iconst 0, 1) := by decide +kernel
theorem dX10_size_9 : decode cX10_size 9 = .ok (.goto 4, 3) := by decide +kernel
theorem dX10_size_12 : decode cX10_size 12 = .ok (.iconst 1, 1) := by decide +kernel
theorem dX10_size_13 : decode cX10_size 13 = .ok (.putfield 100, 3) := by decide +kernel
theorem dX10_size_16 : decode cX10_size 16 = .ok (.iconst 0, 1) := by decide +kernel
theorem dX10_size_17 : decode cX10_size 17 = .ok (.istore_n 1, 1) := by decide +kernel
theorem dX10_size_18 : decode cX10_size 18 = .ok (.iconst 0, 1) := by decide +kernel
theorem dX10_size_19 : decode cX10_size 19 = .ok (.istore_n 2, 1) := by decide +kernel
theorem dX10_size_20 : decode cX10_size 20 = .ok (.iload_n 2, 1) := by decide +kernel
theorem dX10_size_21 : decode cX10_size 21 = .ok (.bipush 64, 2) := by decide +kernel
theorem dX10_size_23 : decode cX10_size 23 = .ok (.if_icmp .ge 26, 3) := by decide +kernel
theorem dX10_size_26 : decode cX10_size 26 = .ok (.iload_n 1, 1) := by decide +kernel
theorem dX10_size_27 : decode cX10_size 27 = .ok (.aload_n 0, 1) := by decide +kernel
theorem dX10_size_28 : decode cX10_size 28 = .ok (.getfield 22, 3) := by decide +kernel
theorem dX10_size_31 : decode cX10_size 31 = .ok (.iload_n 2, 1) := by decide +kernel
theorem dX10_size_32 : decode cX10_size 32 = .ok (.baload, 1) := by decide +kernel
theorem dX10_size_33 : decode cX10_size 33 = .ok (.ifCond .eq 7, 3) := by decide +kernel
theorem dX10_size_36 : decode cX10_size 36 = .ok (.iconst 1, 1) := by decide +kernel
theorem dX10_size_37 : decode cX10_size 37 = .ok (.goto 4, 3) := by decide +kernel
theorem dX10_size_40 : decode cX10_size 40 = .ok (.iconst 0, 1) := by decide +kernel
theorem dX10_size_41 : decode cX10_size 41 = .ok (.iadd, 1) := by decide +kernel
theorem dX10_size_42 : decode cX10_size 42 = .ok (.istore_n 1, 1) := by decide +kernel
theorem dX10_size_43 : decode cX10_size 43 = .ok (.iinc 2 1, 3) := by decide +kernel
theorem dX10_size_46 : decode cX10_size 46 = .ok (.goto (-26), 3) := by decide +kernel
theorem dX10_size_49 : decode cX10_size 49 = .ok (.aload_n 0, 1) := by decide +kernel
theorem dX10_size_50 : decode cX10_size 50 = .ok (.getfield 100, 3) := by decide +kernel
theorem dX10_size_53 : decode cX10_size 53 = .ok (.ifCond .le 7, 3) := by decide +kernel
theorem dX10_size_56 : decode cX10_size 56 = .ok (.iconst 0, 1) := by decide +kernel
theorem dX10_size_57 : decode cX10_size 57 = .ok (.goto 4, 3) := by decide +kernel
theorem dX10_size_60 : decode cX10_size 60 = .ok (.iload_n 1, 1) := by decide +kernel
theorem dX10_size_61 : decode cX10_size 61 = .ok (.ireturn, 1) := by decide +kernel
set_option maxRecDepth 20000 in
theorem ggX10_value_X10_isKey : GoodIn wsX10_value wsX10_isKey := goodIn_r _ [8, 9, 10, 7, 11] (by decide +kernel) (by decide +kernel)
set_option maxRecDepth 20000 in
theorem gX10_value_X10_isKey : GoodIn wsX10_value (va_wsS RX10 143 yX10_isKey wsX10_isKey) := goodIn_app (goodIn_of _ (by decide +kernel)) ggX10_value_X10_isKey
theorem dX10_value_0 : decode cX10_value 0 = .ok (.aload_n 0, 1) := by decide +kernel
theorem dX10_value_1 : decode cX10_value 1 = .ok (.aload_n 0, 1) := by decide +kernel
theorem dX10_value_2 : decode cX10_value 2 = .ok (.getfield 116, 3) := by decide +kernel
theorem dX10_value_5 : decode cX10_value 5 = .ok (.ifCond .ne 7, 3) := by decide +kernel
theorem dX10_value_8 : decode cX10_value 8 = .ok (.iconst 1, 1) := by decide +kernel
theorem dX10_value_9 : decode cX10_value 9 = .ok (.goto 28, 3) := by decide +kernel
theorem dX10_value_12 : decode cX10_value 12 = .ok (.iload_n 1, 1) := by decide +kernel
theorem dX10_value_13 : decode cX10_value 13 = .ok (.invokestatic 143, 3) := by decide +kernel
theorem dX10_value_16 : decode cX10_value 16 = .ok (.ifCond .ne 7, 3) := by decide +kernel
theorem dX10_value_19 : decode cX10_value 19 = .ok (.iconst 2, 1) := by decide +kernel
theorem dX10_value_20 : decode cX10_value 20 = .ok (.goto 17, 3) := by decide +kernel
theorem dX10_value_23 : decode cX10_value 23 = .ok (.aload_n 0, 1) := by decide +kernel
theorem dX10_value_24 : decode cX10_value 24 = .ok (.getfield 22, 3) := by decide +kernel
theorem dX10_value_27 : decode cX10_value 27 = .ok (.iload_n 1, 1) := by decide +kernel
theorem dX10_value_28 : decode cX10_value 28 = .ok (.baload, 1) := by decide +kernel
theorem dX10_value_29 : decode cX10_value 29 = .ok (.ifCond .ne 7, 3) := by decide +kernel
theorem dX10_value_32 : decode cX10_value 32 = .ok (.iconst 3, 1) := by decide +kernel
theorem dX10_value_33 : decode cX10_value 33 = .ok (.goto 4, 3) := by decide +kernel
theorem dX10_value_36 : decode cX10_value 36 = .ok (.iconst 0, 1) := by decide +kernel
theorem dX10_value_37 : decode cX10_value 37 = .ok (.putfield 100, 3) := by decide +kernel
theorem dX10_value_40 : decode cX10_value 40 = .ok (.aload_n 0, 1) := by decide +kernel
theorem dX10_value_41 : decode cX10_value 41 = .ok (.getfield 100, 3) := by decide +kernel
theorem dX10_value_44 : decode cX10_value 44 = .ok (.ifCond .le 7, 3) := by decide +kernel
theorem dX10_value_47 : decode cX10_value 47 = .ok (.iconst 0, 1) := by decide +kernel
theorem dX10_value_48 : decode cX10_value 48 = .ok (.goto 9, 3) := by decide +kernel
theorem dX10_value_51 : decode cX10_value 51 = .ok (.aload_n 0, 1) := by decide +kernel
theorem dX10_value_52 : decode cX10_value 52 = .ok (.getfield 26, 3) := by decide +kernel
theorem dX10_value_55 : decode cX10_value 55 = .ok (.iload_n 1, 1) := by decide +kernel
theorem dX10_value_56 : decode cX10_value 56 = .ok (.iaload, 1) := by decide +kernel
theorem dX10_value_57 : decode cX10_value 57 = .ok (.ireturn, 1) := by decide +kernel
set_option maxRecDepth 20000 in
theorem ggX10_keyAt_X10_fails : GoodIn wsX10_keyAt wsX10_fails := goodIn_r _ [8, 2, 9, 10, 11, 12, 13, 14, 15, 16, 17, 18, 19, 20, 21, 22, 23, 24, 25, 26, 27, 28, 29, 30, 31, 32, 33, 34, 35, 36, 37, 38, 39, 40, 41, 42, 43, 44, 45, 46] (by decide +kernel) (by decide +kernel)
set_option maxRecDepth 20000 in
theorem gX10_keyAt_X10_fails : GoodIn wsX10_keyAt (wsV RX10 136 RX10 yX10_fails wsX10_fails) := goodIn_app (goodIn_of _ (by decide +kernel)) ggX10_keyAt_X10_fails
theorem dX10_keyAt_0 : decode cX10_keyAt 0 = .ok (.aload_n 0, 1) := by decide +kernel
theorem dX10_keyAt_1 : decode cX10_keyAt 1 = .ok (.aload_n 0, 1) := by decide +kernel
theorem dX10_keyAt_2 : decode cX10_keyAt 2 = .ok (.getfield 116, 3) := by decide +kernel
theorem dX10_keyAt_5 : decode cX10_keyAt 5 = .ok (.ifCond .eq 7, 3) := by decide +kernel
theorem dX10_keyAt_8 : decode cX10_keyAt 8 = .ok (.iconst 0, 1) := by decide +kernel
theorem dX10_keyAt_9 : decode cX10_keyAt 9 = .ok (.goto 4, 3) := by decide +kernel
theorem dX10_keyAt_12 : decode cX10_keyAt 12 = .ok (.iconst 1, 1) := by decide +kernel
theorem dX10_keyAt_13 : decode cX10_keyAt 13 = .ok (.putfield 100, 3) := by decide +kernel
theorem dX10_keyAt_16 : decode cX10_keyAt 16 = .ok (.aload_n 0, 1) := by decide +kernel
theorem dX10_keyAt_17 : decode cX10_keyAt 17 = .ok (.getfield 100, 3) := by decide +kernel
theorem dX10_keyAt_20 : decode cX10_keyAt 20 = .ok (.ifCond .le 5, 3) := by decide +kernel
theorem dX10_keyAt_23 : decode cX10_keyAt 23 = .ok (.iconst 0, 1) := by decide +kernel
theorem dX10_keyAt_24 : decode cX10_keyAt 24 = .ok (.ireturn, 1) := by decide +kernel
theorem dX10_keyAt_25 : decode cX10_keyAt 25 = .ok (.iload_n 1, 1) := by decide +kernel
theorem dX10_keyAt_26 : decode cX10_keyAt 26 = .ok (.istore_n 2, 1) := by decide +kernel
theorem dX10_keyAt_27 : decode cX10_keyAt 27 = .ok (.iconst 0, 1) := by decide +kernel
theorem dX10_keyAt_28 : decode cX10_keyAt 28 = .ok (.istore_n 3, 1) := by decide +kernel
theorem dX10_keyAt_29 : decode cX10_keyAt 29 = .ok (.iload_n 3, 1) := by decide +kernel
theorem dX10_keyAt_30 : decode cX10_keyAt 30 = .ok (.bipush 64, 2) := by decide +kernel
theorem dX10_keyAt_32 : decode cX10_keyAt 32 = .ok (.if_icmp .ge 31, 3) := by decide +kernel
theorem dX10_keyAt_35 : decode cX10_keyAt 35 = .ok (.iload_n 2, 1) := by decide +kernel
theorem dX10_keyAt_36 : decode cX10_keyAt 36 = .ok (.ifCond .lt 27, 3) := by decide +kernel
theorem dX10_keyAt_39 : decode cX10_keyAt 39 = .ok (.aload_n 0, 1) := by decide +kernel
theorem dX10_keyAt_40 : decode cX10_keyAt 40 = .ok (.getfield 22, 3) := by decide +kernel
theorem dX10_keyAt_43 : decode cX10_keyAt 43 = .ok (.iload_n 3, 1) := by decide +kernel
theorem dX10_keyAt_44 : decode cX10_keyAt 44 = .ok (.baload, 1) := by decide +kernel
theorem dX10_keyAt_45 : decode cX10_keyAt 45 = .ok (.ifCond .eq 12, 3) := by decide +kernel
theorem dX10_keyAt_48 : decode cX10_keyAt 48 = .ok (.iload_n 2, 1) := by decide +kernel
theorem dX10_keyAt_49 : decode cX10_keyAt 49 = .ok (.ifCond .ne 5, 3) := by decide +kernel
theorem dX10_keyAt_52 : decode cX10_keyAt 52 = .ok (.iload_n 3, 1) := by decide +kernel
theorem dX10_keyAt_53 : decode cX10_keyAt 53 = .ok (.ireturn, 1) := by decide +kernel
theorem dX10_keyAt_54 : decode cX10_keyAt 54 = .ok (.iinc 2 (-1), 3) := by decide +kernel
theorem dX10_keyAt_57 : decode cX10_keyAt 57 = .ok (.iinc 3 1, 3) := by decide +kernel
theorem dX10_keyAt_60 : decode cX10_keyAt 60 = .ok (.goto (-31), 3) := by decide +kernel
theorem dX10_keyAt_63 : decode cX10_keyAt 63 = .ok (.aload_n 0, 1) := by decide +kernel
theorem dX10_keyAt_64 : decode cX10_keyAt 64 = .ok (.iconst 2, 1) := by decide +kernel
theorem dX10_keyAt_65 : decode cX10_keyAt 65 = .ok (.invokevirtual 136, 3) := by decide +kernel
theorem dX10_keyAt_68 : decode cX10_keyAt 68 = .ok (.ireturn, 1) := by decide +kernel
set_option maxRecDepth 20000 in
theorem ggX10_sum_X10_isKey : GoodIn wsX10_sum wsX10_isKey := goodIn_r _ [8, 9, 10, 7, 11] (by decide +kernel) (by decide +kernel)
set_option maxRecDepth 20000 in
theorem gX10_sum_X10_isKey : GoodIn wsX10_sum (va_wsS RX10 143 yX10_isKey wsX10_isKey) := goodIn_app (goodIn_of _ (by decide +kernel)) ggX10_sum_X10_isKey
theorem dX10_sum_0 : decode cX10_sum 0 = .ok (.aload_n 0, 1) := by decide +kernel
theorem dX10_sum_1 : decode cX10_sum 1 = .ok (.aload_n 0, 1) := by decide +kernel
theorem dX10_sum_2 : decode cX10_sum 2 = .ok (.getfield 116, 3) := by decide +kernel
theorem dX10_sum_5 : decode cX10_sum 5 = .ok (.ifCond .ne 7, 3) := by decide +kernel
theorem dX10_sum_8 : decode cX10_sum 8 = .ok (.iconst 1, 1) := by decide +kernel
theorem dX10_sum_9 : decode cX10_sum 9 = .ok (.goto 27, 3) := by decide +kernel
theorem dX10_sum_12 : decode cX10_sum 12 = .ok (.iload_n 1, 1) := by decide +kernel
theorem dX10_sum_13 : decode cX10_sum 13 = .ok (.invokestatic 143, 3) := by decide +kernel
theorem dX10_sum_16 : decode cX10_sum 16 = .ok (.ifCond .eq 15, 3) := by decide +kernel
theorem dX10_sum_19 : decode cX10_sum 19 = .ok (.iload_n 2, 1) := by decide +kernel
theorem dX10_sum_20 : decode cX10_sum 20 = .ok (.invokestatic 143, 3) := by decide +kernel
theorem dX10_sum_23 : decode cX10_sum 23 = .ok (.ifCond .eq 8, 3) := by decide +kernel
theorem dX10_sum_26 : decode cX10_sum 26 = .ok (.iload_n 1, 1) := by decide +kernel
theorem dX10_sum_27 : decode cX10_sum 27 = .ok (.iload_n 2, 1) := by decide +kernel
theorem dX10_sum_28 : decode cX10_sum 28 = .ok (.if_icmp .le 7, 3) := by decide +kernel
theorem dX10_sum_31 : decode cX10_sum 31 = .ok (.iconst 2, 1) := by decide +kernel
theorem dX10_sum_32 : decode cX10_sum 32 = .ok (.goto 4, 3) := by decide +kernel
theorem dX10_sum_35 : decode cX10_sum 35 = .ok (.iconst 0, 1) := by decide +kernel
theorem dX10_sum_36 : decode cX10_sum 36 = .ok (.putfield 100, 3) := by decide +kernel
theorem dX10_sum_39 : decode cX10_sum 39 = .ok (.iconst 0, 1) := by decide +kernel
theorem dX10_sum_40 : decode cX10_sum 40 = .ok (.istore_n 3, 1) := by decide +kernel
theorem dX10_sum_41 : decode cX10_sum 41 = .ok (.iload_n 1, 1) := by decide +kernel
theorem dX10_sum_42 : decode cX10_sum 42 = .ok (.istore 4, 2) := by decide +kernel
theorem dX10_sum_44 : decode cX10_sum 44 = .ok (.aload_n 0, 1) := by decide +kernel
theorem dX10_sum_45 : decode cX10_sum 45 = .ok (.getfield 100, 3) := by decide +kernel
theorem dX10_sum_48 : decode cX10_sum 48 = .ok (.ifCond .ne 39, 3) := by decide +kernel
theorem dX10_sum_51 : decode cX10_sum 51 = .ok (.iload 4, 2) := by decide +kernel
theorem dX10_sum_53 : decode cX10_sum 53 = .ok (.iload_n 2, 1) := by decide +kernel
theorem dX10_sum_54 : decode cX10_sum 54 = .ok (.if_icmp .gt 33, 3) := by decide +kernel
theorem dX10_sum_57 : decode cX10_sum 57 = .ok (.iload_n 3, 1) := by decide +kernel
theorem dX10_sum_58 : decode cX10_sum 58 = .ok (.aload_n 0, 1) := by decide +kernel
theorem dX10_sum_59 : decode cX10_sum 59 = .ok (.getfield 22, 3) := by decide +kernel
theorem dX10_sum_62 : decode cX10_sum 62 = .ok (.iload 4, 2) := by decide +kernel
theorem dX10_sum_64 : decode cX10_sum 64 = .ok (.baload, 1) := by decide +kernel
theorem dX10_sum_65 : decode cX10_sum 65 = .ok (.ifCond .eq 13, 3) := by decide +kernel
theorem dX10_sum_68 : decode cX10_sum 68 = .ok (.aload_n 0, 1) := by decide +kernel
theorem dX10_sum_69 : decode cX10_sum 69 = .ok (.getfield 26, 3) := by decide +kernel
theorem dX10_sum_72 : decode cX10_sum 72 = .ok (.iload 4, 2) := by decide +kernel
theorem dX10_sum_74 : decode cX10_sum 74 = .ok (.iaload, 1) := by decide +kernel
theorem dX10_sum_75 : decode cX10_sum 75 = .ok (.goto 4, 3) := by decide +kernel
theorem dX10_sum_78 : decode cX10_sum 78 = .ok (.iconst 0, 1) := by decide +kernel
theorem dX10_sum_79 : decode cX10_sum 79 = .ok (.iadd, 1) := by decide +kernel
theorem dX10_sum_80 : decode cX10_sum 80 = .ok (.istore_n 3, 1) := by decide +kernel
theorem dX10_sum_81 : decode cX10_sum 81 = .ok (.iinc 4 1, 3) := by decide +kernel
theorem dX10_sum_84 : decode cX10_sum 84 = .ok (.goto (-40), 3) := by decide +kernel
theorem dX10_sum_87 : decode cX10_sum 87 = .ok (.iload_n 3, 1) := by decide +kernel
theorem dX10_sum_88 : decode cX10_sum 88 = .ok (.ireturn, 1) := by decide +kernel
set_option maxRecDepth 20000 in
theorem ggX10_pageBlock_X10_in : GoodIn wsX10_pageBlock wsX10_in := goodIn_r _ [7] (by decide +kernel) (by decide +kernel)
set_option maxRecDepth 20000 in
theorem gX10_pageBlock_X10_in : GoodIn wsX10_pageBlock (va_wsS RX10 104 yX10_in wsX10_in) := goodIn_app (goodIn_of _ (by decide +kernel)) ggX10_pageBlock_X10_in
theorem dX10_pageBlock_0 : decode cX10_pageBlock 0 = .ok (.aload_n 0, 1) := by decide +kernel
theorem dX10_pageBlock_1 : decode cX10_pageBlock 1 = .ok (.aload_n 0, 1) := by decide +kernel
theorem dX10_pageBlock_2 : decode cX10_pageBlock 2 = .ok (.getfield 116, 3) := by decide +kernel
theorem dX10_pageBlock_5 : decode cX10_pageBlock 5 = .ok (.ifCond .ne 7, 3) := by decide +kernel
theorem dX10_pageBlock_8 : decode cX10_pageBlock 8 = .ok (.iconst 1, 1) := by decide +kernel
theorem dX10_pageBlock_9 : decode cX10_pageBlock 9 = .ok (.goto 18, 3) := by decide +kernel
theorem dX10_pageBlock_12 : decode cX10_pageBlock 12 = .ok (.iload_n 1, 1) := by decide +kernel
theorem dX10_pageBlock_13 : decode cX10_pageBlock 13 = .ok (.iconst 0, 1) := by decide +kernel
theorem dX10_pageBlock_14 : decode cX10_pageBlock 14 = .ok (.bipush 7, 2) := by decide +kernel
theorem dX10_pageBlock_16 : decode cX10_pageBlock 16 = .ok (.invokestatic 104, 3) := by decide +kernel
theorem dX10_pageBlock_19 : decode cX10_pageBlock 19 = .ok (.ifCond .ne 7, 3) := by decide +kernel
theorem dX10_pageBlock_22 : decode cX10_pageBlock 22 = .ok (.iconst 2, 1) := by decide +kernel
theorem dX10_pageBlock_23 : decode cX10_pageBlock 23 = .ok (.goto 4, 3) := by decide +kernel
theorem dX10_pageBlock_26 : decode cX10_pageBlock 26 = .ok (.iconst 0, 1) := by decide +kernel
theorem dX10_pageBlock_27 : decode cX10_pageBlock 27 = .ok (.putfield 100, 3) := by decide +kernel
theorem dX10_pageBlock_30 : decode cX10_pageBlock 30 = .ok (.aload_n 0, 1) := by decide +kernel
theorem dX10_pageBlock_31 : decode cX10_pageBlock 31 = .ok (.getfield 100, 3) := by decide +kernel
theorem dX10_pageBlock_34 : decode cX10_pageBlock 34 = .ok (.ifCond .le 7, 3) := by decide +kernel
theorem dX10_pageBlock_37 : decode cX10_pageBlock 37 = .ok (.iconst 0, 1) := by decide +kernel
theorem dX10_pageBlock_38 : decode cX10_pageBlock 38 = .ok (.goto 9, 3) := by decide +kernel
theorem dX10_pageBlock_41 : decode cX10_pageBlock 41 = .ok (.aload_n 0, 1) := by decide +kernel
theorem dX10_pageBlock_42 : decode cX10_pageBlock 42 = .ok (.getfield 19, 3) := by decide +kernel
theorem dX10_pageBlock_45 : decode cX10_pageBlock 45 = .ok (.iload_n 1, 1) := by decide +kernel
theorem dX10_pageBlock_46 : decode cX10_pageBlock 46 = .ok (.iaload, 1) := by decide +kernel
theorem dX10_pageBlock_47 : decode cX10_pageBlock 47 = .ok (.ireturn, 1) := by decide +kernel
set_option maxRecDepth 20000 in
theorem ggX10_freeCount_X10_freeBlocks : GoodIn wsX10_freeCount wsX10_freeBlocks := goodIn_r _ [7, 8, 9, 10, 6, 11, 12, 13, 14, 15, 16, 17, 18, 19, 20, 21, 22, 23, 24, 25, 26, 27, 28, 29, 30, 31, 32, 33, 34, 35, 36, 37, 38, 39, 40, 41, 42, 43, 44, 45, 46, 47, 48, 49, 50, 51, 52, 53, 54, 55, 56] (by decide +kernel) (by decide +kernel)
set_option maxRecDepth 20000 in
theorem gX10_freeCount_X10_freeBlocks : GoodIn wsX10_freeCount (wsV RX10 238 RX10 yX10_freeBlocks wsX10_freeBlocks) := goodIn_app (goodIn_of _ (by decide +kernel)) ggX10_freeCount_X10_freeBlocks
theorem dX10_freeCount_0 : decode cX10_freeCount 0 = .ok (.aload_n 0, 1) := by decide +kernel
theorem dX10_freeCount_1 : decode cX10_freeCount 1 = .ok (.aload_n 0, 1) := by decide +kernel
theorem dX10_freeCount_2 : decode cX10_freeCount 2 = .ok (.getfield 116, 3) := by decide +kernel
theorem dX10_freeCount_5 : decode cX10_freeCount 5 = .ok (.ifCond .eq 7, 3) := by decide +kernel
theorem dX10_freeCount_8 : decode cX10_freeCount 8 = .ok (.iconst 0, 1) := by decide +kernel
theorem dX10_freeCount_9 : decode cX10_freeCount 9 = .ok (.goto 4, 3) := by decide +kernel
theorem dX10_freeCount_12 : decode cX10_freeCount 12 = .ok (.iconst 1, 1) := by decide +kernel
theorem dX10_freeCount_13 : decode cX10_freeCount 13 = .ok (.putfield 100, 3) := by decide +kernel
theorem dX10_freeCount_16 : decode cX10_freeCount 16 = .ok (.aload_n 0, 1) := by decide +kernel
theorem dX10_freeCount_17 : decode cX10_freeCount 17 = .ok (.getfield 100, 3) := by decide +kernel
theorem dX10_freeCount_20 : decode cX10_freeCount 20 = .ok (.ifCond .le 7, 3) := by decide +kernel
theorem dX10_freeCount_23 : decode cX10_freeCount 23 = .ok (.iconst 0, 1) := by decide +kernel
theorem dX10_freeCount_24 : decode cX10_freeCount 24 = .ok (.goto 7, 3) := by decide +kernel
theorem dX10_freeCount_27 : decode cX10_freeCount 27 = .ok (.aload_n 0, 1) := by decide +kernel
theorem dX10_freeCount_28 : decode cX10_freeCount 28 = .ok (.invokevirtual 238, 3) := by decide +kernel
theorem dX10_freeCount_31 : decode cX10_freeCount 31 = .ok (.ireturn, 1) := by decide +kernel
set_option maxRecDepth 20000 in
theorem ggX10_freeBlock_X10_isFree : GoodIn wsX10_freeBlock wsX10_isFree := goodIn_r _ [7, 8, 9, 10, 11, 6, 12, 13, 14, 19, 20, 21, 22, 23, 24, 25, 26, 27, 28, 29, 30, 31, 32, 33, 34, 35, 36, 37, 38, 39, 40, 41, 42, 43, 44, 45, 46, 47, 48, 49, 50, 51, 52, 53, 54, 55, 56] (by decide +kernel) (by decide +kernel)
set_option maxRecDepth 20000 in
theorem gX10_freeBlock_X10_isFree : GoodIn wsX10_freeBlock (wsV RX10 224 RX10 yX10_isFree wsX10_isFree) := goodIn_app (goodIn_of _ (by decide +kernel)) ggX10_freeBlock_X10_isFree
set_option maxRecDepth 20000 in
theorem ggX10_freeBlock_X10_fails : GoodIn wsX10_freeBlock wsX10_fails := goodIn_r _ [18, 2, 19, 20, 21, 22, 23, 24, 25, 26, 27, 28, 29, 30, 31, 32, 33, 34, 35, 36, 37, 38, 39, 40, 41, 42, 43, 44, 45, 46, 47, 48, 49, 50, 51, 52, 53, 54, 55, 56] (by decide +kernel) (by decide +kernel)
set_option maxRecDepth 20000 in
theorem gX10_freeBlock_X10_fails : GoodIn wsX10_freeBlock (wsV RX10 136 RX10 yX10_fails wsX10_fails) := goodIn_app (goodIn_of _ (by decide +kernel)) ggX10_freeBlock_X10_fails
theorem dX10_freeBlock_0 : decode cX10_freeBlock 0 = .ok (.aload_n 0, 1) := by decide +kernel
theorem dX10_freeBlock_1 : decode cX10_freeBlock 1 = .ok (.aload_n 0, 1) := by decide +kernel
theorem dX10_freeBlock_2 : decode cX10_freeBlock 2 = .ok (.getfield 116, 3) := by decide +kernel
theorem dX10_freeBlock_5 : decode cX10_freeBlock 5 = .ok (.ifCond .eq 7, 3) := by decide +kernel
theorem dX10_freeBlock_8 : decode cX10_freeBlock 8 = .ok (.iconst 0, 1) := by decide +kernel
theorem dX10_freeBlock_9 : decode cX10_freeBlock 9 = .ok (.goto 4, 3) := by decide +kernel
theorem dX10_freeBlock_12 : decode cX10_freeBlock 12 = .ok (.iconst 1, 1) := by decide +kernel
theorem dX10_freeBlock_13 : decode cX10_freeBlock 13 = .ok (.putfield 100, 3) := by decide +kernel
theorem dX10_freeBlock_16 : decode cX10_freeBlock 16 = .ok (.aload_n 0, 1) := by decide +kernel
theorem dX10_freeBlock_17 : decode cX10_freeBlock 17 = .ok (.getfield 100, 3) := by decide +kernel
theorem dX10_freeBlock_20 : decode cX10_freeBlock 20 = .ok (.ifCond .le 5, 3) := by decide +kernel
theorem dX10_freeBlock_23 : decode cX10_freeBlock 23 = .ok (.iconst 0, 1) := by decide +kernel
theorem dX10_freeBlock_24 : decode cX10_freeBlock 24 = .ok (.ireturn, 1) := by decide +kernel
theorem dX10_freeBlock_25 : decode cX10_freeBlock 25 = .ok (.iload_n 1, 1) := by decide +kernel
theorem dX10_freeBlock_26 : decode cX10_freeBlock 26 = .ok (.istore_n 2, 1) := by decide +kernel
theorem dX10_freeBlock_27 : decode cX10_freeBlock 27 = .ok (.iconst 2, 1) := by decide +kernel
theorem dX10_freeBlock_28 : decode cX10_freeBlock 28 = .ok (.istore_n 3, 1) := by decide +kernel
theorem dX10_freeBlock_29 : decode cX10_freeBlock 29 = .ok (.iload_n 3, 1) := by decide +kernel
theorem dX10_freeBlock_30 : decode cX10_freeBlock 30 = .ok (.bipush 32, 2) := by decide +kernel
theorem dX10_freeBlock_32 : decode cX10_freeBlock 32 = .ok (.if_icmp .ge 30, 3) := by decide +kernel
theorem dX10_freeBlock_35 : decode cX10_freeBlock 35 = .ok (.iload_n 2, 1) := by decide +kernel
theorem dX10_freeBlock_36 : decode cX10_freeBlock 36 = .ok (.ifCond .lt 26, 3) := by decide +kernel
theorem dX10_freeBlock_39 : decode cX10_freeBlock 39 = .ok (.aload_n 0, 1) := by decide +kernel
theorem dX10_freeBlock_40 : decode cX10_freeBlock 40 = .ok (.iload_n 3, 1) := by decide +kernel
theorem dX10_freeBlock_41 : decode cX10_freeBlock 41 = .ok (.invokevirtual 224, 3) := by decide +kernel
theorem dX10_freeBlock_44 : decode cX10_freeBlock 44 = .ok (.ifCond .eq 12, 3) := by decide +kernel
theorem dX10_freeBlock_47 : decode cX10_freeBlock 47 = .ok (.iload_n 2, 1) := by decide +kernel
theorem dX10_freeBlock_48 : decode cX10_freeBlock 48 = .ok (.ifCond .ne 5, 3) := by decide +kernel
theorem dX10_freeBlock_51 : decode cX10_freeBlock 51 = .ok (.iload_n 3, 1) := by decide +kernel
theorem dX10_freeBlock_52 : decode cX10_freeBlock 52 = .ok (.ireturn, 1) := by decide +kernel
theorem dX10_freeBlock_53 : decode cX10_freeBlock 53 = .ok (.iinc 2 (-1), 3) := by decide +kernel
theorem dX10_freeBlock_56 : decode cX10_freeBlock 56 = .ok (.iinc 3 1, 3) := by decide +kernel
theorem dX10_freeBlock_59 : decode cX10_freeBlock 59 = .ok (.goto (-30), 3) := by decide +kernel
theorem dX10_freeBlock_62 : decode cX10_freeBlock 62 = .ok (.aload_n 0, 1) := by decide +kernel
theorem dX10_freeBlock_63 : decode cX10_freeBlock 63 = .ok (.iconst 2, 1) := by decide +kernel
theorem dX10_freeBlock_64 : decode cX10_freeBlock 64 = .ok (.invokevirtual 136, 3) := by decide +kernel
theorem dX10_freeBlock_67 : decode cX10_freeBlock 67 = .ok (.ireturn, 1) := by decide +kernel
set_option maxRecDepth 20000 in
theorem ggX10_isWrongPage_X10_at : GoodIn wsX10_isWrongPage wsX10_at := goodIn_r _ [7, 8, 9, 10, 11, 12, 13, 14, 15, 16, 17, 18, 19, 20, 21, 22, 23, 24, 25, 26, 27, 28, 29, 30, 31, 32, 33, 34, 35, 36, 37, 38, 39, 40, 41, 42, 43, 44, 45, 46] (by decide +kernel) (by decide +kernel)
set_option maxRecDepth 20000 in
theorem gX10_isWrongPage_X10_at : GoodIn wsX10_isWrongPage (wsV RX10 108 RX10 yX10_at wsX10_at) := goodIn_app (goodIn_of _ (by decide +kernel)) ggX10_isWrongPage_X10_at
theorem dX10_isWrongPage_0 : decode cX10_isWrongPage 0 = .ok (.aload_n 0, 1) := by decide +kernel
theorem dX10_isWrongPage_1 : decode cX10_isWrongPage 1 = .ok (.iload_n 2, 1) := by decide +kernel
theorem dX10_isWrongPage_2 : decode cX10_isWrongPage 2 = .ok (.iconst 0, 1) := by decide +kernel
theorem dX10_isWrongPage_3 : decode cX10_isWrongPage 3 = .ok (.invokevirtual 108, 3) := by decide +kernel
theorem dX10_isWrongPage_6 : decode cX10_isWrongPage 6 = .ok (.iconst 3, 1) := by decide +kernel
theorem dX10_isWrongPage_7 : decode cX10_isWrongPage 7 = .ok (.if_icmp .ne 13, 3) := by decide +kernel
theorem dX10_isWrongPage_10 : decode cX10_isWrongPage 10 = .ok (.aload_n 0, 1) := by decide +kernel
theorem dX10_isWrongPage_11 : decode cX10_isWrongPage 11 = .ok (.iload_n 2, 1) := by decide +kernel
theorem dX10_isWrongPage_12 : decode cX10_isWrongPage 12 = .ok (.iconst 2, 1) := by decide +kernel
theorem dX10_isWrongPage_13 : decode cX10_isWrongPage 13 = .ok (.invokevirtual 108, 3) := by decide +kernel
theorem dX10_isWrongPage_16 : decode cX10_isWrongPage 16 = .ok (.iload_n 1, 1) := by decide +kernel
theorem dX10_isWrongPage_17 : decode cX10_isWrongPage 17 = .ok (.if_icmp .eq 7, 3) := by decide +kernel
theorem dX10_isWrongPage_20 : decode cX10_isWrongPage 20 = .ok (.iconst 1, 1) := by decide +kernel
theorem dX10_isWrongPage_21 : decode cX10_isWrongPage 21 = .ok (.goto 4, 3) := by decide +kernel
theorem dX10_isWrongPage_24 : decode cX10_isWrongPage 24 = .ok (.iconst 0, 1) := by decide +kernel
theorem dX10_isWrongPage_25 : decode cX10_isWrongPage 25 = .ok (.istore_n 3, 1) := by decide +kernel
theorem dX10_isWrongPage_26 : decode cX10_isWrongPage 26 = .ok (.iconst 0, 1) := by decide +kernel
theorem dX10_isWrongPage_27 : decode cX10_isWrongPage 27 = .ok (.istore 4, 2) := by decide +kernel
theorem dX10_isWrongPage_29 : decode cX10_isWrongPage 29 = .ok (.iload 4, 2) := by decide +kernel
theorem dX10_isWrongPage_31 : decode cX10_isWrongPage 31 = .ok (.bipush 8, 2) := by decide +kernel
theorem dX10_isWrongPage_33 : decode cX10_isWrongPage 33 = .ok (.if_icmp .ge 86, 3) := by decide +kernel
theorem dX10_isWrongPage_36 : decode cX10_isWrongPage 36 = .ok (.iload_n 1, 1) := by decide +kernel
theorem dX10_isWrongPage_37 : decode cX10_isWrongPage 37 = .ok (.bipush 8, 2) := by decide +kernel
theorem dX10_isWrongPage_39 : decode cX10_isWrongPage 39 = .ok (.iload 4, 2) := by decide +kernel
theorem dX10_isWrongPage_41 : decode cX10_isWrongPage 41 = .ok (.imul, 1) := by decide +kernel
theorem dX10_isWrongPage_42 : decode cX10_isWrongPage 42 = .ok (.iadd, 1) := by decide +kernel
theorem dX10_isWrongPage_43 : decode cX10_isWrongPage 43 = .ok (.istore 5, 2) := by decide +kernel
theorem dX10_isWrongPage_45 : decode cX10_isWrongPage 45 = .ok (.aload_n 0, 1) := by decide +kernel
theorem dX10_isWrongPage_46 : decode cX10_isWrongPage 46 = .ok (.iload_n 2, 1) := by decide +kernel
theorem dX10_isWrongPage_47 : decode cX10_isWrongPage 47 = .ok (.iconst 3, 1) := by decide +kernel
theorem dX10_isWrongPage_48 : decode cX10_isWrongPage 48 = .ok (.invokevirtual 108, 3) := by decide +kernel
theorem dX10_isWrongPage_51 : decode cX10_isWrongPage 51 = .ok (.iload 4, 2) := by decide +kernel
theorem dX10_isWrongPage_53 : decode cX10_isWrongPage 53 = .ok (.ishr, 1) := by decide +kernel
theorem dX10_isWrongPage_54 : decode cX10_isWrongPage 54 = .ok (.iconst 1, 1) := by decide +kernel
theorem dX10_isWrongPage_55 : decode cX10_isWrongPage 55 = .ok (.iand, 1) := by decide +kernel
theorem dX10_isWrongPage_56 : decode cX10_isWrongPage 56 = .ok (.iconst 1, 1) := by decide +kernel
theorem dX10_isWrongPage_57 : decode cX10_isWrongPage 57 = .ok (.if_icmp .ne 7, 3) := by decide +kernel
theorem dX10_isWrongPage_60 : decode cX10_isWrongPage 60 = .ok (.iconst 1, 1) := by decide +kernel
theorem dX10_isWrongPage_61 : decode cX10_isWrongPage 61 = .ok (.goto 4, 3) := by decide +kernel
theorem dX10_isWrongPage_64 : decode cX10_isWrongPage 64 = .ok (.iconst 0, 1) := by decide +kernel
theorem dX10_isWrongPage_65 : decode cX10_isWrongPage 65 = .ok (.istore 6, 2) := by decide +kernel
theorem dX10_isWrongPage_67 : decode cX10_isWrongPage 67 = .ok (.iload_n 3, 1) := by decide +kernel
theorem dX10_isWrongPage_68 : decode cX10_isWrongPage 68 = .ok (.ifCond .ne 39, 3) := by decide +kernel
theorem dX10_isWrongPage_71 : decode cX10_isWrongPage 71 = .ok (.iload 6, 2) := by decide +kernel
theorem dX10_isWrongPage_73 : decode cX10_isWrongPage 73 = .ok (.aload_n 0, 1) := by decide +kernel
theorem dX10_isWrongPage_74 : decode cX10_isWrongPage 74 = .ok (.getfield 22, 3) := by decide +kernel
theorem dX10_isWrongPage_77 : decode cX10_isWrongPage 77 = .ok (.iload 5, 2) := by decide +kernel
theorem dX10_isWrongPage_79 : decode cX10_isWrongPage 79 = .ok (.baload, 1) := by decide +kernel
theorem dX10_isWrongPage_80 : decode cX10_isWrongPage 80 = .ok (.if_icmp .ne 27, 3) := by decide +kernel
theorem dX10_isWrongPage_83 : decode cX10_isWrongPage 83 = .ok (.iload 6, 2) := by decide +kernel
theorem dX10_isWrongPage_85 : decode cX10_isWrongPage 85 = .ok (.ifCond .eq 26, 3) := by decide +kernel
theorem dX10_isWrongPage_88 : decode cX10_isWrongPage 88 = .ok (.aload_n 0, 1) := by decide +kernel
theorem dX10_isWrongPage_89 : decode cX10_isWrongPage 89 = .ok (.iload_n 2, 1) := by decide +kernel
theorem dX10_isWrongPage_90 : decode cX10_isWrongPage 90 = .ok (.iconst 4, 1) := by decide +kernel
theorem dX10_isWrongPage_91 : decode cX10_isWrongPage 91 = .ok (.iload 4, 2) := by decide +kernel
theorem dX10_isWrongPage_93 : decode cX10_isWrongPage 93 = .ok (.iadd, 1) := by decide +kernel
theorem dX10_isWrongPage_94 : decode cX10_isWrongPage 94 = .ok (.invokevirtual 108, 3) := by decide +kernel
theorem dX10_isWrongPage_97 : decode cX10_isWrongPage 97 = .ok (.aload_n 0, 1) := by decide +kernel
theorem dX10_isWrongPage_98 : decode cX10_isWrongPage 98 = .ok (.getfield 26, 3) := by decide +kernel
theorem dX10_isWrongPage_101 : decode cX10_isWrongPage 101 = .ok (.iload 5, 2) := by decide +kernel
theorem dX10_isWrongPage_103 : decode cX10_isWrongPage 103 = .ok (.iaload, 1) := by decide +kernel
theorem dX10_isWrongPage_104 : decode cX10_isWrongPage 104 = .ok (.if_icmp .eq 7, 3) := by decide +kernel
theorem dX10_isWrongPage_107 : decode cX10_isWrongPage 107 = .ok (.iconst 1, 1) := by decide +kernel
theorem dX10_isWrongPage_108 : decode cX10_isWrongPage 108 = .ok (.goto 4, 3) := by decide +kernel
theorem dX10_isWrongPage_111 : decode cX10_isWrongPage 111 = .ok (.iconst 0, 1) := by decide +kernel
theorem dX10_isWrongPage_112 : decode cX10_isWrongPage 112 = .ok (.istore_n 3, 1) := by decide +kernel
theorem dX10_isWrongPage_113 : decode cX10_isWrongPage 113 = .ok (.iinc 4 1, 3) := by decide +kernel
theorem dX10_isWrongPage_116 : decode cX10_isWrongPage 116 = .ok (.goto (-87), 3) := by decide +kernel
theorem dX10_isWrongPage_119 : decode cX10_isWrongPage 119 = .ok (.iload_n 3, 1) := by decide +kernel
theorem dX10_isWrongPage_120 : decode cX10_isWrongPage 120 = .ok (.ireturn, 1) := by decide +kernel
set_option maxRecDepth 20000 in
theorem ggX10_isWrong_X10_isUsedBy : GoodIn wsX10_isWrong wsX10_isUsedBy := goodIn_r _ [9, 3, 4, 29, 30, 31, 32, 33, 34, 35, 36, 37, 38, 39, 40, 41, 42, 43, 44, 45, 46, 47, 48, 49, 50, 51, 52, 53, 54, 55, 56, 57, 58, 59, 60, 61, 62, 63, 64, 65, 66] (by decide +kernel) (by decide +kernel)
set_option maxRecDepth 20000 in
theorem gX10_isWrong_X10_isUsedBy : GoodIn wsX10_isWrong (wsV RX10 221 RX10 yX10_isUsedBy wsX10_isUsedBy) := goodIn_app (goodIn_of _ (by decide +kernel)) ggX10_isWrong_X10_isUsedBy
set_option maxRecDepth 20000 in
theorem ggX10_isWrong_X10_valid : GoodIn wsX10_isWrong wsX10_valid := goodIn_r _ [13, 14, 15, 16, 8, 17, 18, 19, 20, 21, 22, 29, 30, 31, 32, 33, 34, 35, 36, 37, 38, 39, 40, 41, 42, 43, 44, 45, 46, 47, 48, 49, 50, 51, 52, 53, 54, 55, 56, 57, 58, 59, 60, 61, 62, 63, 64, 65, 66] (by decide +kernel) (by decide +kernel)
set_option maxRecDepth 20000 in
theorem gX10_isWrong_X10_valid : GoodIn wsX10_isWrong (wsV RX10 251 RX10 yX10_valid wsX10_valid) := goodIn_app (goodIn_of _ (by decide +kernel)) ggX10_isWrong_X10_valid
set_option maxRecDepth 20000 in
theorem ggX10_isWrong_X10_at : GoodIn wsX10_isWrong wsX10_at := goodIn_r _ [17, 18, 29, 30, 31, 32, 33, 34, 35, 36, 37, 38, 39, 40, 41, 42, 43, 44, 45, 46, 47, 48, 49, 50, 51, 52, 53, 54, 55, 56, 57, 58, 59, 60, 61, 62, 63, 64, 65, 66] (by decide +kernel) (by decide +kernel)
set_option maxRecDepth 20000 in
theorem gX10_isWrong_X10_at : GoodIn wsX10_isWrong (wsV RX10 108 RX10 yX10_at wsX10_at) := goodIn_app (goodIn_of _ (by decide +kernel)) ggX10_isWrong_X10_at
set_option maxRecDepth 20000 in
theorem ggX10_isWrong_X10_isWrongPage : GoodIn wsX10_isWrong wsX10_isWrongPage := goodIn_r _ [26, 27, 28, 14, 15, 16, 8, 17, 18, 29, 30, 31, 32, 33, 34, 35, 36, 37, 38, 39, 40, 41, 42, 43, 44, 45, 46, 47, 48, 49, 50, 51, 52, 53, 54, 55, 56, 57, 58, 59, 60, 61, 62, 63, 64, 65, 66] (by decide +kernel) (by decide +kernel)
set_option maxRecDepth 20000 in
theorem gX10_isWrong_X10_isWrongPage : GoodIn wsX10_isWrong (wsV RX10 260 RX10 yX10_isWrongPage wsX10_isWrongPage) := goodIn_app (goodIn_of _ (by decide +kernel)) ggX10_isWrong_X10_isWrongPage
theorem dX10_isWrong_0 : decode cX10_isWrong 0 = .ok (.iload_n 1, 1) := by decide +kernel
theorem dX10_isWrong_1 : decode cX10_isWrong 1 = .ok (.aload_n 0, 1) := by decide +kernel
theorem dX10_isWrong_2 : decode cX10_isWrong 2 = .ok (.getfield 127, 3) := by decide +kernel
theorem dX10_isWrong_5 : decode cX10_isWrong 5 = .ok (.if_icmp .eq 12, 3) := by decide +kernel
theorem dX10_isWrong_8 : decode cX10_isWrong 8 = .ok (.aload_n 0, 1) := by decide +kernel
theorem dX10_isWrong_9 : decode cX10_isWrong 9 = .ok (.iconst 0, 1) := by decide +kernel
theorem dX10_isWrong_10 : decode cX10_isWrong 10 = .ok (.iload_n 1, 1) := by decide +kernel
theorem dX10_isWrong_11 : decode cX10_isWrong 11 = .ok (.invokevirtual 221, 3) := by decide +kernel
theorem dX10_isWrong_14 : decode cX10_isWrong 14 = .ok (.ifCond .eq 7, 3) := by decide +kernel
theorem dX10_isWrong_17 : decode cX10_isWrong 17 = .ok (.iconst 1, 1) := by decide +kernel
theorem dX10_isWrong_18 : decode cX10_isWrong 18 = .ok (.goto 4, 3) := by decide +kernel
theorem dX10_isWrong_21 : decode cX10_isWrong 21 = .ok (.iconst 0, 1) := by decide +kernel
theorem dX10_isWrong_22 : decode cX10_isWrong 22 = .ok (.istore_n 2, 1) := by decide +kernel
theorem dX10_isWrong_23 : decode cX10_isWrong 23 = .ok (.iload_n 2, 1) := by decide +kernel
theorem dX10_isWrong_24 : decode cX10_isWrong 24 = .ok (.ifCond .eq 15, 3) := by decide +kernel
theorem dX10_isWrong_27 : decode cX10_isWrong 27 = .ok (.aload_n 0, 1) := by decide +kernel
theorem dX10_isWrong_28 : decode cX10_isWrong 28 = .ok (.iload_n 1, 1) := by decide +kernel
theorem dX10_isWrong_29 : decode cX10_isWrong 29 = .ok (.invokevirtual 251, 3) := by decide +kernel
theorem dX10_isWrong_32 : decode cX10_isWrong 32 = .ok (.ifCond .ne 7, 3) := by decide +kernel
theorem dX10_isWrong_35 : decode cX10_isWrong 35 = .ok (.iconst 1, 1) := by decide +kernel
theorem dX10_isWrong_36 : decode cX10_isWrong 36 = .ok (.goto 4, 3) := by decide +kernel
theorem dX10_isWrong_39 : decode cX10_isWrong 39 = .ok (.iconst 0, 1) := by decide +kernel
theorem dX10_isWrong_40 : decode cX10_isWrong 40 = .ok (.istore_n 3, 1) := by decide +kernel
theorem dX10_isWrong_41 : decode cX10_isWrong 41 = .ok (.iload_n 1, 1) := by decide +kernel
theorem dX10_isWrong_42 : decode cX10_isWrong 42 = .ok (.aload_n 0, 1) := by decide +kernel
theorem dX10_isWrong_43 : decode cX10_isWrong 43 = .ok (.getfield 127, 3) := by decide +kernel
theorem dX10_isWrong_46 : decode cX10_isWrong 46 = .ok (.if_icmp .ne 53, 3) := by decide +kernel
theorem dX10_isWrong_49 : decode cX10_isWrong 49 = .ok (.iload_n 3, 1) := by decide +kernel
theorem dX10_isWrong_50 : decode cX10_isWrong 50 = .ok (.ifCond .ne 43, 3) := by decide +kernel
theorem dX10_isWrong_53 : decode cX10_isWrong 53 = .ok (.aload_n 0, 1) := by decide +kernel
theorem dX10_isWrong_54 : decode cX10_isWrong 54 = .ok (.iload_n 1, 1) := by decide +kernel
theorem dX10_isWrong_55 : decode cX10_isWrong 55 = .ok (.iconst 0, 1) := by decide +kernel
theorem dX10_isWrong_56 : decode cX10_isWrong 56 = .ok (.invokevirtual 108, 3) := by decide +kernel
theorem dX10_isWrong_59 : decode cX10_isWrong 59 = .ok (.iconst 1, 1) := by decide +kernel
theorem dX10_isWrong_60 : decode cX10_isWrong 60 = .ok (.if_icmp .ne 33, 3) := by decide +kernel
theorem dX10_isWrong_63 : decode cX10_isWrong 63 = .ok (.aload_n 0, 1) := by decide +kernel
theorem dX10_isWrong_64 : decode cX10_isWrong 64 = .ok (.iload_n 1, 1) := by decide +kernel
theorem dX10_isWrong_65 : decode cX10_isWrong 65 = .ok (.iconst 1, 1) := by decide +kernel
theorem dX10_isWrong_66 : decode cX10_isWrong 66 = .ok (.invokevirtual 108, 3) := by decide +kernel
theorem dX10_isWrong_69 : decode cX10_isWrong 69 = .ok (.aload_n 0, 1) := by decide +kernel
theorem dX10_isWrong_70 : decode cX10_isWrong 70 = .ok (.getfield 13, 3) := by decide +kernel
theorem dX10_isWrong_73 : decode cX10_isWrong 73 = .ok (.iconst 0, 1) := by decide +kernel
theorem dX10_isWrong_74 : decode cX10_isWrong 74 = .ok (.iaload, 1) := by decide +kernel
theorem dX10_isWrong_75 : decode cX10_isWrong 75 = .ok (.if_icmp .ne 18, 3) := by decide +kernel
theorem dX10_isWrong_78 : decode cX10_isWrong 78 = .ok (.aload_n 0, 1) := by decide +kernel
theorem dX10_isWrong_79 : decode cX10_isWrong 79 = .ok (.iload_n 1, 1) := by decide +kernel
theorem dX10_isWrong_80 : decode cX10_isWrong 80 = .ok (.iconst 2, 1) := by decide +kernel
theorem dX10_isWrong_81 : decode cX10_isWrong 81 = .ok (.invokevirtual 108, 3) := by decide +kernel
theorem dX10_isWrong_84 : decode cX10_isWrong 84 = .ok (.aload_n 0, 1) := by decide +kernel
theorem dX10_isWrong_85 : decode cX10_isWrong 85 = .ok (.getfield 16, 3) := by decide +kernel
theorem dX10_isWrong_88 : decode cX10_isWrong 88 = .ok (.iconst 0, 1) := by decide +kernel
theorem dX10_isWrong_89 : decode cX10_isWrong 89 = .ok (.iaload, 1) := by decide +kernel
theorem dX10_isWrong_90 : decode cX10_isWrong 90 = .ok (.if_icmp .eq 7, 3) := by decide +kernel
theorem dX10_isWrong_93 : decode cX10_isWrong 93 = .ok (.iconst 1, 1) := by decide +kernel
theorem dX10_isWrong_94 : decode cX10_isWrong 94 = .ok (.goto 4, 3) := by decide +kernel
theorem dX10_isWrong_97 : decode cX10_isWrong 97 = .ok (.iconst 0, 1) := by decide +kernel
theorem dX10_isWrong_98 : decode cX10_isWrong 98 = .ok (.istore_n 3, 1) := by decide +kernel
theorem dX10_isWrong_99 : decode cX10_isWrong 99 = .ok (.iload_n 3, 1) := by decide +kernel
theorem dX10_isWrong_100 : decode cX10_isWrong 100 = .ok (.ifCond .ne 23, 3) := by decide +kernel
theorem dX10_isWrong_103 : decode cX10_isWrong 103 = .ok (.iload_n 1, 1) := by decide +kernel
theorem dX10_isWrong_104 : decode cX10_isWrong 104 = .ok (.aload_n 0, 1) := by decide +kernel
theorem dX10_isWrong_105 : decode cX10_isWrong 105 = .ok (.getfield 16, 3) := by decide +kernel
theorem dX10_isWrong_108 : decode cX10_isWrong 108 = .ok (.iconst 0, 1) := by decide +kernel
theorem dX10_isWrong_109 : decode cX10_isWrong 109 = .ok (.iaload, 1) := by decide +kernel
theorem dX10_isWrong_110 : decode cX10_isWrong 110 = .ok (.if_icmp .ne 17, 3) := by decide +kernel
theorem dX10_isWrong_113 : decode cX10_isWrong 113 = .ok (.aload_n 0, 1) := by decide +kernel
theorem dX10_isWrong_114 : decode cX10_isWrong 114 = .ok (.iload_n 1, 1) := by decide +kernel
theorem dX10_isWrong_115 : decode cX10_isWrong 115 = .ok (.iconst 0, 1) := by decide +kernel
theorem dX10_isWrong_116 : decode cX10_isWrong 116 = .ok (.invokevirtual 108, 3) := by decide +kernel
theorem dX10_isWrong_119 : decode cX10_isWrong 119 = .ok (.iconst 2, 1) := by decide +kernel
theorem dX10_isWrong_120 : decode cX10_isWrong 120 = .ok (.if_icmp .eq 7, 3) := by decide +kernel
theorem dX10_isWrong_123 : decode cX10_isWrong 123 = .ok (.iconst 1, 1) := by decide +kernel
theorem dX10_isWrong_124 : decode cX10_isWrong 124 = .ok (.goto 4, 3) := by decide +kernel
theorem dX10_isWrong_127 : decode cX10_isWrong 127 = .ok (.iconst 0, 1) := by decide +kernel
theorem dX10_isWrong_128 : decode cX10_isWrong 128 = .ok (.istore_n 3, 1) := by decide +kernel
theorem dX10_isWrong_129 : decode cX10_isWrong 129 = .ok (.iconst 0, 1) := by decide +kernel
theorem dX10_isWrong_130 : decode cX10_isWrong 130 = .ok (.istore 4, 2) := by decide +kernel
theorem dX10_isWrong_132 : decode cX10_isWrong 132 = .ok (.iload 4, 2) := by decide +kernel
theorem dX10_isWrong_134 : decode cX10_isWrong 134 = .ok (.bipush 8, 2) := by decide +kernel
theorem dX10_isWrong_136 : decode cX10_isWrong 136 = .ok (.if_icmp .ge 79, 3) := by decide +kernel
theorem dX10_isWrong_139 : decode cX10_isWrong 139 = .ok (.iload_n 3, 1) := by decide +kernel
theorem dX10_isWrong_140 : decode cX10_isWrong 140 = .ok (.ifCond .ne 32, 3) := by decide +kernel
theorem dX10_isWrong_143 : decode cX10_isWrong 143 = .ok (.iload_n 1, 1) := by decide +kernel
theorem dX10_isWrong_144 : decode cX10_isWrong 144 = .ok (.aload_n 0, 1) := by decide +kernel
theorem dX10_isWrong_145 : decode cX10_isWrong 145 = .ok (.getfield 16, 3) := by decide +kernel
theorem dX10_isWrong_148 : decode cX10_isWrong 148 = .ok (.iconst 0, 1) := by decide +kernel
theorem dX10_isWrong_149 : decode cX10_isWrong 149 = .ok (.iaload, 1) := by decide +kernel
theorem dX10_isWrong_150 : decode cX10_isWrong 150 = .ok (.if_icmp .ne 26, 3) := by decide +kernel
theorem dX10_isWrong_153 : decode cX10_isWrong 153 = .ok (.aload_n 0, 1) := by decide +kernel
theorem dX10_isWrong_154 : decode cX10_isWrong 154 = .ok (.iload_n 1, 1) := by decide +kernel
theorem dX10_isWrong_155 : decode cX10_isWrong 155 = .ok (.iconst 4, 1) := by decide +kernel
theorem dX10_isWrong_156 : decode cX10_isWrong 156 = .ok (.iload 4, 2) := by decide +kernel
theorem dX10_isWrong_158 : decode cX10_isWrong 158 = .ok (.iadd, 1) := by decide +kernel
theorem dX10_isWrong_159 : decode cX10_isWrong 159 = .ok (.invokevirtual 108, 3) := by decide +kernel
theorem dX10_isWrong_162 : decode cX10_isWrong 162 = .ok (.aload_n 0, 1) := by decide +kernel
theorem dX10_isWrong_163 : decode cX10_isWrong 163 = .ok (.getfield 19, 3) := by decide +kernel
theorem dX10_isWrong_166 : decode cX10_isWrong 166 = .ok (.iload 4, 2) := by decide +kernel
theorem dX10_isWrong_168 : decode cX10_isWrong 168 = .ok (.iaload, 1) := by decide +kernel
theorem dX10_isWrong_169 : decode cX10_isWrong 169 = .ok (.if_icmp .eq 7, 3) := by decide +kernel
theorem dX10_isWrong_172 : decode cX10_isWrong 172 = .ok (.iconst 1, 1) := by decide +kernel
theorem dX10_isWrong_173 : decode cX10_isWrong 173 = .ok (.goto 4, 3) := by decide +kernel
theorem dX10_isWrong_176 : decode cX10_isWrong 176 = .ok (.iconst 0, 1) := by decide +kernel
theorem dX10_isWrong_177 : decode cX10_isWrong 177 = .ok (.istore_n 3, 1) := by decide +kernel
theorem dX10_isWrong_178 : decode cX10_isWrong 178 = .ok (.iload_n 3, 1) := by decide +kernel
theorem dX10_isWrong_179 : decode cX10_isWrong 179 = .ok (.ifCond .ne 24, 3) := by decide +kernel
theorem dX10_isWrong_182 : decode cX10_isWrong 182 = .ok (.iload_n 1, 1) := by decide +kernel
theorem dX10_isWrong_183 : decode cX10_isWrong 183 = .ok (.aload_n 0, 1) := by decide +kernel
theorem dX10_isWrong_184 : decode cX10_isWrong 184 = .ok (.getfield 19, 3) := by decide +kernel
theorem dX10_isWrong_187 : decode cX10_isWrong 187 = .ok (.iload 4, 2) := by decide +kernel
theorem dX10_isWrong_189 : decode cX10_isWrong 189 = .ok (.iaload, 1) := by decide +kernel
theorem dX10_isWrong_190 : decode cX10_isWrong 190 = .ok (.if_icmp .ne 17, 3) := by decide +kernel
theorem dX10_isWrong_193 : decode cX10_isWrong 193 = .ok (.aload_n 0, 1) := by decide +kernel
theorem dX10_isWrong_194 : decode cX10_isWrong 194 = .ok (.iload 4, 2) := by decide +kernel
theorem dX10_isWrong_196 : decode cX10_isWrong 196 = .ok (.iload_n 1, 1) := by decide +kernel
theorem dX10_isWrong_197 : decode cX10_isWrong 197 = .ok (.invokevirtual 260, 3) := by decide +kernel
theorem dX10_isWrong_200 : decode cX10_isWrong 200 = .ok (.ifCond .eq 7, 3) := by decide +kernel
theorem dX10_isWrong_203 : decode cX10_isWrong 203 = .ok (.iconst 1, 1) := by decide +kernel
theorem dX10_isWrong_204 : decode cX10_isWrong 204 = .ok (.goto 4, 3) := by decide +kernel
theorem dX10_isWrong_207 : decode cX10_isWrong 207 = .ok (.iconst 0, 1) := by decide +kernel
theorem dX10_isWrong_208 : decode cX10_isWrong 208 = .ok (.istore_n 3, 1) := by decide +kernel
theorem dX10_isWrong_209 : decode cX10_isWrong 209 = .ok (.iinc 4 1, 3) := by decide +kernel
theorem dX10_isWrong_212 : decode cX10_isWrong 212 = .ok (.goto (-80), 3) := by decide +kernel
theorem dX10_isWrong_215 : decode cX10_isWrong 215 = .ok (.iload_n 3, 1) := by decide +kernel
theorem dX10_isWrong_216 : decode cX10_isWrong 216 = .ok (.ireturn, 1) := by decide +kernel
set_option maxRecDepth 20000 in
theorem ggX10_wrongBlock_X10_isWrong : GoodIn wsX10_wrongBlock wsX10_isWrong := goodIn_r _ [7, 8, 9, 10, 11, 12, 13, 14, 6, 15, 16, 17, 18, 19, 20, 21, 22, 23, 24, 25, 26, 27, 28, 29, 30, 31, 32, 33, 34, 35, 36, 37, 38, 39, 40, 41, 42, 43, 44, 45, 46, 47, 48, 49, 50, 51, 52, 53, 54, 55, 56, 57, 58, 59, 60, 61, 62, 63, 64, 65, 66, 67, 68, 69, 70, 71, 72] (by decide +kernel) (by decide +kernel)
set_option maxRecDepth 20000 in
theorem gX10_wrongBlock_X10_isWrong : GoodIn wsX10_wrongBlock (wsV RX10 263 RX10 yX10_isWrong wsX10_isWrong) := goodIn_app (goodIn_of _ (by decide +kernel)) ggX10_wrongBlock_X10_isWrong
theorem dX10_wrongBlock_0 : decode cX10_wrongBlock 0 = .ok (.aload_n 0, 1) := by decide +kernel
theorem dX10_wrongBlock_1 : decode cX10_wrongBlock 1 = .ok (.aload_n 0, 1) := by decide +kernel
theorem dX10_wrongBlock_2 : decode cX10_wrongBlock 2 = .ok (.getfield 116, 3) := by decide +kernel
theorem dX10_wrongBlock_5 : decode cX10_wrongBlock 5 = .ok (.ifCond .eq 7, 3) := by decide +kernel
theorem dX10_wrongBlock_8 : decode cX10_wrongBlock 8 = .ok (.iconst 0, 1) := by decide +kernel
theorem dX10_wrongBlock_9 : decode cX10_wrongBlock 9 = .ok (.goto 4, 3) := by decide +kernel
theorem dX10_wrongBlock_12 : decode cX10_wrongBlock 12 = .ok (.iconst 1, 1) := by decide +kernel
theorem dX10_wrongBlock_13 : decode cX10_wrongBlock 13 = .ok (.putfield 100, 3) := by decide +kernel
theorem dX10_wrongBlock_16 : decode cX10_wrongBlock 16 = .ok (.iconst 0, 1) := by decide +kernel
theorem dX10_wrongBlock_17 : decode cX10_wrongBlock 17 = .ok (.istore_n 1, 1) := by decide +kernel
theorem dX10_wrongBlock_18 : decode cX10_wrongBlock 18 = .ok (.aload_n 0, 1) := by decide +kernel
theorem dX10_wrongBlock_19 : decode cX10_wrongBlock 19 = .ok (.getfield 100, 3) := by decide +kernel
theorem dX10_wrongBlock_22 : decode cX10_wrongBlock 22 = .ok (.ifCond .ne 25, 3) := by decide +kernel
theorem dX10_wrongBlock_25 : decode cX10_wrongBlock 25 = .ok (.iload_n 1, 1) := by decide +kernel
theorem dX10_wrongBlock_26 : decode cX10_wrongBlock 26 = .ok (.bipush 32, 2) := by decide +kernel
theorem dX10_wrongBlock_28 : decode cX10_wrongBlock 28 = .ok (.if_icmp .ge 19, 3) := by decide +kernel
theorem dX10_wrongBlock_31 : decode cX10_wrongBlock 31 = .ok (.aload_n 0, 1) := by decide +kernel
theorem dX10_wrongBlock_32 : decode cX10_wrongBlock 32 = .ok (.iload_n 1, 1) := by decide +kernel
theorem dX10_wrongBlock_33 : decode cX10_wrongBlock 33 = .ok (.invokevirtual 263, 3) := by decide +kernel
theorem dX10_wrongBlock_36 : decode cX10_wrongBlock 36 = .ok (.ifCond .eq 5, 3) := by decide +kernel
theorem dX10_wrongBlock_39 : decode cX10_wrongBlock 39 = .ok (.iload_n 1, 1) := by decide +kernel
theorem dX10_wrongBlock_40 : decode cX10_wrongBlock 40 = .ok (.ireturn, 1) := by decide +kernel
theorem dX10_wrongBlock_41 : decode cX10_wrongBlock 41 = .ok (.iinc 1 1, 3) := by decide +kernel
theorem dX10_wrongBlock_44 : decode cX10_wrongBlock 44 = .ok (.goto (-26), 3) := by decide +kernel
theorem dX10_wrongBlock_47 : decode cX10_wrongBlock 47 = .ok (.aload_n 0, 1) := by decide +kernel
theorem dX10_wrongBlock_48 : decode cX10_wrongBlock 48 = .ok (.getfield 100, 3) := by decide +kernel
theorem dX10_wrongBlock_51 : decode cX10_wrongBlock 51 = .ok (.ifCond .le 7, 3) := by decide +kernel
theorem dX10_wrongBlock_54 : decode cX10_wrongBlock 54 = .ok (.iconst 0, 1) := by decide +kernel
theorem dX10_wrongBlock_55 : decode cX10_wrongBlock 55 = .ok (.goto 4, 3) := by decide +kernel
theorem dX10_wrongBlock_58 : decode cX10_wrongBlock 58 = .ok (.iconst (-1), 1) := by decide +kernel
theorem dX10_wrongBlock_59 : decode cX10_wrongBlock 59 = .ok (.ireturn, 1) := by decide +kernel
theorem dX10_logSize_0 : decode cX10_logSize 0 = .ok (.aload_n 0, 1) := by decide +kernel
theorem dX10_logSize_1 : decode cX10_logSize 1 = .ok (.iconst 0, 1) := by decide +kernel
theorem dX10_logSize_2 : decode cX10_logSize 2 = .ok (.putfield 100, 3) := by decide +kernel
theorem dX10_logSize_5 : decode cX10_logSize 5 = .ok (.aload_n 0, 1) := by decide +kernel
theorem dX10_logSize_6 : decode cX10_logSize 6 = .ok (.getfield 230, 3) := by decide +kernel
theorem dX10_logSize_9 : decode cX10_logSize 9 = .ok (.ireturn, 1) := by decide +kernel
set_option maxRecDepth 20000 in
theorem ggX10_logged_X10_in : GoodIn wsX10_logged wsX10_in := goodIn_r _ [7] (by decide +kernel) (by decide +kernel)
set_option maxRecDepth 20000 in
theorem gX10_logged_X10_in : GoodIn wsX10_logged (va_wsS RX10 104 yX10_in wsX10_in) := goodIn_app (goodIn_of _ (by decide +kernel)) ggX10_logged_X10_in
theorem dX10_logged_0 : decode cX10_logged 0 = .ok (.aload_n 0, 1) := by decide +kernel
theorem dX10_logged_1 : decode cX10_logged 1 = .ok (.iload_n 1, 1) := by decide +kernel
theorem dX10_logged_2 : decode cX10_logged 2 = .ok (.iconst 0, 1) := by decide +kernel
theorem dX10_logged_3 : decode cX10_logged 3 = .ok (.aload_n 0, 1) := by decide +kernel
theorem dX10_logged_4 : decode cX10_logged 4 = .ok (.getfield 230, 3) := by decide +kernel
theorem dX10_logged_7 : decode cX10_logged 7 = .ok (.iconst 1, 1) := by decide +kernel
theorem dX10_logged_8 : decode cX10_logged 8 = .ok (.isub, 1) := by decide +kernel
theorem dX10_logged_9 : decode cX10_logged 9 = .ok (.invokestatic 104, 3) := by decide +kernel
theorem dX10_logged_12 : decode cX10_logged 12 = .ok (.ifCond .ne 7, 3) := by decide +kernel
theorem dX10_logged_15 : decode cX10_logged 15 = .ok (.iconst 1, 1) := by decide +kernel
theorem dX10_logged_16 : decode cX10_logged 16 = .ok (.goto 17, 3) := by decide +kernel
theorem dX10_logged_19 : decode cX10_logged 19 = .ok (.iload_n 2, 1) := by decide +kernel
theorem dX10_logged_20 : decode cX10_logged 20 = .ok (.iconst 0, 1) := by decide +kernel
theorem dX10_logged_21 : decode cX10_logged 21 = .ok (.iconst 3, 1) := by decide +kernel
theorem dX10_logged_22 : decode cX10_logged 22 = .ok (.invokestatic 104, 3) := by decide +kernel
theorem dX10_logged_25 : decode cX10_logged 25 = .ok (.ifCond .ne 7, 3) := by decide +kernel
theorem dX10_logged_28 : decode cX10_logged 28 = .ok (.iconst 2, 1) := by decide +kernel
theorem dX10_logged_29 : decode cX10_logged 29 = .ok (.goto 4, 3) := by decide +kernel
theorem dX10_logged_32 : decode cX10_logged 32 = .ok (.iconst 0, 1) := by decide +kernel
theorem dX10_logged_33 : decode cX10_logged 33 = .ok (.putfield 100, 3) := by decide +kernel
theorem dX10_logged_36 : decode cX10_logged 36 = .ok (.aload_n 0, 1) := by decide +kernel
theorem dX10_logged_37 : decode cX10_logged 37 = .ok (.getfield 100, 3) := by decide +kernel
theorem dX10_logged_40 : decode cX10_logged 40 = .ok (.ifCond .le 7, 3) := by decide +kernel
theorem dX10_logged_43 : decode cX10_logged 43 = .ok (.iconst 0, 1) := by decide +kernel
theorem dX10_logged_44 : decode cX10_logged 44 = .ok (.goto 13, 3) := by decide +kernel
theorem dX10_logged_47 : decode cX10_logged 47 = .ok (.aload_n 0, 1) := by decide +kernel
theorem dX10_logged_48 : decode cX10_logged 48 = .ok (.getfield 66, 3) := by decide +kernel
theorem dX10_logged_51 : decode cX10_logged 51 = .ok (.iconst 4, 1) := by decide +kernel
theorem dX10_logged_52 : decode cX10_logged 52 = .ok (.iload_n 1, 1) := by decide +kernel
theorem dX10_logged_53 : decode cX10_logged 53 = .ok (.imul, 1) := by decide +kernel
theorem dX10_logged_54 : decode cX10_logged 54 = .ok (.iload_n 2, 1) := by decide +kernel
theorem dX10_logged_55 : decode cX10_logged 55 = .ok (.iadd, 1) := by decide +kernel
theorem dX10_logged_56 : decode cX10_logged 56 = .ok (.iaload, 1) := by decide +kernel
theorem dX10_logged_57 : decode cX10_logged 57 = .ok (.ireturn, 1) := by decide +kernel
set_option maxRecDepth 20000 in
theorem ggX10_statistic_X10_in : GoodIn wsX10_statistic wsX10_in := goodIn_r _ [6] (by decide +kernel) (by decide +kernel)
set_option maxRecDepth 20000 in
theorem gX10_statistic_X10_in : GoodIn wsX10_statistic (va_wsS RX10 104 yX10_in wsX10_in) := goodIn_app (goodIn_of _ (by decide +kernel)) ggX10_statistic_X10_in
theorem dX10_statistic_0 : decode cX10_statistic 0 = .ok (.aload_n 0, 1) := by decide +kernel
theorem dX10_statistic_1 : decode cX10_statistic 1 = .ok (.iload_n 1, 1) := by decide +kernel
theorem dX10_statistic_2 : decode cX10_statistic 2 = .ok (.iconst 0, 1) := by decide +kernel
theorem dX10_statistic_3 : decode cX10_statistic 3 = .ok (.bipush 7, 2) := by decide +kernel
theorem dX10_statistic_5 : decode cX10_statistic 5 = .ok (.invokestatic 104, 3) := by decide +kernel
theorem dX10_statistic_8 : decode cX10_statistic 8 = .ok (.ifCond .eq 7, 3) := by decide +kernel
theorem dX10_statistic_11 : decode cX10_statistic 11 = .ok (.iconst 0, 1) := by decide +kernel
theorem dX10_statistic_12 : decode cX10_statistic 12 = .ok (.goto 4, 3) := by decide +kernel
theorem dX10_statistic_15 : decode cX10_statistic 15 = .ok (.iconst 1, 1) := by decide +kernel
theorem dX10_statistic_16 : decode cX10_statistic 16 = .ok (.putfield 100, 3) := by decide +kernel
theorem dX10_statistic_19 : decode cX10_statistic 19 = .ok (.aload_n 0, 1) := by decide +kernel
theorem dX10_statistic_20 : decode cX10_statistic 20 = .ok (.getfield 100, 3) := by decide +kernel
theorem dX10_statistic_23 : decode cX10_statistic 23 = .ok (.ifCond .le 7, 3) := by decide +kernel
theorem dX10_statistic_26 : decode cX10_statistic 26 = .ok (.iconst 0, 1) := by decide +kernel
theorem dX10_statistic_27 : decode cX10_statistic 27 = .ok (.goto 9, 3) := by decide +kernel
theorem dX10_statistic_30 : decode cX10_statistic 30 = .ok (.aload_n 0, 1) := by decide +kernel
theorem dX10_statistic_31 : decode cX10_statistic 31 = .ok (.getfield 69, 3) := by decide +kernel
theorem dX10_statistic_34 : decode cX10_statistic 34 = .ok (.iload_n 1, 1) := by decide +kernel
theorem dX10_statistic_35 : decode cX10_statistic 35 = .ok (.iaload, 1) := by decide +kernel
theorem dX10_statistic_36 : decode cX10_statistic 36 = .ok (.ireturn, 1) := by decide +kernel
set_option maxRecDepth 20000 in
theorem ggX10_pin_X10_fails : GoodIn wsX10_pin wsX10_fails := goodIn_r _ [17, 1, 18, 19, 20, 21, 22, 23, 24, 25, 26, 27, 28, 29, 30, 31, 32, 33, 34, 35, 36, 37, 38, 39, 40, 41, 42, 43, 44, 45, 46, 47, 48, 49, 50, 51, 52, 53, 54, 55] (by decide +kernel) (by decide +kernel)
set_option maxRecDepth 20000 in
theorem gX10_pin_X10_fails : GoodIn wsX10_pin (wsV RX10 136 RX10 yX10_fails wsX10_fails) := goodIn_app (goodIn_of _ (by decide +kernel)) ggX10_pin_X10_fails
theorem dX10_pin_0 : decode cX10_pin 0 = .ok (.aload_n 0, 1) := by decide +kernel
theorem dX10_pin_1 : decode cX10_pin 1 = .ok (.iconst 0, 1) := by decide +kernel
theorem dX10_pin_2 : decode cX10_pin 2 = .ok (.putfield 100, 3) := by decide +kernel
theorem dX10_pin_5 : decode cX10_pin 5 = .ok (.iconst 0, 1) := by decide +kernel
theorem dX10_pin_6 : decode cX10_pin 6 = .ok (.istore_n 1, 1) := by decide +kernel
theorem dX10_pin_7 : decode cX10_pin 7 = .ok (.aload_n 0, 1) := by decide +kernel
theorem dX10_pin_8 : decode cX10_pin 8 = .ok (.getfield 116, 3) := by decide +kernel
theorem dX10_pin_11 : decode cX10_pin 11 = .ok (.ifCond .eq 120, 3) := by decide +kernel
theorem dX10_pin_14 : decode cX10_pin 14 = .ok (.iload_n 1, 1) := by decide +kernel
theorem dX10_pin_15 : decode cX10_pin 15 = .ok (.iconst 2, 1) := by decide +kernel
theorem dX10_pin_16 : decode cX10_pin 16 = .ok (.if_icmp .ge 115, 3) := by decide +kernel
theorem dX10_pin_19 : decode cX10_pin 19 = .ok (.aload_n 0, 1) := by decide +kernel
theorem dX10_pin_20 : decode cX10_pin 20 = .ok (.getfield 29, 3) := by decide +kernel
theorem dX10_pin_23 : decode cX10_pin 23 = .ok (.iload_n 1, 1) := by decide +kernel
theorem dX10_pin_24 : decode cX10_pin 24 = .ok (.baload, 1) := by decide +kernel
theorem dX10_pin_25 : decode cX10_pin 25 = .ok (.ifCond .ne 100, 3) := by decide +kernel
theorem dX10_pin_28 : decode cX10_pin 28 = .ok (.aload_n 0, 1) := by decide +kernel
theorem dX10_pin_29 : decode cX10_pin 29 = .ok (.getfield 29, 3) := by decide +kernel
theorem dX10_pin_32 : decode cX10_pin 32 = .ok (.iload_n 1, 1) := by decide +kernel
theorem dX10_pin_33 : decode cX10_pin 33 = .ok (.iconst 1, 1) := by decide +kernel
theorem dX10_pin_34 : decode cX10_pin 34 = .ok (.bastore, 1) := by decide +kernel
theorem dX10_pin_35 : decode cX10_pin 35 = .ok (.aload_n 0, 1) := by decide +kernel
theorem dX10_pin_36 : decode cX10_pin 36 = .ok (.getfield 13, 3) := by decide +kernel
theorem dX10_pin_39 : decode cX10_pin 39 = .ok (.iconst 1, 1) := by decide +kernel
theorem dX10_pin_40 : decode cX10_pin 40 = .ok (.iload_n 1, 1) := by decide +kernel
theorem dX10_pin_41 : decode cX10_pin 41 = .ok (.iadd, 1) := by decide +kernel
theorem dX10_pin_42 : decode cX10_pin 42 = .ok (.aload_n 0, 1) := by decide +kernel
theorem dX10_pin_43 : decode cX10_pin 43 = .ok (.getfield 13, 3) := by decide +kernel
theorem dX10_pin_46 : decode cX10_pin 46 = .ok (.iconst 0, 1) := by decide +kernel
theorem dX10_pin_47 : decode cX10_pin 47 = .ok (.iaload, 1) := by decide +kernel
theorem dX10_pin_48 : decode cX10_pin 48 = .ok (.iastore, 1) := by decide +kernel
theorem dX10_pin_49 : decode cX10_pin 49 = .ok (.aload_n 0, 1) := by decide +kernel
theorem dX10_pin_50 : decode cX10_pin 50 = .ok (.getfield 16, 3) := by decide +kernel
theorem dX10_pin_53 : decode cX10_pin 53 = .ok (.iconst 1, 1) := by decide +kernel
theorem dX10_pin_54 : decode cX10_pin 54 = .ok (.iload_n 1, 1) := by decide +kernel
theorem dX10_pin_55 : decode cX10_pin 55 = .ok (.iadd, 1) := by decide +kernel
theorem dX10_pin_56 : decode cX10_pin 56 = .ok (.aload_n 0, 1) := by decide +kernel
theorem dX10_pin_57 : decode cX10_pin 57 = .ok (.getfield 16, 3) := by decide +kernel
theorem dX10_pin_60 : decode cX10_pin 60 = .ok (.iconst 0, 1) := by decide +kernel
theorem dX10_pin_61 : decode cX10_pin 61 = .ok (.iaload, 1) := by decide +kernel
theorem dX10_pin_62 : decode cX10_pin 62 = .ok (.iastore, 1) := by decide +kernel
theorem dX10_pin_63 : decode cX10_pin 63 = .ok (.aload_n 0, 1) := by decide +kernel
theorem dX10_pin_64 : decode cX10_pin 64 = .ok (.getfield 19, 3) := by decide +kernel
theorem dX10_pin_67 : decode cX10_pin 67 = .ok (.iconst 0, 1) := by decide +kernel
theorem dX10_pin_68 : decode cX10_pin 68 = .ok (.aload_n 0, 1) := by decide +kernel
theorem dX10_pin_69 : decode cX10_pin 69 = .ok (.getfield 19, 3) := by decide +kernel
theorem dX10_pin_72 : decode cX10_pin 72 = .ok (.bipush 8, 2) := by decide +kernel
theorem dX10_pin_74 : decode cX10_pin 74 = .ok (.iconst 1, 1) := by decide +kernel
theorem dX10_pin_75 : decode cX10_pin 75 = .ok (.iload_n 1, 1) := by decide +kernel
theorem dX10_pin_76 : decode cX10_pin 76 = .ok (.iadd, 1) := by decide +kernel
theorem dX10_pin_77 : decode cX10_pin 77 = .ok (.imul, 1) := by decide +kernel
theorem dX10_pin_78 : decode cX10_pin 78 = .ok (.bipush 8, 2) := by decide +kernel
theorem dX10_pin_80 : decode cX10_pin 80 = .ok (.invokestatic 164, 3) := by decide +kernel
theorem dX10_pin_83 : decode cX10_pin 83 = .ok (.aload_n 0, 1) := by decide +kernel
theorem dX10_pin_84 : decode cX10_pin 84 = .ok (.getfield 22, 3) := by decide +kernel
theorem dX10_pin_87 : decode cX10_pin 87 = .ok (.iconst 0, 1) := by decide +kernel
theorem dX10_pin_88 : decode cX10_pin 88 = .ok (.aload_n 0, 1) := by decide +kernel
theorem dX10_pin_89 : decode cX10_pin 89 = .ok (.getfield 22, 3) := by decide +kernel
theorem dX10_pin_92 : decode cX10_pin 92 = .ok (.bipush 64, 2) := by decide +kernel
theorem dX10_pin_94 : decode cX10_pin 94 = .ok (.iconst 1, 1) := by decide +kernel
theorem dX10_pin_95 : decode cX10_pin 95 = .ok (.iload_n 1, 1) := by decide +kernel
theorem dX10_pin_96 : decode cX10_pin 96 = .ok (.iadd, 1) := by decide +kernel
theorem dX10_pin_97 : decode cX10_pin 97 = .ok (.imul, 1) := by decide +kernel
theorem dX10_pin_98 : decode cX10_pin 98 = .ok (.bipush 64, 2) := by decide +kernel
theorem dX10_pin_100 : decode cX10_pin 100 = .ok (.invokestatic 164, 3) := by decide +kernel
theorem dX10_pin_103 : decode cX10_pin 103 = .ok (.aload_n 0, 1) := by decide +kernel
theorem dX10_pin_104 : decode cX10_pin 104 = .ok (.getfield 26, 3) := by decide +kernel
theorem dX10_pin_107 : decode cX10_pin 107 = .ok (.iconst 0, 1) := by decide +kernel
theorem dX10_pin_108 : decode cX10_pin 108 = .ok (.aload_n 0, 1) := by decide +kernel
theorem dX10_pin_109 : decode cX10_pin 109 = .ok (.getfield 26, 3) := by decide +kernel
theorem dX10_pin_112 : decode cX10_pin 112 = .ok (.bipush 64, 2) := by decide +kernel
theorem dX10_pin_114 : decode cX10_pin 114 = .ok (.iconst 1, 1) := by decide +kernel
theorem dX10_pin_115 : decode cX10_pin 115 = .ok (.iload_n 1, 1) := by decide +kernel
theorem dX10_pin_116 : decode cX10_pin 116 = .ok (.iadd, 1) := by decide +kernel
theorem dX10_pin_117 : decode cX10_pin 117 = .ok (.imul, 1) := by decide +kernel
theorem dX10_pin_118 : decode cX10_pin 118 = .ok (.bipush 64, 2) := by decide +kernel
theorem dX10_pin_120 : decode cX10_pin 120 = .ok (.invokestatic 164, 3) := by decide +kernel
theorem dX10_pin_123 : decode cX10_pin 123 = .ok (.iload_n 1, 1) := by decide +kernel
theorem dX10_pin_124 : decode cX10_pin 124 = .ok (.ireturn, 1) := by decide +kernel
theorem dX10_pin_125 : decode cX10_pin 125 = .ok (.iinc 1 1, 3) := by decide +kernel
theorem dX10_pin_128 : decode cX10_pin 128 = .ok (.goto (-121), 3) := by decide +kernel
theorem dX10_pin_131 : decode cX10_pin 131 = .ok (.aload_n 0, 1) := by decide +kernel
theorem dX10_pin_132 : decode cX10_pin 132 = .ok (.iconst 1, 1) := by decide +kernel
theorem dX10_pin_133 : decode cX10_pin 133 = .ok (.invokevirtual 136, 3) := by decide +kernel
theorem dX10_pin_136 : decode cX10_pin 136 = .ok (.ireturn, 1) := by decide +kernel
set_option maxRecDepth 20000 in
theorem ggX10_isPin_X10_in : GoodIn wsX10_isPin wsX10_in := goodIn_r _ [4] (by decide +kernel) (by decide +kernel)
set_option maxRecDepth 20000 in
theorem gX10_isPin_X10_in : GoodIn wsX10_isPin (va_wsS RX10 104 yX10_in wsX10_in) := goodIn_app (goodIn_of _ (by decide +kernel)) ggX10_isPin_X10_in
theorem dX10_isPin_0 : decode cX10_isPin 0 = .ok (.iload_n 0, 1) := by decide +kernel
theorem dX10_isPin_1 : decode cX10_isPin 1 = .ok (.iconst 0, 1) := by decide +kernel
theorem dX10_isPin_2 : decode cX10_isPin 2 = .ok (.iconst 1, 1) := by decide +kernel
theorem dX10_isPin_3 : decode cX10_isPin 3 = .ok (.invokestatic 104, 3) := by decide +kernel
theorem dX10_isPin_6 : decode cX10_isPin 6 = .ok (.ireturn, 1) := by decide +kernel
set_option maxRecDepth 20000 in
theorem ggX10_pinnedValue_X10_isPin : GoodIn wsX10_pinnedValue wsX10_isPin := goodIn_r _ [8, 9, 10, 7, 11] (by decide +kernel) (by decide +kernel)
set_option maxRecDepth 20000 in
theorem gX10_pinnedValue_X10_isPin : GoodIn wsX10_pinnedValue (va_wsS RX10 266 yX10_isPin wsX10_isPin) := goodIn_app (goodIn_of _ (by decide +kernel)) ggX10_pinnedValue_X10_isPin
set_option maxRecDepth 20000 in
theorem ggX10_pinnedValue_X10_isKey : GoodIn wsX10_pinnedValue wsX10_isKey := goodIn_r _ [14, 9, 10, 7, 11] (by decide +kernel) (by decide +kernel)
set_option maxRecDepth 20000 in
theorem gX10_pinnedValue_X10_isKey : GoodIn wsX10_pinnedValue (va_wsS RX10 143 yX10_isKey wsX10_isKey) := goodIn_app (goodIn_of _ (by decide +kernel)) ggX10_pinnedValue_X10_isKey
theorem dX10_pinnedValue_0 : decode cX10_pinnedValue 0 = .ok (.aload_n 0, 1) := by decide +kernel
theorem dX10_pinnedValue_1 : decode cX10_pinnedValue 1 = .ok (.iload_n 1, 1) := by decide +kernel
theorem dX10_pinnedValue_2 : decode cX10_pinnedValue 2 = .ok (.invokestatic 266, 3) := by decide +kernel
theorem dX10_pinnedValue_5 : decode cX10_pinnedValue 5 = .ok (.ifCond .ne 7, 3) := by decide +kernel
theorem dX10_pinnedValue_8 : decode cX10_pinnedValue 8 = .ok (.iconst 1, 1) := by decide +kernel
theorem dX10_pinnedValue_9 : decode cX10_pinnedValue 9 = .ok (.goto 48, 3) := by decide +kernel
theorem dX10_pinnedValue_12 : decode cX10_pinnedValue 12 = .ok (.iload_n 2, 1) := by decide +kernel
theorem dX10_pinnedValue_13 : decode cX10_pinnedValue 13 = .ok (.invokestatic 143, 3) := by decide +kernel
theorem dX10_pinnedValue_16 : decode cX10_pinnedValue 16 = .ok (.ifCond .ne 7, 3) := by decide +kernel
theorem dX10_pinnedValue_19 : decode cX10_pinnedValue 19 = .ok (.iconst 2, 1) := by decide +kernel
theorem dX10_pinnedValue_20 : decode cX10_pinnedValue 20 = .ok (.goto 37, 3) := by decide +kernel
theorem dX10_pinnedValue_23 : decode cX10_pinnedValue 23 = .ok (.aload_n 0, 1) := by decide +kernel
theorem dX10_pinnedValue_24 : decode cX10_pinnedValue 24 = .ok (.getfield 29, 3) := by decide +kernel
theorem dX10_pinnedValue_27 : decode cX10_pinnedValue 27 = .ok (.iload_n 1, 1) := by decide +kernel
theorem dX10_pinnedValue_28 : decode cX10_pinnedValue 28 = .ok (.baload, 1) := by decide +kernel
theorem dX10_pinnedValue_29 : decode cX10_pinnedValue 29 = .ok (.ifCond .ne 7, 3) := by decide +kernel
theorem dX10_pinnedValue_32 : decode cX10_pinnedValue 32 = .ok (.iconst 3, 1) := by decide +kernel
theorem dX10_pinnedValue_33 : decode cX10_pinnedValue 33 = .ok (.goto 24, 3) := by decide +kernel
theorem dX10_pinnedValue_36 : decode cX10_pinnedValue 36 = .ok (.aload_n 0, 1) := by decide +kernel
theorem dX10_pinnedValue_37 : decode cX10_pinnedValue 37 = .ok (.getfield 22, 3) := by decide +kernel
theorem dX10_pinnedValue_40 : decode cX10_pinnedValue 40 = .ok (.bipush 64, 2) := by decide +kernel
theorem dX10_pinnedValue_42 : decode cX10_pinnedValue 42 = .ok (.iconst 1, 1) := by decide +kernel
theorem dX10_pinnedValue_43 : decode cX10_pinnedValue 43 = .ok (.iload_n 1, 1) := by decide +kernel
theorem dX10_pinnedValue_44 : decode cX10_pinnedValue 44 = .ok (.iadd, 1) := by decide +kernel
theorem dX10_pinnedValue_45 : decode cX10_pinnedValue 45 = .ok (.imul, 1) := by decide +kernel
theorem dX10_pinnedValue_46 : decode cX10_pinnedValue 46 = .ok (.iload_n 2, 1) := by decide +kernel
theorem dX10_pinnedValue_47 : decode cX10_pinnedValue 47 = .ok (.iadd, 1) := by decide +kernel
theorem dX10_pinnedValue_48 : decode cX10_pinnedValue 48 = .ok (.baload, 1) := by decide +kernel
theorem dX10_pinnedValue_49 : decode cX10_pinnedValue 49 = .ok (.ifCond .ne 7, 3) := by decide +kernel
theorem dX10_pinnedValue_52 : decode cX10_pinnedValue 52 = .ok (.iconst 4, 1) := by decide +kernel
theorem dX10_pinnedValue_53 : decode cX10_pinnedValue 53 = .ok (.goto 4, 3) := by decide +kernel
theorem dX10_pinnedValue_56 : decode cX10_pinnedValue 56 = .ok (.iconst 0, 1) := by decide +kernel
theorem dX10_pinnedValue_57 : decode cX10_pinnedValue 57 = .ok (.putfield 100, 3) := by decide +kernel
theorem dX10_pinnedValue_60 : decode cX10_pinnedValue 60 = .ok (.aload_n 0, 1) := by decide +kernel
theorem dX10_pinnedValue_61 : decode cX10_pinnedValue 61 = .ok (.getfield 100, 3) := by decide +kernel
theorem dX10_pinnedValue_64 : decode cX10_pinnedValue 64 = .ok (.ifCond .le 7, 3) := by decide +kernel
theorem dX10_pinnedValue_67 : decode cX10_pinnedValue 67 = .ok (.iconst 0, 1) := by decide +kernel
theorem dX10_pinnedValue_68 : decode cX10_pinnedValue 68 = .ok (.goto 16, 3) := by decide +kernel
theorem dX10_pinnedValue_71 : decode cX10_pinnedValue 71 = .ok (.aload_n 0, 1) := by decide +kernel
theorem dX10_pinnedValue_72 : decode cX10_pinnedValue 72 = .ok (.getfield 26, 3) := by decide +kernel
theorem dX10_pinnedValue_75 : decode cX10_pinnedValue 75 = .ok (.bipush 64, 2) := by decide +kernel
theorem dX10_pinnedValue_77 : decode cX10_pinnedValue 77 = .ok (.iconst 1, 1) := by decide +kernel
theorem dX10_pinnedValue_78 : decode cX10_pinnedValue 78 = .ok (.iload_n 1, 1) := by decide +kernel
theorem dX10_pinnedValue_79 : decode cX10_pinnedValue 79 = .ok (.iadd, 1) := by decide +kernel
theorem dX10_pinnedValue_80 : decode cX10_pinnedValue 80 = .ok (.imul, 1) := by decide +kernel
theorem dX10_pinnedValue_81 : decode cX10_pinnedValue 81 = .ok (.iload_n 2, 1) := by decide +kernel
theorem dX10_pinnedValue_82 : decode cX10_pinnedValue 82 = .ok (.iadd, 1) := by decide +kernel
theorem dX10_pinnedValue_83 : decode cX10_pinnedValue 83 = .ok (.iaload, 1) := by decide +kernel
theorem dX10_pinnedValue_84 : decode cX10_pinnedValue 84 = .ok (.ireturn, 1) := by decide +kernel
set_option maxRecDepth 20000 in
theorem ggX10_pinnedCommit_X10_isPin : GoodIn wsX10_pinnedCommit wsX10_isPin := goodIn_r _ [7, 8, 9, 6, 10] (by decide +kernel) (by decide +kernel)
set_option maxRecDepth 20000 in
theorem gX10_pinnedCommit_X10_isPin : GoodIn wsX10_pinnedCommit (va_wsS RX10 266 yX10_isPin wsX10_isPin) := goodIn_app (goodIn_of _ (by decide +kernel)) ggX10_pinnedCommit_X10_isPin
theorem dX10_pinnedCommit_0 : decode cX10_pinnedCommit 0 = .ok (.aload_n 0, 1) := by decide +kernel
theorem dX10_pinnedCommit_1 : decode cX10_pinnedCommit 1 = .ok (.iload_n 1, 1) := by decide +kernel
theorem dX10_pinnedCommit_2 : decode cX10_pinnedCommit 2 = .ok (.invokestatic 266, 3) := by decide +kernel
theorem dX10_pinnedCommit_5 : decode cX10_pinnedCommit 5 = .ok (.ifCond .ne 7, 3) := by decide +kernel
theorem dX10_pinnedCommit_8 : decode cX10_pinnedCommit 8 = .ok (.iconst 1, 1) := by decide +kernel
theorem dX10_pinnedCommit_9 : decode cX10_pinnedCommit 9 = .ok (.goto 17, 3) := by decide +kernel
theorem dX10_pinnedCommit_12 : decode cX10_pinnedCommit 12 = .ok (.aload_n 0, 1) := by decide +kernel
theorem dX10_pinnedCommit_13 : decode cX10_pinnedCommit 13 = .ok (.getfield 29, 3) := by decide +kernel
theorem dX10_pinnedCommit_16 : decode cX10_pinnedCommit 16 = .ok (.iload_n 1, 1) := by decide +kernel
theorem dX10_pinnedCommit_17 : decode cX10_pinnedCommit 17 = .ok (.baload, 1) := by decide +kernel
theorem dX10_pinnedCommit_18 : decode cX10_pinnedCommit 18 = .ok (.ifCond .ne 7, 3) := by decide +kernel
theorem dX10_pinnedCommit_21 : decode cX10_pinnedCommit 21 = .ok (.iconst 2, 1) := by decide +kernel
theorem dX10_pinnedCommit_22 : decode cX10_pinnedCommit 22 = .ok (.goto 4, 3) := by decide +kernel
theorem dX10_pinnedCommit_25 : decode cX10_pinnedCommit 25 = .ok (.iconst 0, 1) := by decide +kernel
theorem dX10_pinnedCommit_26 : decode cX10_pinnedCommit 26 = .ok (.putfield 100, 3) := by decide +kernel
theorem dX10_pinnedCommit_29 : decode cX10_pinnedCommit 29 = .ok (.aload_n 0, 1) := by decide +kernel
theorem dX10_pinnedCommit_30 : decode cX10_pinnedCommit 30 = .ok (.getfield 100, 3) := by decide +kernel
theorem dX10_pinnedCommit_33 : decode cX10_pinnedCommit 33 = .ok (.ifCond .le 7, 3) := by decide +kernel
theorem dX10_pinnedCommit_36 : decode cX10_pinnedCommit 36 = .ok (.iconst 0, 1) := by decide +kernel
theorem dX10_pinnedCommit_37 : decode cX10_pinnedCommit 37 = .ok (.goto 11, 3) := by decide +kernel
theorem dX10_pinnedCommit_40 : decode cX10_pinnedCommit 40 = .ok (.aload_n 0, 1) := by decide +kernel
theorem dX10_pinnedCommit_41 : decode cX10_pinnedCommit 41 = .ok (.getfield 13, 3) := by decide +kernel
theorem dX10_pinnedCommit_44 : decode cX10_pinnedCommit 44 = .ok (.iconst 1, 1) := by decide +kernel
theorem dX10_pinnedCommit_45 : decode cX10_pinnedCommit 45 = .ok (.iload_n 1, 1) := by decide +kernel
theorem dX10_pinnedCommit_46 : decode cX10_pinnedCommit 46 = .ok (.iadd, 1) := by decide +kernel
theorem dX10_pinnedCommit_47 : decode cX10_pinnedCommit 47 = .ok (.iaload, 1) := by decide +kernel
theorem dX10_pinnedCommit_48 : decode cX10_pinnedCommit 48 = .ok (.ireturn, 1) := by decide +kernel
set_option maxRecDepth 20000 in
theorem ggX10_unpin_X10_isPin : GoodIn wsX10_unpin wsX10_isPin := goodIn_r _ [6, 7, 8, 5, 9] (by decide +kernel) (by decide +kernel)
set_option maxRecDepth 20000 in
theorem gX10_unpin_X10_isPin : GoodIn wsX10_unpin (va_wsS RX10 266 yX10_isPin wsX10_isPin) := goodIn_app (goodIn_of _ (by decide +kernel)) ggX10_unpin_X10_isPin
set_option maxRecDepth 20000 in
theorem ggX10_unpin_X10_freeBlocks : GoodIn wsX10_unpin wsX10_freeBlocks := goodIn_r _ [13, 14, 15, 16, 5, 17, 1, 18, 19, 20, 21, 22, 23, 24, 25, 26, 27, 28, 29, 30, 31, 32, 33, 34, 35, 36, 37, 38, 39, 40, 41, 42, 43, 44, 45, 46, 47, 48, 49, 50, 51, 52, 53, 54, 55, 56, 57, 58, 59, 60, 61] (by decide +kernel) (by decide +kernel)
set_option maxRecDepth 20000 in
theorem gX10_unpin_X10_freeBlocks : GoodIn wsX10_unpin (wsV RX10 238 RX10 yX10_freeBlocks wsX10_freeBlocks) := goodIn_app (goodIn_of _ (by decide +kernel)) ggX10_unpin_X10_freeBlocks
theorem dX10_unpin_0 : decode cX10_unpin 0 = .ok (.aload_n 0, 1) := by decide +kernel
theorem dX10_unpin_1 : decode cX10_unpin 1 = .ok (.iload_n 1, 1) := by decide +kernel
theorem dX10_unpin_2 : decode cX10_unpin 2 = .ok (.invokestatic 266, 3) := by decide +kernel
theorem dX10_unpin_5 : decode cX10_unpin 5 = .ok (.ifCond .ne 7, 3) := by decide +kernel
theorem dX10_unpin_8 : decode cX10_unpin 8 = .ok (.iconst 1, 1) := by decide +kernel
theorem dX10_unpin_9 : decode cX10_unpin 9 = .ok (.goto 17, 3) := by decide +kernel
theorem dX10_unpin_12 : decode cX10_unpin 12 = .ok (.aload_n 0, 1) := by decide +kernel
theorem dX10_unpin_13 : decode cX10_unpin 13 = .ok (.getfield 29, 3) := by decide +kernel
theorem dX10_unpin_16 : decode cX10_unpin 16 = .ok (.iload_n 1, 1) := by decide +kernel
theorem dX10_unpin_17 : decode cX10_unpin 17 = .ok (.baload, 1) := by decide +kernel
theorem dX10_unpin_18 : decode cX10_unpin 18 = .ok (.ifCond .ne 7, 3) := by decide +kernel
theorem dX10_unpin_21 : decode cX10_unpin 21 = .ok (.iconst 2, 1) := by decide +kernel
theorem dX10_unpin_22 : decode cX10_unpin 22 = .ok (.goto 4, 3) := by decide +kernel
theorem dX10_unpin_25 : decode cX10_unpin 25 = .ok (.iconst 0, 1) := by decide +kernel
theorem dX10_unpin_26 : decode cX10_unpin 26 = .ok (.putfield 100, 3) := by decide +kernel
theorem dX10_unpin_29 : decode cX10_unpin 29 = .ok (.aload_n 0, 1) := by decide +kernel
theorem dX10_unpin_30 : decode cX10_unpin 30 = .ok (.getfield 100, 3) := by decide +kernel
theorem dX10_unpin_33 : decode cX10_unpin 33 = .ok (.ifCond .le 5, 3) := by decide +kernel
theorem dX10_unpin_36 : decode cX10_unpin 36 = .ok (.iconst 0, 1) := by decide +kernel
theorem dX10_unpin_37 : decode cX10_unpin 37 = .ok (.ireturn, 1) := by decide +kernel
theorem dX10_unpin_38 : decode cX10_unpin 38 = .ok (.aload_n 0, 1) := by decide +kernel
theorem dX10_unpin_39 : decode cX10_unpin 39 = .ok (.invokevirtual 238, 3) := by decide +kernel
theorem dX10_unpin_42 : decode cX10_unpin 42 = .ok (.istore_n 2, 1) := by decide +kernel
theorem dX10_unpin_43 : decode cX10_unpin 43 = .ok (.aload_n 0, 1) := by decide +kernel
theorem dX10_unpin_44 : decode cX10_unpin 44 = .ok (.getfield 29, 3) := by decide +kernel
theorem dX10_unpin_47 : decode cX10_unpin 47 = .ok (.iload_n 1, 1) := by decide +kernel
theorem dX10_unpin_48 : decode cX10_unpin 48 = .ok (.iconst 0, 1) := by decide +kernel
theorem dX10_unpin_49 : decode cX10_unpin 49 = .ok (.bastore, 1) := by decide +kernel
theorem dX10_unpin_50 : decode cX10_unpin 50 = .ok (.aload_n 0, 1) := by decide +kernel
theorem dX10_unpin_51 : decode cX10_unpin 51 = .ok (.invokevirtual 238, 3) := by decide +kernel
theorem dX10_unpin_54 : decode cX10_unpin 54 = .ok (.iload_n 2, 1) := by decide +kernel
theorem dX10_unpin_55 : decode cX10_unpin 55 = .ok (.isub, 1) := by decide +kernel
theorem dX10_unpin_56 : decode cX10_unpin 56 = .ok (.ireturn, 1) := by decide +kernel
theorem dX10_isDifferent_0 : decode cX10_isDifferent 0 = .ok (.bipush 64, 2) := by decide +kernel
theorem dX10_isDifferent_2 : decode cX10_isDifferent 2 = .ok (.iconst 1, 1) := by decide +kernel
theorem dX10_isDifferent_3 : decode cX10_isDifferent 3 = .ok (.iload_n 1, 1) := by decide +kernel
theorem dX10_isDifferent_4 : decode cX10_isDifferent 4 = .ok (.iadd, 1) := by decide +kernel
theorem dX10_isDifferent_5 : decode cX10_isDifferent 5 = .ok (.imul, 1) := by decide +kernel
theorem dX10_isDifferent_6 : decode cX10_isDifferent 6 = .ok (.iload_n 2, 1) := by decide +kernel
theorem dX10_isDifferent_7 : decode cX10_isDifferent 7 = .ok (.iadd, 1) := by decide +kernel
theorem dX10_isDifferent_8 : decode cX10_isDifferent 8 = .ok (.istore_n 3, 1) := by decide +kernel
theorem dX10_isDifferent_9 : decode cX10_isDifferent 9 = .ok (.aload_n 0, 1) := by decide +kernel
theorem dX10_isDifferent_10 : decode cX10_isDifferent 10 = .ok (.getfield 22, 3) := by decide +kernel
theorem dX10_isDifferent_13 : decode cX10_isDifferent 13 = .ok (.iload_n 3, 1) := by decide +kernel
theorem dX10_isDifferent_14 : decode cX10_isDifferent 14 = .ok (.baload, 1) := by decide +kernel
theorem dX10_isDifferent_15 : decode cX10_isDifferent 15 = .ok (.aload_n 0, 1) := by decide +kernel
theorem dX10_isDifferent_16 : decode cX10_isDifferent 16 = .ok (.getfield 22, 3) := by decide +kernel
theorem dX10_isDifferent_19 : decode cX10_isDifferent 19 = .ok (.iload_n 2, 1) := by decide +kernel
theorem dX10_isDifferent_20 : decode cX10_isDifferent 20 = .ok (.baload, 1) := by decide +kernel
theorem dX10_isDifferent_21 : decode cX10_isDifferent 21 = .ok (.if_icmp .ne 27, 3) := by decide +kernel
theorem dX10_isDifferent_24 : decode cX10_isDifferent 24 = .ok (.aload_n 0, 1) := by decide +kernel
theorem dX10_isDifferent_25 : decode cX10_isDifferent 25 = .ok (.getfield 22, 3) := by decide +kernel
theorem dX10_isDifferent_28 : decode cX10_isDifferent 28 = .ok (.iload_n 2, 1) := by decide +kernel
theorem dX10_isDifferent_29 : decode cX10_isDifferent 29 = .ok (.baload, 1) := by decide +kernel
theorem dX10_isDifferent_30 : decode cX10_isDifferent 30 = .ok (.ifCond .eq 22, 3) := by decide +kernel
theorem dX10_isDifferent_33 : decode cX10_isDifferent 33 = .ok (.aload_n 0, 1) := by decide +kernel
theorem dX10_isDifferent_34 : decode cX10_isDifferent 34 = .ok (.getfield 26, 3) := by decide +kernel
theorem dX10_isDifferent_37 : decode cX10_isDifferent 37 = .ok (.iload_n 3, 1) := by decide +kernel
theorem dX10_isDifferent_38 : decode cX10_isDifferent 38 = .ok (.iaload, 1) := by decide +kernel
theorem dX10_isDifferent_39 : decode cX10_isDifferent 39 = .ok (.aload_n 0, 1) := by decide +kernel
theorem dX10_isDifferent_40 : decode cX10_isDifferent 40 = .ok (.getfield 26, 3) := by decide +kernel
theorem dX10_isDifferent_43 : decode cX10_isDifferent 43 = .ok (.iload_n 2, 1) := by decide +kernel
theorem dX10_isDifferent_44 : decode cX10_isDifferent 44 = .ok (.iaload, 1) := by decide +kernel
theorem dX10_isDifferent_45 : decode cX10_isDifferent 45 = .ok (.if_icmp .eq 7, 3) := by decide +kernel
theorem dX10_isDifferent_48 : decode cX10_isDifferent 48 = .ok (.iconst 1, 1) := by decide +kernel
theorem dX10_isDifferent_49 : decode cX10_isDifferent 49 = .ok (.goto 4, 3) := by decide +kernel
theorem dX10_isDifferent_52 : decode cX10_isDifferent 52 = .ok (.iconst 0, 1) := by decide +kernel
theorem dX10_isDifferent_53 : decode cX10_isDifferent 53 = .ok (.ireturn, 1) := by decide +kernel
set_option maxRecDepth 20000 in
theorem ggX10_differences_X10_isPin : GoodIn wsX10_differences wsX10_isPin := goodIn_r _ [6, 7, 8, 5, 9] (by decide +kernel) (by decide +kernel)
set_option maxRecDepth 20000 in
theorem gX10_differences_X10_isPin : GoodIn wsX10_differences (va_wsS RX10 266 yX10_isPin wsX10_isPin) := goodIn_app (goodIn_of _ (by decide +kernel)) ggX10_differences_X10_isPin
set_option maxRecDepth 20000 in
theorem ggX10_differences_X10_isDifferent : GoodIn wsX10_differences wsX10_isDifferent := goodIn_r _ [13, 14, 15, 16, 17, 18, 19, 20, 21, 22, 23, 24, 25, 26, 27, 28, 29, 30, 31, 32, 33, 34, 35, 36, 37, 38, 39, 40, 41, 42, 43, 44, 45, 46, 47, 48, 49, 50, 51, 52, 53] (by decide +kernel) (by decide +kernel)
set_option maxRecDepth 20000 in
theorem gX10_differences_X10_isDifferent : GoodIn wsX10_differences (wsV RX10 269 RX10 yX10_isDifferent wsX10_isDifferent) := goodIn_app (goodIn_of _ (by decide +kernel)) ggX10_differences_X10_isDifferent
theorem dX10_differences_0 : decode cX10_differences 0 = .ok (.aload_n 0, 1) := by decide +kernel
theorem dX10_differences_1 : decode cX10_differences 1 = .ok (.iload_n 1, 1) := by decide +kernel
theorem dX10_differences_2 : decode cX10_differences 2 = .ok (.invokestatic 266, 3) := by decide +kernel
theorem dX10_differences_5 : decode cX10_differences 5 = .ok (.ifCond .ne 7, 3) := by decide +kernel
theorem dX10_differences_8 : decode cX10_differences 8 = .ok (.iconst 1, 1) := by decide +kernel
theorem dX10_differences_9 : decode cX10_differences 9 = .ok (.goto 17, 3) := by decide +kernel
theorem dX10_differences_12 : decode cX10_differences 12 = .ok (.aload_n 0, 1) := by decide +kernel
theorem dX10_differences_13 : decode cX10_differences 13 = .ok (.getfield 29, 3) := by decide +kernel
theorem dX10_differences_16 : decode cX10_differences 16 = .ok (.iload_n 1, 1) := by decide +kernel
theorem dX10_differences_17 : decode cX10_differences 17 = .ok (.baload, 1) := by decide +kernel
theorem dX10_differences_18 : decode cX10_differences 18 = .ok (.ifCond .ne 7, 3) := by decide +kernel
theorem dX10_differences_21 : decode cX10_differences 21 = .ok (.iconst 2, 1) := by decide +kernel
theorem dX10_differences_22 : decode cX10_differences 22 = .ok (.goto 4, 3) := by decide +kernel
theorem dX10_differences_25 : decode cX10_differences 25 = .ok (.iconst 0, 1) := by decide +kernel
theorem dX10_differences_26 : decode cX10_differences 26 = .ok (.putfield 100, 3) := by decide +kernel
theorem dX10_differences_29 : decode cX10_differences 29 = .ok (.iconst 0, 1) := by decide +kernel
theorem dX10_differences_30 : decode cX10_differences 30 = .ok (.istore_n 2, 1) := by decide +kernel
theorem dX10_differences_31 : decode cX10_differences 31 = .ok (.iconst 0, 1) := by decide +kernel
theorem dX10_differences_32 : decode cX10_differences 32 = .ok (.istore_n 3, 1) := by decide +kernel
theorem dX10_differences_33 : decode cX10_differences 33 = .ok (.aload_n 0, 1) := by decide +kernel
theorem dX10_differences_34 : decode cX10_differences 34 = .ok (.getfield 100, 3) := by decide +kernel
theorem dX10_differences_37 : decode cX10_differences 37 = .ok (.ifCond .ne 32, 3) := by decide +kernel
theorem dX10_differences_40 : decode cX10_differences 40 = .ok (.iload_n 3, 1) := by decide +kernel
theorem dX10_differences_41 : decode cX10_differences 41 = .ok (.bipush 64, 2) := by decide +kernel
theorem dX10_differences_43 : decode cX10_differences 43 = .ok (.if_icmp .ge 26, 3) := by decide +kernel
theorem dX10_differences_46 : decode cX10_differences 46 = .ok (.iload_n 2, 1) := by decide +kernel
theorem dX10_differences_47 : decode cX10_differences 47 = .ok (.aload_n 0, 1) := by decide +kernel
theorem dX10_differences_48 : decode cX10_differences 48 = .ok (.iload_n 1, 1) := by decide +kernel
theorem dX10_differences_49 : decode cX10_differences 49 = .ok (.iload_n 3, 1) := by decide +kernel
theorem dX10_differences_50 : decode cX10_differences 50 = .ok (.invokevirtual 269, 3) := by decide +kernel
theorem dX10_differences_53 : decode cX10_differences 53 = .ok (.ifCond .eq 7, 3) := by decide +kernel
theorem dX10_differences_56 : decode cX10_differences 56 = .ok (.iconst 1, 1) := by decide +kernel
theorem dX10_differences_57 : decode cX10_differences 57 = .ok (.goto 4, 3) := by decide +kernel
theorem dX10_differences_60 : decode cX10_differences 60 = .ok (.iconst 0, 1) := by decide +kernel
theorem dX10_differences_61 : decode cX10_differences 61 = .ok (.iadd, 1) := by decide +kernel
theorem dX10_differences_62 : decode cX10_differences 62 = .ok (.istore_n 2, 1) := by decide +kernel
theorem dX10_differences_63 : decode cX10_differences 63 = .ok (.iinc 3 1, 3) := by decide +kernel
theorem dX10_differences_66 : decode cX10_differences 66 = .ok (.goto (-33), 3) := by decide +kernel
theorem dX10_differences_69 : decode cX10_differences 69 = .ok (.iload_n 2, 1) := by decide +kernel
theorem dX10_differences_70 : decode cX10_differences 70 = .ok (.ireturn, 1) := by decide +kernel
set_option maxRecDepth 20000 in
theorem ggX10_differentKey_X10_isPin : GoodIn wsX10_differentKey wsX10_isPin := goodIn_r _ [6, 7, 8, 5, 9] (by decide +kernel) (by decide +kernel)
set_option maxRecDepth 20000 in
theorem gX10_differentKey_X10_isPin : GoodIn wsX10_differentKey (va_wsS RX10 266 yX10_isPin wsX10_isPin) := goodIn_app (goodIn_of _ (by decide +kernel)) ggX10_differentKey_X10_isPin
set_option maxRecDepth 20000 in
theorem ggX10_differentKey_X10_isDifferent : GoodIn wsX10_differentKey wsX10_isDifferent := goodIn_r _ [13, 14, 15, 20, 21, 22, 23, 24, 25, 26, 27, 28, 29, 30, 31, 32, 33, 34, 35, 36, 37, 38, 39, 40, 41, 42, 43, 44, 45, 46, 47, 48, 49, 50, 51, 52, 53, 54, 55, 56, 57] (by decide +kernel) (by decide +kernel)
set_option maxRecDepth 20000 in
theorem gX10_differentKey_X10_isDifferent : GoodIn wsX10_differentKey (wsV RX10 269 RX10 yX10_isDifferent wsX10_isDifferent) := goodIn_app (goodIn_of _ (by decide +kernel)) ggX10_differentKey_X10_isDifferent
set_option maxRecDepth 20000 in
theorem ggX10_differentKey_X10_fails : GoodIn wsX10_differentKey wsX10_fails := goodIn_r _ [19, 2, 20, 21, 22, 23, 24, 25, 26, 27, 28, 29, 30, 31, 32, 33, 34, 35, 36, 37, 38, 39, 40, 41, 42, 43, 44, 45, 46, 47, 48, 49, 50, 51, 52, 53, 54, 55, 56, 57] (by decide +kernel) (by decide +kernel)
set_option maxRecDepth 20000 in
theorem gX10_differentKey_X10_fails : GoodIn wsX10_differentKey (wsV RX10 136 RX10 yX10_fails wsX10_fails) := goodIn_app (goodIn_of _ (by decide +kernel)) ggX10_differentKey_X10_fails
theorem dX10_differentKey_0 : decode cX10_differentKey 0 = .ok (.aload_n 0, 1) := by decide +kernel
theorem dX10_differentKey_1 : decode cX10_differentKey 1 = .ok (.iload_n 1, 1) := by decide +kernel
theorem dX10_differentKey_2 : decode cX10_differentKey 2 = .ok (.invokestatic 266, 3) := by decide +kernel
theorem dX10_differentKey_5 : decode cX10_differentKey 5 = .ok (.ifCond .ne 7, 3) := by decide +kernel
theorem dX10_differentKey_8 : decode cX10_differentKey 8 = .ok (.iconst 1, 1) := by decide +kernel
theorem dX10_differentKey_9 : decode cX10_differentKey 9 = .ok (.goto 17, 3) := by decide +kernel
theorem dX10_differentKey_12 : decode cX10_differentKey 12 = .ok (.aload_n 0, 1) := by decide +kernel
theorem dX10_differentKey_13 : decode cX10_differentKey 13 = .ok (.getfield 29, 3) := by decide +kernel
theorem dX10_differentKey_16 : decode cX10_differentKey 16 = .ok (.iload_n 1, 1) := by decide +kernel
theorem dX10_differentKey_17 : decode cX10_differentKey 17 = .ok (.baload, 1) := by decide +kernel
theorem dX10_differentKey_18 : decode cX10_differentKey 18 = .ok (.ifCond .ne 7, 3) := by decide +kernel
theorem dX10_differentKey_21 : decode cX10_differentKey 21 = .ok (.iconst 2, 1) := by decide +kernel
theorem dX10_differentKey_22 : decode cX10_differentKey 22 = .ok (.goto 4, 3) := by decide +kernel
theorem dX10_differentKey_25 : decode cX10_differentKey 25 = .ok (.iconst 0, 1) := by decide +kernel
theorem dX10_differentKey_26 : decode cX10_differentKey 26 = .ok (.putfield 100, 3) := by decide +kernel
theorem dX10_differentKey_29 : decode cX10_differentKey 29 = .ok (.aload_n 0, 1) := by decide +kernel
theorem dX10_differentKey_30 : decode cX10_differentKey 30 = .ok (.getfield 100, 3) := by decide +kernel
theorem dX10_differentKey_33 : decode cX10_differentKey 33 = .ok (.ifCond .le 5, 3) := by decide +kernel
theorem dX10_differentKey_36 : decode cX10_differentKey 36 = .ok (.iconst 0, 1) := by decide +kernel
theorem dX10_differentKey_37 : decode cX10_differentKey 37 = .ok (.ireturn, 1) := by decide +kernel
theorem dX10_differentKey_38 : decode cX10_differentKey 38 = .ok (.iload_n 2, 1) := by decide +kernel
theorem dX10_differentKey_39 : decode cX10_differentKey 39 = .ok (.istore_n 3, 1) := by decide +kernel
theorem dX10_differentKey_40 : decode cX10_differentKey 40 = .ok (.iconst 0, 1) := by decide +kernel
theorem dX10_differentKey_41 : decode cX10_differentKey 41 = .ok (.istore 4, 2) := by decide +kernel
theorem dX10_differentKey_43 : decode cX10_differentKey 43 = .ok (.iload 4, 2) := by decide +kernel
theorem dX10_differentKey_45 : decode cX10_differentKey 45 = .ok (.bipush 64, 2) := by decide +kernel
theorem dX10_differentKey_47 : decode cX10_differentKey 47 = .ok (.if_icmp .ge 33, 3) := by decide +kernel
theorem dX10_differentKey_50 : decode cX10_differentKey 50 = .ok (.iload_n 3, 1) := by decide +kernel
theorem dX10_differentKey_51 : decode cX10_differentKey 51 = .ok (.ifCond .lt 29, 3) := by decide +kernel
theorem dX10_differentKey_54 : decode cX10_differentKey 54 = .ok (.aload_n 0, 1) := by decide +kernel
theorem dX10_differentKey_55 : decode cX10_differentKey 55 = .ok (.iload_n 1, 1) := by decide +kernel
theorem dX10_differentKey_56 : decode cX10_differentKey 56 = .ok (.iload 4, 2) := by decide +kernel
theorem dX10_differentKey_58 : decode cX10_differentKey 58 = .ok (.invokevirtual 269, 3) := by decide +kernel
theorem dX10_differentKey_61 : decode cX10_differentKey 61 = .ok (.ifCond .eq 13, 3) := by decide +kernel
theorem dX10_differentKey_64 : decode cX10_differentKey 64 = .ok (.iload_n 3, 1) := by decide +kernel
theorem dX10_differentKey_65 : decode cX10_differentKey 65 = .ok (.ifCond .ne 6, 3) := by decide +kernel
theorem dX10_differentKey_68 : decode cX10_differentKey 68 = .ok (.iload 4, 2) := by decide +kernel
theorem dX10_differentKey_70 : decode cX10_differentKey 70 = .ok (.ireturn, 1) := by decide +kernel
theorem dX10_differentKey_71 : decode cX10_differentKey 71 = .ok (.iinc 3 (-1), 3) := by decide +kernel
theorem dX10_differentKey_74 : decode cX10_differentKey 74 = .ok (.iinc 4 1, 3) := by decide +kernel
theorem dX10_differentKey_77 : decode cX10_differentKey 77 = .ok (.goto (-34), 3) := by decide +kernel
theorem dX10_differentKey_80 : decode cX10_differentKey 80 = .ok (.aload_n 0, 1) := by decide +kernel
theorem dX10_differentKey_81 : decode cX10_differentKey 81 = .ok (.iconst 3, 1) := by decide +kernel
theorem dX10_differentKey_82 : decode cX10_differentKey 82 = .ok (.invokevirtual 136, 3) := by decide +kernel
theorem dX10_differentKey_85 : decode cX10_differentKey 85 = .ok (.ireturn, 1) := by decide +kernel
set_option maxRecDepth 20000 in
theorem ggX10_cell_X10_isBlock : GoodIn wsX10_cell wsX10_isBlock := goodIn_r _ [5, 6, 7, 4, 8] (by decide +kernel) (by decide +kernel)
set_option maxRecDepth 20000 in
theorem gX10_cell_X10_isBlock : GoodIn wsX10_cell (va_wsS RX10 272 yX10_isBlock wsX10_isBlock) := goodIn_app (goodIn_of _ (by decide +kernel)) ggX10_cell_X10_isBlock
set_option maxRecDepth 20000 in
theorem ggX10_cell_X10_in : GoodIn wsX10_cell wsX10_in := goodIn_r _ [8] (by decide +kernel) (by decide +kernel)
set_option maxRecDepth 20000 in
theorem gX10_cell_X10_in : GoodIn wsX10_cell (va_wsS RX10 104 yX10_in wsX10_in) := goodIn_app (goodIn_of _ (by decide +kernel)) ggX10_cell_X10_in
set_option maxRecDepth 20000 in
theorem ggX10_cell_X10_at : GoodIn wsX10_cell wsX10_at := goodIn_r _ [12, 13, 14, 15, 16, 17, 18, 19, 20, 21, 22, 23, 24, 25, 26, 27, 28, 29, 30, 31, 32, 33, 34, 35, 36, 37, 38, 39, 40, 41, 42, 43, 44, 45, 46, 47, 48, 49, 50, 51] (by decide +kernel) (by decide +kernel)
set_option maxRecDepth 20000 in
theorem gX10_cell_X10_at : GoodIn wsX10_cell (wsV RX10 108 RX10 yX10_at wsX10_at) := goodIn_app (goodIn_of _ (by decide +kernel)) ggX10_cell_X10_at
theorem dX10_cell_0 : decode cX10_cell 0 = .ok (.aload_n 0, 1) := by decide +kernel
theorem dX10_cell_1 : decode cX10_cell 1 = .ok (.iload_n 1, 1) := by decide +kernel
theorem dX10_cell_2 : decode cX10_cell 2 = .ok (.invokestatic 272, 3) := by decide +kernel
theorem dX10_cell_5 : decode cX10_cell 5 = .ok (.ifCond .eq 17, 3) := by decide +kernel
theorem dX10_cell_8 : decode cX10_cell 8 = .ok (.iload_n 2, 1) := by decide +kernel
theorem dX10_cell_9 : decode cX10_cell 9 = .ok (.iconst 0, 1) := by decide +kernel
theorem dX10_cell_10 : decode cX10_cell 10 = .ok (.bipush 12, 2) := by decide +kernel
theorem dX10_cell_12 : decode cX10_cell 12 = .ok (.invokestatic 104, 3) := by decide +kernel
theorem dX10_cell_15 : decode cX10_cell 15 = .ok (.ifCond .eq 7, 3) := by decide +kernel
theorem dX10_cell_18 : decode cX10_cell 18 = .ok (.iconst 0, 1) := by decide +kernel
theorem dX10_cell_19 : decode cX10_cell 19 = .ok (.goto 4, 3) := by decide +kernel
theorem dX10_cell_22 : decode cX10_cell 22 = .ok (.iconst 1, 1) := by decide +kernel
theorem dX10_cell_23 : decode cX10_cell 23 = .ok (.putfield 100, 3) := by decide +kernel
theorem dX10_cell_26 : decode cX10_cell 26 = .ok (.aload_n 0, 1) := by decide +kernel
theorem dX10_cell_27 : decode cX10_cell 27 = .ok (.getfield 100, 3) := by decide +kernel
theorem dX10_cell_30 : decode cX10_cell 30 = .ok (.ifCond .le 7, 3) := by decide +kernel
theorem dX10_cell_33 : decode cX10_cell 33 = .ok (.iconst 0, 1) := by decide +kernel
theorem dX10_cell_34 : decode cX10_cell 34 = .ok (.goto 9, 3) := by decide +kernel
theorem dX10_cell_37 : decode cX10_cell 37 = .ok (.aload_n 0, 1) := by decide +kernel
theorem dX10_cell_38 : decode cX10_cell 38 = .ok (.iload_n 1, 1) := by decide +kernel
theorem dX10_cell_39 : decode cX10_cell 39 = .ok (.iload_n 2, 1) := by decide +kernel
theorem dX10_cell_40 : decode cX10_cell 40 = .ok (.invokevirtual 108, 3) := by decide +kernel
theorem dX10_cell_43 : decode cX10_cell 43 = .ok (.ireturn, 1) := by decide +kernel
set_option maxRecDepth 20000 in
theorem ggX10_damage_X10_isBlock : GoodIn wsX10_damage wsX10_isBlock := goodIn_r _ [7, 8, 9, 6, 10] (by decide +kernel) (by decide +kernel)
set_option maxRecDepth 20000 in
theorem gX10_damage_X10_isBlock : GoodIn wsX10_damage (va_wsS RX10 272 yX10_isBlock wsX10_isBlock) := goodIn_app (goodIn_of _ (by decide +kernel)) ggX10_damage_X10_isBlock
set_option maxRecDepth 20000 in
theorem ggX10_damage_X10_in : GoodIn wsX10_damage wsX10_in := goodIn_r _ [10] (by decide +kernel) (by decide +kernel)
set_option maxRecDepth 20000 in
theorem gX10_damage_X10_in : GoodIn wsX10_damage (va_wsS RX10 104 yX10_in wsX10_in) := goodIn_app (goodIn_of _ (by decide +kernel)) ggX10_damage_X10_in
set_option maxRecDepth 20000 in
theorem ggX10_damage_X10_at : GoodIn wsX10_damage wsX10_at := goodIn_r _ [14, 3, 15, 16, 17, 18, 19, 20, 21, 22, 23, 24, 25, 26, 27, 28, 29, 30, 31, 32, 33, 34, 35, 36, 37, 38, 39, 40, 41, 42, 43, 44, 45, 46, 47, 48, 49, 50, 51, 52] (by decide +kernel) (by decide +kernel)
set_option maxRecDepth 20000 in
theorem gX10_damage_X10_at : GoodIn wsX10_damage (wsV RX10 108 RX10 yX10_at wsX10_at) := goodIn_app (goodIn_of _ (by decide +kernel)) ggX10_damage_X10_at
theorem dX10_damage_0 : decode cX10_damage 0 = .ok (.aload_n 0, 1) := by decide +kernel
theorem dX10_damage_1 : decode cX10_damage 1 = .ok (.iload_n 1, 1) := by decide +kernel
theorem dX10_damage_2 : decode cX10_damage 2 = .ok (.invokestatic 272, 3) := by decide +kernel
theorem dX10_damage_5 : decode cX10_damage 5 = .ok (.ifCond .eq 17, 3) := by decide +kernel
theorem dX10_damage_8 : decode cX10_damage 8 = .ok (.iload_n 2, 1) := by decide +kernel
theorem dX10_damage_9 : decode cX10_damage 9 = .ok (.iconst 0, 1) := by decide +kernel
theorem dX10_damage_10 : decode cX10_damage 10 = .ok (.bipush 12, 2) := by decide +kernel
theorem dX10_damage_12 : decode cX10_damage 12 = .ok (.invokestatic 104, 3) := by decide +kernel
theorem dX10_damage_15 : decode cX10_damage 15 = .ok (.ifCond .eq 7, 3) := by decide +kernel
theorem dX10_damage_18 : decode cX10_damage 18 = .ok (.iconst 0, 1) := by decide +kernel
theorem dX10_damage_19 : decode cX10_damage 19 = .ok (.goto 4, 3) := by decide +kernel
theorem dX10_damage_22 : decode cX10_damage 22 = .ok (.iconst 1, 1) := by decide +kernel
theorem dX10_damage_23 : decode cX10_damage 23 = .ok (.putfield 100, 3) := by decide +kernel
theorem dX10_damage_26 : decode cX10_damage 26 = .ok (.aload_n 0, 1) := by decide +kernel
theorem dX10_damage_27 : decode cX10_damage 27 = .ok (.getfield 100, 3) := by decide +kernel
theorem dX10_damage_30 : decode cX10_damage 30 = .ok (.ifCond .le 5, 3) := by decide +kernel
theorem dX10_damage_33 : decode cX10_damage 33 = .ok (.iconst 0, 1) := by decide +kernel
theorem dX10_damage_34 : decode cX10_damage 34 = .ok (.ireturn, 1) := by decide +kernel
theorem dX10_damage_35 : decode cX10_damage 35 = .ok (.aload_n 0, 1) := by decide +kernel
theorem dX10_damage_36 : decode cX10_damage 36 = .ok (.iload_n 1, 1) := by decide +kernel
theorem dX10_damage_37 : decode cX10_damage 37 = .ok (.iload_n 2, 1) := by decide +kernel
theorem dX10_damage_38 : decode cX10_damage 38 = .ok (.invokevirtual 108, 3) := by decide +kernel
theorem dX10_damage_41 : decode cX10_damage 41 = .ok (.istore 4, 2) := by decide +kernel
theorem dX10_damage_43 : decode cX10_damage 43 = .ok (.aload_n 0, 1) := by decide +kernel
theorem dX10_damage_44 : decode cX10_damage 44 = .ok (.getfield 69, 3) := by decide +kernel
theorem dX10_damage_47 : decode cX10_damage 47 = .ok (.bipush 7, 2) := by decide +kernel
theorem dX10_damage_49 : decode cX10_damage 49 = .ok (.dup2, 1) := by decide +kernel
theorem dX10_damage_50 : decode cX10_damage 50 = .ok (.iaload, 1) := by decide +kernel
theorem dX10_damage_51 : decode cX10_damage 51 = .ok (.iload 4, 2) := by decide +kernel
theorem dX10_damage_53 : decode cX10_damage 53 = .ok (.iload_n 3, 1) := by decide +kernel
theorem dX10_damage_54 : decode cX10_damage 54 = .ok (.if_icmp .eq 7, 3) := by decide +kernel
theorem dX10_damage_57 : decode cX10_damage 57 = .ok (.iconst 1, 1) := by decide +kernel
theorem dX10_damage_58 : decode cX10_damage 58 = .ok (.goto 4, 3) := by decide +kernel
theorem dX10_damage_61 : decode cX10_damage 61 = .ok (.iconst 0, 1) := by decide +kernel
theorem dX10_damage_62 : decode cX10_damage 62 = .ok (.iadd, 1) := by decide +kernel
theorem dX10_damage_63 : decode cX10_damage 63 = .ok (.iastore, 1) := by decide +kernel
theorem dX10_damage_64 : decode cX10_damage 64 = .ok (.aload_n 0, 1) := by decide +kernel
theorem dX10_damage_65 : decode cX10_damage 65 = .ok (.getfield 9, 3) := by decide +kernel
theorem dX10_damage_68 : decode cX10_damage 68 = .ok (.bipush 13, 2) := by decide +kernel
theorem dX10_damage_70 : decode cX10_damage 70 = .ok (.iload_n 1, 1) := by decide +kernel
theorem dX10_damage_71 : decode cX10_damage 71 = .ok (.imul, 1) := by decide +kernel
theorem dX10_damage_72 : decode cX10_damage 72 = .ok (.iload_n 2, 1) := by decide +kernel
theorem dX10_damage_73 : decode cX10_damage 73 = .ok (.iadd, 1) := by decide +kernel
theorem dX10_damage_74 : decode cX10_damage 74 = .ok (.iload_n 3, 1) := by decide +kernel
theorem dX10_damage_75 : decode cX10_damage 75 = .ok (.iastore, 1) := by decide +kernel
theorem dX10_damage_76 : decode cX10_damage 76 = .ok (.iload 4, 2) := by decide +kernel
theorem dX10_damage_78 : decode cX10_damage 78 = .ok (.ireturn, 1) := by decide +kernel
set_option maxRecDepth 20000 in
theorem ggX10_checksum_X10_isBlock : GoodIn wsX10_checksum wsX10_isBlock := goodIn_r _ [5, 6, 7, 4, 8] (by decide +kernel) (by decide +kernel)
set_option maxRecDepth 20000 in
theorem gX10_checksum_X10_isBlock : GoodIn wsX10_checksum (va_wsS RX10 272 yX10_isBlock wsX10_isBlock) := goodIn_app (goodIn_of _ (by decide +kernel)) ggX10_checksum_X10_isBlock
set_option maxRecDepth 20000 in
theorem ggX10_checksum_X10_sumOf : GoodIn wsX10_checksum wsX10_sumOf := goodIn_r _ [12, 13, 14, 15, 4, 16, 17, 18, 19, 20, 21, 22, 23, 24, 25, 26, 27, 28, 29, 30, 31, 32, 33, 34, 35, 36, 37, 38, 39, 40, 41, 42, 43, 44, 45, 46, 47, 48, 49, 50, 51, 52, 53, 54, 55] (by decide +kernel) (by decide +kernel)
set_option maxRecDepth 20000 in
theorem gX10_checksum_X10_sumOf : GoodIn wsX10_checksum (wsV RX10 112 RX10 yX10_sumOf wsX10_sumOf) := goodIn_app (goodIn_of _ (by decide +kernel)) ggX10_checksum_X10_sumOf
theorem dX10_checksum_0 : decode cX10_checksum 0 = .ok (.aload_n 0, 1) := by decide +kernel
theorem dX10_checksum_1 : decode cX10_checksum 1 = .ok (.iload_n 1, 1) := by decide +kernel
theorem dX10_checksum_2 : decode cX10_checksum 2 = .ok (.invokestatic 272, 3) := by decide +kernel
theorem dX10_checksum_5 : decode cX10_checksum 5 = .ok (.ifCond .eq 7, 3) := by decide +kernel
theorem dX10_checksum_8 : decode cX10_checksum 8 = .ok (.iconst 0, 1) := by decide +kernel
theorem dX10_checksum_9 : decode cX10_checksum 9 = .ok (.goto 4, 3) := by decide +kernel
theorem dX10_checksum_12 : decode cX10_checksum 12 = .ok (.iconst 1, 1) := by decide +kernel
theorem dX10_checksum_13 : decode cX10_checksum 13 = .ok (.putfield 100, 3) := by decide +kernel
theorem dX10_checksum_16 : decode cX10_checksum 16 = .ok (.aload_n 0, 1) := by decide +kernel
theorem dX10_checksum_17 : decode cX10_checksum 17 = .ok (.getfield 100, 3) := by decide +kernel
theorem dX10_checksum_20 : decode cX10_checksum 20 = .ok (.ifCond .le 7, 3) := by decide +kernel
theorem dX10_checksum_23 : decode cX10_checksum 23 = .ok (.iconst 0, 1) := by decide +kernel
theorem dX10_checksum_24 : decode cX10_checksum 24 = .ok (.goto 8, 3) := by decide +kernel
theorem dX10_checksum_27 : decode cX10_checksum 27 = .ok (.aload_n 0, 1) := by decide +kernel
theorem dX10_checksum_28 : decode cX10_checksum 28 = .ok (.iload_n 1, 1) := by decide +kernel
theorem dX10_checksum_29 : decode cX10_checksum 29 = .ok (.invokevirtual 112, 3) := by decide +kernel
theorem dX10_checksum_32 : decode cX10_checksum 32 = .ok (.ireturn, 1) := by decide +kernel
set_option maxRecDepth 20000 in
theorem ggX10_isValid_X10_isBlock : GoodIn wsX10_isValid wsX10_isBlock := goodIn_r _ [5, 6, 7, 4, 8] (by decide +kernel) (by decide +kernel)
set_option maxRecDepth 20000 in
theorem gX10_isValid_X10_isBlock : GoodIn wsX10_isValid (va_wsS RX10 272 yX10_isBlock wsX10_isBlock) := goodIn_app (goodIn_of _ (by decide +kernel)) ggX10_isValid_X10_isBlock
set_option maxRecDepth 20000 in
theorem ggX10_isValid_X10_valid : GoodIn wsX10_isValid wsX10_valid := goodIn_r _ [12, 13, 14, 15, 4, 16, 17, 18, 19, 20, 21, 22, 23, 24, 25, 26, 27, 28, 29, 30, 31, 32, 33, 34, 35, 36, 37, 38, 39, 40, 41, 42, 43, 44, 45, 46, 47, 48, 49, 50, 51, 52, 53, 54, 55, 56, 57, 58, 59] (by decide +kernel) (by decide +kernel)
set_option maxRecDepth 20000 in
theorem gX10_isValid_X10_valid : GoodIn wsX10_isValid (wsV RX10 251 RX10 yX10_valid wsX10_valid) := goodIn_app (goodIn_of _ (by decide +kernel)) ggX10_isValid_X10_valid
theorem dX10_isValid_0 : decode cX10_isValid 0 = .ok (.aload_n 0, 1) := by decide +kernel
theorem dX10_isValid_1 : decode cX10_isValid 1 = .ok (.iload_n 1, 1) := by decide +kernel
theorem dX10_isValid_2 : decode cX10_isValid 2 = .ok (.invokestatic 272, 3) := by decide +kernel
theorem dX10_isValid_5 : decode cX10_isValid 5 = .ok (.ifCond .eq 7, 3) := by decide +kernel
theorem dX10_isValid_8 : decode cX10_isValid 8 = .ok (.iconst 0, 1) := by decide +kernel
theorem dX10_isValid_9 : decode cX10_isValid 9 = .ok (.goto 4, 3) := by decide +kernel
theorem dX10_isValid_12 : decode cX10_isValid 12 = .ok (.iconst 1, 1) := by decide +kernel
theorem dX10_isValid_13 : decode cX10_isValid 13 = .ok (.putfield 100, 3) := by decide +kernel
theorem dX10_isValid_16 : decode cX10_isValid 16 = .ok (.aload_n 0, 1) := by decide +kernel
theorem dX10_isValid_17 : decode cX10_isValid 17 = .ok (.getfield 100, 3) := by decide +kernel
theorem dX10_isValid_20 : decode cX10_isValid 20 = .ok (.ifCond .ne 15, 3) := by decide +kernel
theorem dX10_isValid_23 : decode cX10_isValid 23 = .ok (.aload_n 0, 1) := by decide +kernel
theorem dX10_isValid_24 : decode cX10_isValid 24 = .ok (.iload_n 1, 1) := by decide +kernel
theorem dX10_isValid_25 : decode cX10_isValid 25 = .ok (.invokevirtual 251, 3) := by decide +kernel
theorem dX10_isValid_28 : decode cX10_isValid 28 = .ok (.ifCond .eq 7, 3) := by decide +kernel
theorem dX10_isValid_31 : decode cX10_isValid 31 = .ok (.iconst 1, 1) := by decide +kernel
theorem dX10_isValid_32 : decode cX10_isValid 32 = .ok (.goto 4, 3) := by decide +kernel
theorem dX10_isValid_35 : decode cX10_isValid 35 = .ok (.iconst 0, 1) := by decide +kernel
theorem dX10_isValid_36 : decode cX10_isValid 36 = .ok (.ireturn, 1) := by decide +kernel
set_option maxRecDepth 20000 in
theorem ggX10_salvage_X10_valid : GoodIn wsX10_salvage wsX10_valid := goodIn_r _ [11, 12, 13, 14, 10, 15, 16, 17, 18, 19, 20, 24, 25, 26, 27, 28, 29, 30, 31, 32, 33, 34, 35, 36, 37, 38, 39, 40, 41, 42, 43, 44, 45, 46, 47, 48, 49, 50, 51, 52, 53, 54, 55, 56, 57, 58, 59, 60, 61] (by decide +kernel) (by decide +kernel)
set_option maxRecDepth 20000 in
theorem gX10_salvage_X10_valid : GoodIn wsX10_salvage (wsV RX10 251 RX10 yX10_valid wsX10_valid) := goodIn_app (goodIn_of _ (by decide +kernel)) ggX10_salvage_X10_valid
set_option maxRecDepth 20000 in
theorem ggX10_salvage_X10_at : GoodIn wsX10_salvage wsX10_at := goodIn_r _ [15, 16, 24, 25, 26, 27, 28, 29, 30, 31, 32, 33, 34, 35, 36, 37, 38, 39, 40, 41, 42, 43, 44, 45, 46, 47, 48, 49, 50, 51, 52, 53, 54, 55, 56, 57, 58, 59, 60, 61] (by decide +kernel) (by decide +kernel)
set_option maxRecDepth 20000 in
theorem gX10_salvage_X10_at : GoodIn wsX10_salvage (wsV RX10 108 RX10 yX10_at wsX10_at) := goodIn_app (goodIn_of _ (by decide +kernel)) ggX10_salvage_X10_at
set_option maxRecDepth 20000 in
theorem ggX10_salvage_X10_in : GoodIn wsX10_salvage wsX10_in := goodIn_r _ [23] (by decide +kernel) (by decide +kernel)
set_option maxRecDepth 20000 in
theorem gX10_salvage_X10_in : GoodIn wsX10_salvage (va_wsS RX10 104 yX10_in wsX10_in) := goodIn_app (goodIn_of _ (by decide +kernel)) ggX10_salvage_X10_in
theorem dX10_salvage_0 : decode cX10_salvage 0 = .ok (.aload_n 0, 1) := by decide +kernel
theorem dX10_salvage_1 : decode cX10_salvage 1 = .ok (.iconst 0, 1) := by decide +kernel
theorem dX10_salvage_2 : decode cX10_salvage 2 = .ok (.putfield 100, 3) := by decide +kernel
theorem dX10_salvage_5 : decode cX10_salvage 5 = .ok (.iconst 0, 1) := by decide +kernel
theorem dX10_salvage_6 : decode cX10_salvage 6 = .ok (.istore_n 1, 1) := by decide +kernel
theorem dX10_salvage_7 : decode cX10_salvage 7 = .ok (.iload_n 1, 1) := by decide +kernel
theorem dX10_salvage_8 : decode cX10_salvage 8 = .ok (.bipush 64, 2) := by decide +kernel
theorem dX10_salvage_10 : decode cX10_salvage 10 = .ok (.if_icmp .ge 16, 3) := by decide +kernel
theorem dX10_salvage_13 : decode cX10_salvage 13 = .ok (.aload_n 0, 1) := by decide +kernel
theorem dX10_salvage_14 : decode cX10_salvage 14 = .ok (.getfield 72, 3) := by decide +kernel
theorem dX10_salvage_17 : decode cX10_salvage 17 = .ok (.iload_n 1, 1) := by decide +kernel
theorem dX10_salvage_18 : decode cX10_salvage 18 = .ok (.iconst 0, 1) := by decide +kernel
theorem dX10_salvage_19 : decode cX10_salvage 19 = .ok (.bastore, 1) := by decide +kernel
theorem dX10_salvage_20 : decode cX10_salvage 20 = .ok (.iinc 1 1, 3) := by decide +kernel
theorem dX10_salvage_23 : decode cX10_salvage 23 = .ok (.goto (-16), 3) := by decide +kernel
theorem dX10_salvage_26 : decode cX10_salvage 26 = .ok (.iconst 0, 1) := by decide +kernel
theorem dX10_salvage_27 : decode cX10_salvage 27 = .ok (.istore_n 1, 1) := by decide +kernel
theorem dX10_salvage_28 : decode cX10_salvage 28 = .ok (.iconst 2, 1) := by decide +kernel
theorem dX10_salvage_29 : decode cX10_salvage 29 = .ok (.istore_n 2, 1) := by decide +kernel
theorem dX10_salvage_30 : decode cX10_salvage 30 = .ok (.iload_n 2, 1) := by decide +kernel
theorem dX10_salvage_31 : decode cX10_salvage 31 = .ok (.bipush 32, 2) := by decide +kernel
theorem dX10_salvage_33 : decode cX10_salvage 33 = .ok (.if_icmp .ge 186, 3) := by decide +kernel
theorem dX10_salvage_36 : decode cX10_salvage 36 = .ok (.aload_n 0, 1) := by decide +kernel
theorem dX10_salvage_37 : decode cX10_salvage 37 = .ok (.iload_n 2, 1) := by decide +kernel
theorem dX10_salvage_38 : decode cX10_salvage 38 = .ok (.invokevirtual 251, 3) := by decide +kernel
theorem dX10_salvage_41 : decode cX10_salvage 41 = .ok (.ifCond .eq 32, 3) := by decide +kernel
theorem dX10_salvage_44 : decode cX10_salvage 44 = .ok (.aload_n 0, 1) := by decide +kernel
theorem dX10_salvage_45 : decode cX10_salvage 45 = .ok (.iload_n 2, 1) := by decide +kernel
theorem dX10_salvage_46 : decode cX10_salvage 46 = .ok (.iconst 0, 1) := by decide +kernel
theorem dX10_salvage_47 : decode cX10_salvage 47 = .ok (.invokevirtual 108, 3) := by decide +kernel
theorem dX10_salvage_50 : decode cX10_salvage 50 = .ok (.iconst 3, 1) := by decide +kernel
theorem dX10_salvage_51 : decode cX10_salvage 51 = .ok (.if_icmp .ne 22, 3) := by decide +kernel
theorem dX10_salvage_54 : decode cX10_salvage 54 = .ok (.aload_n 0, 1) := by decide +kernel
theorem dX10_salvage_55 : decode cX10_salvage 55 = .ok (.iload_n 2, 1) := by decide +kernel
theorem dX10_salvage_56 : decode cX10_salvage 56 = .ok (.iconst 2, 1) := by decide +kernel
theorem dX10_salvage_57 : decode cX10_salvage 57 = .ok (.invokevirtual 108, 3) := by decide +kernel
theorem dX10_salvage_60 : decode cX10_salvage 60 = .ok (.iconst 0, 1) := by decide +kernel
theorem dX10_salvage_61 : decode cX10_salvage 61 = .ok (.bipush 7, 2) := by decide +kernel
theorem dX10_salvage_63 : decode cX10_salvage 63 = .ok (.invokestatic 104, 3) := by decide +kernel
theorem dX10_salvage_66 : decode cX10_salvage 66 = .ok (.ifCond .eq 7, 3) := by decide +kernel
theorem dX10_salvage_69 : decode cX10_salvage 69 = .ok (.iconst 1, 1) := by decide +kernel
theorem dX10_salvage_70 : decode cX10_salvage 70 = .ok (.goto 4, 3) := by decide +kernel
theorem dX10_salvage_73 : decode cX10_salvage 73 = .ok (.iconst 0, 1) := by decide +kernel
theorem dX10_salvage_74 : decode cX10_salvage 74 = .ok (.istore_n 3, 1) := by decide +kernel
theorem dX10_salvage_75 : decode cX10_salvage 75 = .ok (.iconst 0, 1) := by decide +kernel
theorem dX10_salvage_76 : decode cX10_salvage 76 = .ok (.istore 4, 2) := by decide +kernel
theorem dX10_salvage_78 : decode cX10_salvage 78 = .ok (.iload 4, 2) := by decide +kernel
theorem dX10_salvage_80 : decode cX10_salvage 80 = .ok (.bipush 8, 2) := by decide +kernel
theorem dX10_salvage_82 : decode cX10_salvage 82 = .ok (.if_icmp .ge 131, 3) := by decide +kernel
theorem dX10_salvage_85 : decode cX10_salvage 85 = .ok (.iload_n 3, 1) := by decide +kernel
theorem dX10_salvage_86 : decode cX10_salvage 86 = .ok (.ifCond .eq 127, 3) := by decide +kernel
theorem dX10_salvage_89 : decode cX10_salvage 89 = .ok (.aload_n 0, 1) := by decide +kernel
theorem dX10_salvage_90 : decode cX10_salvage 90 = .ok (.iload_n 2, 1) := by decide +kernel
theorem dX10_salvage_91 : decode cX10_salvage 91 = .ok (.iconst 2, 1) := by decide +kernel
theorem dX10_salvage_92 : decode cX10_salvage 92 = .ok (.invokevirtual 108, 3) := by decide +kernel
theorem dX10_salvage_95 : decode cX10_salvage 95 = .ok (.bipush 8, 2) := by decide +kernel
theorem dX10_salvage_97 : decode cX10_salvage 97 = .ok (.iload 4, 2) := by decide +kernel
theorem dX10_salvage_99 : decode cX10_salvage 99 = .ok (.imul, 1) := by decide +kernel
theorem dX10_salvage_100 : decode cX10_salvage 100 = .ok (.iadd, 1) := by decide +kernel
theorem dX10_salvage_101 : decode cX10_salvage 101 = .ok (.istore 5, 2) := by decide +kernel
theorem dX10_salvage_103 : decode cX10_salvage 103 = .ok (.aload_n 0, 1) := by decide +kernel
theorem dX10_salvage_104 : decode cX10_salvage 104 = .ok (.iload_n 2, 1) := by decide +kernel
theorem dX10_salvage_105 : decode cX10_salvage 105 = .ok (.iconst 3, 1) := by decide +kernel
theorem dX10_salvage_106 : decode cX10_salvage 106 = .ok (.invokevirtual 108, 3) := by decide +kernel
theorem dX10_salvage_109 : decode cX10_salvage 109 = .ok (.iload 4, 2) := by decide +kernel
theorem dX10_salvage_111 : decode cX10_salvage 111 = .ok (.ishr, 1) := by decide +kernel
theorem dX10_salvage_112 : decode cX10_salvage 112 = .ok (.iconst 1, 1) := by decide +kernel
theorem dX10_salvage_113 : decode cX10_salvage 113 = .ok (.iand, 1) := by decide +kernel
theorem dX10_salvage_114 : decode cX10_salvage 114 = .ok (.iconst 1, 1) := by decide +kernel
theorem dX10_salvage_115 : decode cX10_salvage 115 = .ok (.if_icmp .ne 92, 3) := by decide +kernel
theorem dX10_salvage_118 : decode cX10_salvage 118 = .ok (.aload_n 0, 1) := by decide +kernel
theorem dX10_salvage_119 : decode cX10_salvage 119 = .ok (.getfield 72, 3) := by decide +kernel
theorem dX10_salvage_122 : decode cX10_salvage 122 = .ok (.iload 5, 2) := by decide +kernel
theorem dX10_salvage_124 : decode cX10_salvage 124 = .ok (.baload, 1) := by decide +kernel
theorem dX10_salvage_125 : decode cX10_salvage 125 = .ok (.ifCond .eq 19, 3) := by decide +kernel
theorem dX10_salvage_128 : decode cX10_salvage 128 = .ok (.aload_n 0, 1) := by decide +kernel
theorem dX10_salvage_129 : decode cX10_salvage 129 = .ok (.iload_n 2, 1) := by decide +kernel
theorem dX10_salvage_130 : decode cX10_salvage 130 = .ok (.iconst 1, 1) := by decide +kernel
theorem dX10_salvage_131 : decode cX10_salvage 131 = .ok (.invokevirtual 108, 3) := by decide +kernel
theorem dX10_salvage_134 : decode cX10_salvage 134 = .ok (.aload_n 0, 1) := by decide +kernel
theorem dX10_salvage_135 : decode cX10_salvage 135 = .ok (.getfield 78, 3) := by decide +kernel
theorem dX10_salvage_138 : decode cX10_salvage 138 = .ok (.iload 5, 2) := by decide +kernel
theorem dX10_salvage_140 : decode cX10_salvage 140 = .ok (.iaload, 1) := by decide +kernel
theorem dX10_salvage_141 : decode cX10_salvage 141 = .ok (.if_icmp .le 66, 3) := by decide +kernel
theorem dX10_salvage_144 : decode cX10_salvage 144 = .ok (.iload_n 1, 1) := by decide +kernel
theorem dX10_salvage_145 : decode cX10_salvage 145 = .ok (.aload_n 0, 1) := by decide +kernel
theorem dX10_salvage_146 : decode cX10_salvage 146 = .ok (.getfield 72, 3) := by decide +kernel
theorem dX10_salvage_149 : decode cX10_salvage 149 = .ok (.iload 5, 2) := by decide +kernel
theorem dX10_salvage_151 : decode cX10_salvage 151 = .ok (.baload, 1) := by decide +kernel
theorem dX10_salvage_152 : decode cX10_salvage 152 = .ok (.ifCond .eq 7, 3) := by decide +kernel
theorem dX10_salvage_155 : decode cX10_salvage 155 = .ok (.iconst 0, 1) := by decide +kernel
theorem dX10_salvage_156 : decode cX10_salvage 156 = .ok (.goto 4, 3) := by decide +kernel
theorem dX10_salvage_159 : decode cX10_salvage 159 = .ok (.iconst 1, 1) := by decide +kernel
theorem dX10_salvage_160 : decode cX10_salvage 160 = .ok (.iadd, 1) := by decide +kernel
theorem dX10_salvage_161 : decode cX10_salvage 161 = .ok (.istore_n 1, 1) := by decide +kernel
theorem dX10_salvage_162 : decode cX10_salvage 162 = .ok (.aload_n 0, 1) := by decide +kernel
theorem dX10_salvage_163 : decode cX10_salvage 163 = .ok (.getfield 72, 3) := by decide +kernel
theorem dX10_salvage_166 : decode cX10_salvage 166 = .ok (.iload 5, 2) := by decide +kernel
theorem dX10_salvage_168 : decode cX10_salvage 168 = .ok (.iconst 1, 1) := by decide +kernel
theorem dX10_salvage_169 : decode cX10_salvage 169 = .ok (.bastore, 1) := by decide +kernel
theorem dX10_salvage_170 : decode cX10_salvage 170 = .ok (.aload_n 0, 1) := by decide +kernel
theorem dX10_salvage_171 : decode cX10_salvage 171 = .ok (.getfield 75, 3) := by decide +kernel
theorem dX10_salvage_174 : decode cX10_salvage 174 = .ok (.iload 5, 2) := by decide +kernel
theorem dX10_salvage_176 : decode cX10_salvage 176 = .ok (.aload_n 0, 1) := by decide +kernel
theorem dX10_salvage_177 : decode cX10_salvage 177 = .ok (.iload_n 2, 1) := by decide +kernel
theorem dX10_salvage_178 : decode cX10_salvage 178 = .ok (.iconst 4, 1) := by decide +kernel
theorem dX10_salvage_179 : decode cX10_salvage 179 = .ok (.iload 4, 2) := by decide +kernel
theorem dX10_salvage_181 : decode cX10_salvage 181 = .ok (.iadd, 1) := by decide +kernel
theorem dX10_salvage_182 : decode cX10_salvage 182 = .ok (.invokevirtual 108, 3) := by decide +kernel
theorem dX10_salvage_185 : decode cX10_salvage 185 = .ok (.iastore, 1) := by decide +kernel
theorem dX10_salvage_186 : decode cX10_salvage 186 = .ok (.aload_n 0, 1) := by decide +kernel
theorem dX10_salvage_187 : decode cX10_salvage 187 = .ok (.getfield 78, 3) := by decide +kernel
theorem dX10_salvage_190 : decode cX10_salvage 190 = .ok (.iload 5, 2) := by decide +kernel
theorem dX10_salvage_192 : decode cX10_salvage 192 = .ok (.aload_n 0, 1) := by decide +kernel
theorem dX10_salvage_193 : decode cX10_salvage 193 = .ok (.iload_n 2, 1) := by decide +kernel
theorem dX10_salvage_194 : decode cX10_salvage 194 = .ok (.iconst 1, 1) := by decide +kernel
theorem dX10_salvage_195 : decode cX10_salvage 195 = .ok (.invokevirtual 108, 3) := by decide +kernel
theorem dX10_salvage_198 : decode cX10_salvage 198 = .ok (.iastore, 1) := by decide +kernel
theorem dX10_salvage_199 : decode cX10_salvage 199 = .ok (.aload_n 0, 1) := by decide +kernel
theorem dX10_salvage_200 : decode cX10_salvage 200 = .ok (.getfield 81, 3) := by decide +kernel
theorem dX10_salvage_203 : decode cX10_salvage 203 = .ok (.iload 5, 2) := by decide +kernel
theorem dX10_salvage_205 : decode cX10_salvage 205 = .ok (.iload_n 2, 1) := by decide +kernel
theorem dX10_salvage_206 : decode cX10_salvage 206 = .ok (.iastore, 1) := by decide +kernel
theorem dX10_salvage_207 : decode cX10_salvage 207 = .ok (.iinc 4 1, 3) := by decide +kernel
theorem dX10_salvage_210 : decode cX10_salvage 210 = .ok (.goto (-132), 3) := by decide +kernel
theorem dX10_salvage_213 : decode cX10_salvage 213 = .ok (.iinc 2 1, 3) := by decide +kernel
theorem dX10_salvage_216 : decode cX10_salvage 216 = .ok (.goto (-186), 3) := by decide +kernel
theorem dX10_salvage_219 : decode cX10_salvage 219 = .ok (.aload_n 0, 1) := by decide +kernel
theorem dX10_salvage_220 : decode cX10_salvage 220 = .ok (.getfield 69, 3) := by decide +kernel
theorem dX10_salvage_223 : decode cX10_salvage 223 = .ok (.bipush 6, 2) := by decide +kernel
theorem dX10_salvage_225 : decode cX10_salvage 225 = .ok (.dup2, 1) := by decide +kernel
theorem dX10_salvage_226 : decode cX10_salvage 226 = .ok (.iaload, 1) := by decide +kernel
theorem dX10_salvage_227 : decode cX10_salvage 227 = .ok (.iload_n 1, 1) := by decide +kernel
theorem dX10_salvage_228 : decode cX10_salvage 228 = .ok (.iadd, 1) := by decide +kernel
theorem dX10_salvage_229 : decode cX10_salvage 229 = .ok (.iastore, 1) := by decide +kernel
theorem dX10_salvage_230 : decode cX10_salvage 230 = .ok (.iload_n 1, 1) := by decide +kernel
theorem dX10_salvage_231 : decode cX10_salvage 231 = .ok (.ireturn, 1) := by decide +kernel
set_option maxRecDepth 20000 in
theorem ggX10_salvaged_X10_in : GoodIn wsX10_salvaged wsX10_in := goodIn_r _ [9] (by decide +kernel) (by decide +kernel)
set_option maxRecDepth 20000 in
theorem gX10_salvaged_X10_in : GoodIn wsX10_salvaged (va_wsS RX10 104 yX10_in wsX10_in) := goodIn_app (goodIn_of _ (by decide +kernel)) ggX10_salvaged_X10_in
theorem dX10_salvaged_0 : decode cX10_salvaged 0 = .ok (.iconst (-1), 1) := by decide +kernel
theorem dX10_salvaged_1 : decode cX10_salvaged 1 = .ok (.istore_n 3, 1) := by decide +kernel
theorem dX10_salvaged_2 : decode cX10_salvaged 2 = .ok (.iload_n 1, 1) := by decide +kernel
theorem dX10_salvaged_3 : decode cX10_salvaged 3 = .ok (.istore 4, 2) := by decide +kernel
theorem dX10_salvaged_5 : decode cX10_salvaged 5 = .ok (.iconst 0, 1) := by decide +kernel
theorem dX10_salvaged_6 : decode cX10_salvaged 6 = .ok (.istore 5, 2) := by decide +kernel
theorem dX10_salvaged_8 : decode cX10_salvaged 8 = .ok (.iload 5, 2) := by decide +kernel
theorem dX10_salvaged_10 : decode cX10_salvaged 10 = .ok (.bipush 64, 2) := by decide +kernel
theorem dX10_salvaged_12 : decode cX10_salvaged 12 = .ok (.if_icmp .ge 34, 3) := by decide +kernel
theorem dX10_salvaged_15 : decode cX10_salvaged 15 = .ok (.aload_n 0, 1) := by decide +kernel
theorem dX10_salvaged_16 : decode cX10_salvaged 16 = .ok (.getfield 72, 3) := by decide +kernel
theorem dX10_salvaged_19 : decode cX10_salvaged 19 = .ok (.iload 5, 2) := by decide +kernel
theorem dX10_salvaged_21 : decode cX10_salvaged 21 = .ok (.baload, 1) := by decide +kernel
theorem dX10_salvaged_22 : decode cX10_salvaged 22 = .ok (.ifCond .eq 18, 3) := by decide +kernel
theorem dX10_salvaged_25 : decode cX10_salvaged 25 = .ok (.iload 4, 2) := by decide +kernel
theorem dX10_salvaged_27 : decode cX10_salvaged 27 = .ok (.ifCond .ne 8, 3) := by decide +kernel
theorem dX10_salvaged_30 : decode cX10_salvaged 30 = .ok (.iload 5, 2) := by decide +kernel
theorem dX10_salvaged_32 : decode cX10_salvaged 32 = .ok (.goto 4, 3) := by decide +kernel
theorem dX10_salvaged_35 : decode cX10_salvaged 35 = .ok (.iload_n 3, 1) := by decide +kernel
theorem dX10_salvaged_36 : decode cX10_salvaged 36 = .ok (.istore_n 3, 1) := by decide +kernel
theorem dX10_salvaged_37 : decode cX10_salvaged 37 = .ok (.iinc 4 (-1), 3) := by decide +kernel
theorem dX10_salvaged_40 : decode cX10_salvaged 40 = .ok (.iinc 5 1, 3) := by decide +kernel
theorem dX10_salvaged_43 : decode cX10_salvaged 43 = .ok (.goto (-35), 3) := by decide +kernel
theorem dX10_salvaged_46 : decode cX10_salvaged 46 = .ok (.aload_n 0, 1) := by decide +kernel
theorem dX10_salvaged_47 : decode cX10_salvaged 47 = .ok (.iload_n 3, 1) := by decide +kernel
theorem dX10_salvaged_48 : decode cX10_salvaged 48 = .ok (.ifCond .ge 7, 3) := by decide +kernel
theorem dX10_salvaged_51 : decode cX10_salvaged 51 = .ok (.iconst 1, 1) := by decide +kernel
theorem dX10_salvaged_52 : decode cX10_salvaged 52 = .ok (.goto 17, 3) := by decide +kernel
theorem dX10_salvaged_55 : decode cX10_salvaged 55 = .ok (.iload_n 2, 1) := by decide +kernel
theorem dX10_salvaged_56 : decode cX10_salvaged 56 = .ok (.iconst 0, 1) := by decide +kernel
theorem dX10_salvaged_57 : decode cX10_salvaged 57 = .ok (.iconst 3, 1) := by decide +kernel
theorem dX10_salvaged_58 : decode cX10_salvaged 58 = .ok (.invokestatic 104, 3) := by decide +kernel
theorem dX10_salvaged_61 : decode cX10_salvaged 61 = .ok (.ifCond .ne 7, 3) := by decide +kernel
theorem dX10_salvaged_64 : decode cX10_salvaged 64 = .ok (.iconst 2, 1) := by decide +kernel
theorem dX10_salvaged_65 : decode cX10_salvaged 65 = .ok (.goto 4, 3) := by decide +kernel
theorem dX10_salvaged_68 : decode cX10_salvaged 68 = .ok (.iconst 0, 1) := by decide +kernel
theorem dX10_salvaged_69 : decode cX10_salvaged 69 = .ok (.putfield 100, 3) := by decide +kernel
theorem dX10_salvaged_72 : decode cX10_salvaged 72 = .ok (.aload_n 0, 1) := by decide +kernel
theorem dX10_salvaged_73 : decode cX10_salvaged 73 = .ok (.getfield 100, 3) := by decide +kernel
theorem dX10_salvaged_76 : decode cX10_salvaged 76 = .ok (.ifCond .le 5, 3) := by decide +kernel
theorem dX10_salvaged_79 : decode cX10_salvaged 79 = .ok (.iconst 0, 1) := by decide +kernel
theorem dX10_salvaged_80 : decode cX10_salvaged 80 = .ok (.ireturn, 1) := by decide +kernel
theorem dX10_salvaged_81 : decode cX10_salvaged 81 = .ok (.iload_n 2, 1) := by decide +kernel
theorem dX10_salvaged_82 : decode cX10_salvaged 82 = .ok (.ifCond .ne 7, 3) := by decide +kernel
theorem dX10_salvaged_85 : decode cX10_salvaged 85 = .ok (.iload_n 3, 1) := by decide +kernel
theorem dX10_salvaged_86 : decode cX10_salvaged 86 = .ok (.goto 37, 3) := by decide +kernel
theorem dX10_salvaged_89 : decode cX10_salvaged 89 = .ok (.iload_n 2, 1) := by decide +kernel
theorem dX10_salvaged_90 : decode cX10_salvaged 90 = .ok (.iconst 1, 1) := by decide +kernel
theorem dX10_salvaged_91 : decode cX10_salvaged 91 = .ok (.if_icmp .ne 12, 3) := by decide +kernel
theorem dX10_salvaged_94 : decode cX10_salvaged 94 = .ok (.aload_n 0, 1) := by decide +kernel
theorem dX10_salvaged_95 : decode cX10_salvaged 95 = .ok (.getfield 75, 3) := by decide +kernel
theorem dX10_salvaged_98 : decode cX10_salvaged 98 = .ok (.iload_n 3, 1) := by decide +kernel
theorem dX10_salvaged_99 : decode cX10_salvaged 99 = .ok (.iaload, 1) := by decide +kernel
theorem dX10_salvaged_100 : decode cX10_salvaged 100 = .ok (.goto 23, 3) := by decide +kernel
theorem dX10_salvaged_103 : decode cX10_salvaged 103 = .ok (.iload_n 2, 1) := by decide +kernel
theorem dX10_salvaged_104 : decode cX10_salvaged 104 = .ok (.iconst 2, 1) := by decide +kernel
theorem dX10_salvaged_105 : decode cX10_salvaged 105 = .ok (.if_icmp .ne 12, 3) := by decide +kernel
theorem dX10_salvaged_108 : decode cX10_salvaged 108 = .ok (.aload_n 0, 1) := by decide +kernel
theorem dX10_salvaged_109 : decode cX10_salvaged 109 = .ok (.getfield 78, 3) := by decide +kernel
theorem dX10_salvaged_112 : decode cX10_salvaged 112 = .ok (.iload_n 3, 1) := by decide +kernel
theorem dX10_salvaged_113 : decode cX10_salvaged 113 = .ok (.iaload, 1) := by decide +kernel
theorem dX10_salvaged_114 : decode cX10_salvaged 114 = .ok (.goto 9, 3) := by decide +kernel
theorem dX10_salvaged_117 : decode cX10_salvaged 117 = .ok (.aload_n 0, 1) := by decide +kernel
theorem dX10_salvaged_118 : decode cX10_salvaged 118 = .ok (.getfield 81, 3) := by decide +kernel
theorem dX10_salvaged_121 : decode cX10_salvaged 121 = .ok (.iload_n 3, 1) := by decide +kernel
theorem dX10_salvaged_122 : decode cX10_salvaged 122 = .ok (.iaload, 1) := by decide +kernel
theorem dX10_salvaged_123 : decode cX10_salvaged 123 = .ok (.ireturn, 1) := by decide +kernel
set_option maxRecDepth 20000 in
theorem ggX10_adopt_X10_isSlot : GoodIn wsX10_adopt wsX10_isSlot := goodIn_r _ [8, 9, 10, 7, 11] (by decide +kernel) (by decide +kernel)
set_option maxRecDepth 20000 in
theorem gX10_adopt_X10_isSlot : GoodIn wsX10_adopt (va_wsS RX10 139 yX10_isSlot wsX10_isSlot) := goodIn_app (goodIn_of _ (by decide +kernel)) ggX10_adopt_X10_isSlot
set_option maxRecDepth 20000 in
theorem ggX10_adopt_X10_change : GoodIn wsX10_adopt wsX10_change := goodIn_r _ [15, 16, 17, 18, 19, 20, 21, 22, 23, 24, 25, 26, 27, 28, 29, 30, 31, 32, 33, 34, 35, 36, 37, 38, 39, 40, 41, 42, 43, 44, 45, 46, 47, 48, 49, 50, 51, 52, 53, 54, 55, 56] (by decide +kernel) (by decide +kernel)
set_option maxRecDepth 20000 in
theorem gX10_adopt_X10_change : GoodIn wsX10_adopt (wsV RX10 150 RX10 yX10_change wsX10_change) := goodIn_app (goodIn_of _ (by decide +kernel)) ggX10_adopt_X10_change
theorem dX10_adopt_0 : decode cX10_adopt 0 = .ok (.aload_n 0, 1) := by decide +kernel
theorem dX10_adopt_1 : decode cX10_adopt 1 = .ok (.iload_n 1, 1) := by decide +kernel
theorem dX10_adopt_2 : decode cX10_adopt 2 = .ok (.invokestatic 139, 3) := by decide +kernel
theorem dX10_adopt_5 : decode cX10_adopt 5 = .ok (.ifCond .ne 7, 3) := by decide +kernel
theorem dX10_adopt_8 : decode cX10_adopt 8 = .ok (.iconst 1, 1) := by decide +kernel
theorem dX10_adopt_9 : decode cX10_adopt 9 = .ok (.goto 18, 3) := by decide +kernel
theorem dX10_adopt_12 : decode cX10_adopt 12 = .ok (.aload_n 0, 1) := by decide +kernel
theorem dX10_adopt_13 : decode cX10_adopt 13 = .ok (.getfield 32, 3) := by decide +kernel
theorem dX10_adopt_16 : decode cX10_adopt 16 = .ok (.iload_n 1, 1) := by decide +kernel
theorem dX10_adopt_17 : decode cX10_adopt 17 = .ok (.iaload, 1) := by decide +kernel
theorem dX10_adopt_18 : decode cX10_adopt 18 = .ok (.iconst 1, 1) := by decide +kernel
theorem dX10_adopt_19 : decode cX10_adopt 19 = .ok (.if_icmp .eq 7, 3) := by decide +kernel
theorem dX10_adopt_22 : decode cX10_adopt 22 = .ok (.iconst 2, 1) := by decide +kernel
theorem dX10_adopt_23 : decode cX10_adopt 23 = .ok (.goto 4, 3) := by decide +kernel
theorem dX10_adopt_26 : decode cX10_adopt 26 = .ok (.iconst 0, 1) := by decide +kernel
theorem dX10_adopt_27 : decode cX10_adopt 27 = .ok (.putfield 100, 3) := by decide +kernel
theorem dX10_adopt_30 : decode cX10_adopt 30 = .ok (.iconst 0, 1) := by decide +kernel
theorem dX10_adopt_31 : decode cX10_adopt 31 = .ok (.istore_n 2, 1) := by decide +kernel
theorem dX10_adopt_32 : decode cX10_adopt 32 = .ok (.iconst 0, 1) := by decide +kernel
theorem dX10_adopt_33 : decode cX10_adopt 33 = .ok (.istore_n 3, 1) := by decide +kernel
theorem dX10_adopt_34 : decode cX10_adopt 34 = .ok (.iload_n 3, 1) := by decide +kernel
theorem dX10_adopt_35 : decode cX10_adopt 35 = .ok (.bipush 64, 2) := by decide +kernel
theorem dX10_adopt_37 : decode cX10_adopt 37 = .ok (.if_icmp .ge 40, 3) := by decide +kernel
theorem dX10_adopt_40 : decode cX10_adopt 40 = .ok (.aload_n 0, 1) := by decide +kernel
theorem dX10_adopt_41 : decode cX10_adopt 41 = .ok (.getfield 100, 3) := by decide +kernel
theorem dX10_adopt_44 : decode cX10_adopt 44 = .ok (.ifCond .ne 33, 3) := by decide +kernel
theorem dX10_adopt_47 : decode cX10_adopt 47 = .ok (.aload_n 0, 1) := by decide +kernel
theorem dX10_adopt_48 : decode cX10_adopt 48 = .ok (.getfield 72, 3) := by decide +kernel
theorem dX10_adopt_51 : decode cX10_adopt 51 = .ok (.iload_n 3, 1) := by decide +kernel
theorem dX10_adopt_52 : decode cX10_adopt 52 = .ok (.baload, 1) := by decide +kernel
theorem dX10_adopt_53 : decode cX10_adopt 53 = .ok (.ifCond .eq 18, 3) := by decide +kernel
theorem dX10_adopt_56 : decode cX10_adopt 56 = .ok (.aload_n 0, 1) := by decide +kernel
theorem dX10_adopt_57 : decode cX10_adopt 57 = .ok (.iload_n 1, 1) := by decide +kernel
theorem dX10_adopt_58 : decode cX10_adopt 58 = .ok (.iload_n 3, 1) := by decide +kernel
theorem dX10_adopt_59 : decode cX10_adopt 59 = .ok (.aload_n 0, 1) := by decide +kernel
theorem dX10_adopt_60 : decode cX10_adopt 60 = .ok (.getfield 75, 3) := by decide +kernel
theorem dX10_adopt_63 : decode cX10_adopt 63 = .ok (.iload_n 3, 1) := by decide +kernel
theorem dX10_adopt_64 : decode cX10_adopt 64 = .ok (.iaload, 1) := by decide +kernel
theorem dX10_adopt_65 : decode cX10_adopt 65 = .ok (.invokevirtual 150, 3) := by decide +kernel
theorem dX10_adopt_68 : decode cX10_adopt 68 = .ok (.iinc 2 1, 3) := by decide +kernel
theorem dX10_adopt_71 : decode cX10_adopt 71 = .ok (.iinc 3 1, 3) := by decide +kernel
theorem dX10_adopt_74 : decode cX10_adopt 74 = .ok (.goto (-40), 3) := by decide +kernel
theorem dX10_adopt_77 : decode cX10_adopt 77 = .ok (.iload_n 2, 1) := by decide +kernel
theorem dX10_adopt_78 : decode cX10_adopt 78 = .ok (.ireturn, 1) := by decide +kernel
theorem dJ13_bitCount_95d88_0 : decode cJ13_bitCount_95d88 0 = .ok (.lload_n 0, 1) := by decide +kernel
theorem dJ13_bitCount_95d88_1 : decode cJ13_bitCount_95d88 1 = .ok (.lload_n 0, 1) := by decide +kernel
theorem dJ13_bitCount_95d88_2 : decode cJ13_bitCount_95d88 2 = .ok (.iconst 1, 1) := by decide +kernel
theorem dJ13_bitCount_95d88_3 : decode cJ13_bitCount_95d88 3 = .ok (.lushr, 1) := by decide +kernel
theorem dJ13_bitCount_95d88_4 : decode cJ13_bitCount_95d88 4 = .ok (.ldc2_w 314, 3) := by decide +kernel
theorem dJ13_bitCount_95d88_7 : decode cJ13_bitCount_95d88 7 = .ok (.land, 1) := by decide +kernel
theorem dJ13_bitCount_95d88_8 : decode cJ13_bitCount_95d88 8 = .ok (.lsub, 1) := by decide +kernel
theorem dJ13_bitCount_95d88_9 : decode cJ13_bitCount_95d88 9 = .ok (.lstore_n 0, 1) := by decide +kernel
theorem dJ13_bitCount_95d88_10 : decode cJ13_bitCount_95d88 10 = .ok (.lload_n 0, 1) := by decide +kernel
theorem dJ13_bitCount_95d88_11 : decode cJ13_bitCount_95d88 11 = .ok (.ldc2_w 316, 3) := by decide +kernel
theorem dJ13_bitCount_95d88_14 : decode cJ13_bitCount_95d88 14 = .ok (.land, 1) := by decide +kernel
theorem dJ13_bitCount_95d88_15 : decode cJ13_bitCount_95d88 15 = .ok (.lload_n 0, 1) := by decide +kernel
theorem dJ13_bitCount_95d88_16 : decode cJ13_bitCount_95d88 16 = .ok (.iconst 2, 1) := by decide +kernel
theorem dJ13_bitCount_95d88_17 : decode cJ13_bitCount_95d88 17 = .ok (.lushr, 1) := by decide +kernel
theorem dJ13_bitCount_95d88_18 : decode cJ13_bitCount_95d88 18 = .ok (.ldc2_w 316, 3) := by decide +kernel
theorem dJ13_bitCount_95d88_21 : decode cJ13_bitCount_95d88 21 = .ok (.land, 1) := by decide +kernel
theorem dJ13_bitCount_95d88_22 : decode cJ13_bitCount_95d88 22 = .ok (.ladd, 1) := by decide +kernel
theorem dJ13_bitCount_95d88_23 : decode cJ13_bitCount_95d88 23 = .ok (.lstore_n 0, 1) := by decide +kernel
theorem dJ13_bitCount_95d88_24 : decode cJ13_bitCount_95d88 24 = .ok (.lload_n 0, 1) := by decide +kernel
theorem dJ13_bitCount_95d88_25 : decode cJ13_bitCount_95d88 25 = .ok (.lload_n 0, 1) := by decide +kernel
theorem dJ13_bitCount_95d88_26 : decode cJ13_bitCount_95d88 26 = .ok (.iconst 4, 1) := by decide +kernel
theorem dJ13_bitCount_95d88_27 : decode cJ13_bitCount_95d88 27 = .ok (.lushr, 1) := by decide +kernel
theorem dJ13_bitCount_95d88_28 : decode cJ13_bitCount_95d88 28 = .ok (.ladd, 1) := by decide +kernel
theorem dJ13_bitCount_95d88_29 : decode cJ13_bitCount_95d88 29 = .ok (.ldc2_w 318, 3) := by decide +kernel
theorem dJ13_bitCount_95d88_32 : decode cJ13_bitCount_95d88 32 = .ok (.land, 1) := by decide +kernel
theorem dJ13_bitCount_95d88_33 : decode cJ13_bitCount_95d88 33 = .ok (.lstore_n 0, 1) := by decide +kernel
theorem dJ13_bitCount_95d88_34 : decode cJ13_bitCount_95d88 34 = .ok (.lload_n 0, 1) := by decide +kernel
theorem dJ13_bitCount_95d88_35 : decode cJ13_bitCount_95d88 35 = .ok (.lload_n 0, 1) := by decide +kernel
theorem dJ13_bitCount_95d88_36 : decode cJ13_bitCount_95d88 36 = .ok (.bipush 8, 2) := by decide +kernel
theorem dJ13_bitCount_95d88_38 : decode cJ13_bitCount_95d88 38 = .ok (.lushr, 1) := by decide +kernel
theorem dJ13_bitCount_95d88_39 : decode cJ13_bitCount_95d88 39 = .ok (.ladd, 1) := by decide +kernel
theorem dJ13_bitCount_95d88_40 : decode cJ13_bitCount_95d88 40 = .ok (.lstore_n 0, 1) := by decide +kernel
theorem dJ13_bitCount_95d88_41 : decode cJ13_bitCount_95d88 41 = .ok (.lload_n 0, 1) := by decide +kernel
theorem dJ13_bitCount_95d88_42 : decode cJ13_bitCount_95d88 42 = .ok (.lload_n 0, 1) := by decide +kernel
theorem dJ13_bitCount_95d88_43 : decode cJ13_bitCount_95d88 43 = .ok (.bipush 16, 2) := by decide +kernel
theorem dJ13_bitCount_95d88_45 : decode cJ13_bitCount_95d88 45 = .ok (.lushr, 1) := by decide +kernel
theorem dJ13_bitCount_95d88_46 : decode cJ13_bitCount_95d88 46 = .ok (.ladd, 1) := by decide +kernel
theorem dJ13_bitCount_95d88_47 : decode cJ13_bitCount_95d88 47 = .ok (.lstore_n 0, 1) := by decide +kernel
theorem dJ13_bitCount_95d88_48 : decode cJ13_bitCount_95d88 48 = .ok (.lload_n 0, 1) := by decide +kernel
theorem dJ13_bitCount_95d88_49 : decode cJ13_bitCount_95d88 49 = .ok (.lload_n 0, 1) := by decide +kernel
theorem dJ13_bitCount_95d88_50 : decode cJ13_bitCount_95d88 50 = .ok (.bipush 32, 2) := by decide +kernel
theorem dJ13_bitCount_95d88_52 : decode cJ13_bitCount_95d88 52 = .ok (.lushr, 1) := by decide +kernel
theorem dJ13_bitCount_95d88_53 : decode cJ13_bitCount_95d88 53 = .ok (.ladd, 1) := by decide +kernel
theorem dJ13_bitCount_95d88_54 : decode cJ13_bitCount_95d88 54 = .ok (.lstore_n 0, 1) := by decide +kernel
theorem dJ13_bitCount_95d88_55 : decode cJ13_bitCount_95d88 55 = .ok (.lload_n 0, 1) := by decide +kernel
theorem dJ13_bitCount_95d88_56 : decode cJ13_bitCount_95d88 56 = .ok (.l2i, 1) := by decide +kernel
theorem dJ13_bitCount_95d88_57 : decode cJ13_bitCount_95d88 57 = .ok (.bipush 127, 2) := by decide +kernel
theorem dJ13_bitCount_95d88_59 : decode cJ13_bitCount_95d88 59 = .ok (.iand, 1) := by decide +kernel
theorem dJ13_bitCount_95d88_60 : decode cJ13_bitCount_95d88 60 = .ok (.ireturn, 1) := by decide +kernel
theorem dJ9_min_7cf53_0 : decode cJ9_min_7cf53 0 = .ok (.iload_n 0, 1) := by decide +kernel
theorem dJ9_min_7cf53_1 : decode cJ9_min_7cf53 1 = .ok (.iload_n 1, 1) := by decide +kernel
theorem dJ9_min_7cf53_2 : decode cJ9_min_7cf53 2 = .ok (.if_icmp .gt 7, 3) := by decide +kernel
theorem dJ9_min_7cf53_5 : decode cJ9_min_7cf53 5 = .ok (.iload_n 0, 1) := by decide +kernel
theorem dJ9_min_7cf53_6 : decode cJ9_min_7cf53 6 = .ok (.goto 4, 3) := by decide +kernel
theorem dJ9_min_7cf53_9 : decode cJ9_min_7cf53 9 = .ok (.iload_n 1, 1) := by decide +kernel
theorem dJ9_min_7cf53_10 : decode cJ9_min_7cf53 10 = .ok (.ireturn, 1) := by decide +kernel
theorem dJ7_fill_53178_0 : decode cJ7_fill_53178 0 = .ok (.iconst 0, 1) := by decide +kernel
theorem dJ7_fill_53178_1 : decode cJ7_fill_53178 1 = .ok (.istore_n 2, 1) := by decide +kernel
theorem dJ7_fill_53178_2 : decode cJ7_fill_53178 2 = .ok (.aload_n 0, 1) := by decide +kernel
theorem dJ7_fill_53178_3 : decode cJ7_fill_53178 3 = .ok (.arraylength, 1) := by decide +kernel
theorem dJ7_fill_53178_4 : decode cJ7_fill_53178 4 = .ok (.istore_n 3, 1) := by decide +kernel
theorem dJ7_fill_53178_5 : decode cJ7_fill_53178 5 = .ok (.iload_n 2, 1) := by decide +kernel
theorem dJ7_fill_53178_6 : decode cJ7_fill_53178 6 = .ok (.iload_n 3, 1) := by decide +kernel
theorem dJ7_fill_53178_7 : decode cJ7_fill_53178 7 = .ok (.if_icmp .ge 13, 3) := by decide +kernel
theorem dJ7_fill_53178_10 : decode cJ7_fill_53178 10 = .ok (.aload_n 0, 1) := by decide +kernel
theorem dJ7_fill_53178_11 : decode cJ7_fill_53178 11 = .ok (.iload_n 2, 1) := by decide +kernel
theorem dJ7_fill_53178_12 : decode cJ7_fill_53178 12 = .ok (.iload_n 1, 1) := by decide +kernel
theorem dJ7_fill_53178_13 : decode cJ7_fill_53178 13 = .ok (.iastore, 1) := by decide +kernel
theorem dJ7_fill_53178_14 : decode cJ7_fill_53178 14 = .ok (.iinc 2 1, 3) := by decide +kernel
theorem dJ7_fill_53178_17 : decode cJ7_fill_53178 17 = .ok (.goto (-12), 3) := by decide +kernel
theorem dJ7_fill_53178_20 : decode cJ7_fill_53178 20 = .ok (.return_, 1) := by decide +kernel
