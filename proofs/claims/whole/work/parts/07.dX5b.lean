theorem dX5_best_0 : decode cX5_best 0 = .ok (.iconst 4, 1) := by decide +kernel
theorem dX5_best_1 : decode cX5_best 1 = .ok (.iload_n 1, 1) := by decide +kernel
theorem dX5_best_2 : decode cX5_best 2 = .ok (.imul, 1) := by decide +kernel
theorem dX5_best_3 : decode cX5_best 3 = .ok (.iload_n 2, 1) := by decide +kernel
theorem dX5_best_4 : decode cX5_best 4 = .ok (.iadd, 1) := by decide +kernel
theorem dX5_best_5 : decode cX5_best 5 = .ok (.istore_n 3, 1) := by decide +kernel
theorem dX5_best_6 : decode cX5_best 6 = .ok (.aload_n 0, 1) := by decide +kernel
theorem dX5_best_7 : decode cX5_best 7 = .ok (.getfield 73, 3) := by decide +kernel
theorem dX5_best_10 : decode cX5_best 10 = .ok (.iload_n 3, 1) := by decide +kernel
theorem dX5_best_11 : decode cX5_best 11 = .ok (.ldc2_w 161, 3) := by decide +kernel
theorem dX5_best_14 : decode cX5_best 14 = .ok (.lastore, 1) := by decide +kernel
theorem dX5_best_15 : decode cX5_best 15 = .ok (.iconst 0, 1) := by decide +kernel
theorem dX5_best_16 : decode cX5_best 16 = .ok (.istore 4, 2) := by decide +kernel
theorem dX5_best_18 : decode cX5_best 18 = .ok (.iload_n 1, 1) := by decide +kernel
theorem dX5_best_19 : decode cX5_best 19 = .ok (.iconst 1, 1) := by decide +kernel
theorem dX5_best_20 : decode cX5_best 20 = .ok (.iadd, 1) := by decide +kernel
theorem dX5_best_21 : decode cX5_best 21 = .ok (.istore 5, 2) := by decide +kernel
theorem dX5_best_23 : decode cX5_best 23 = .ok (.iload 5, 2) := by decide +kernel
theorem dX5_best_25 : decode cX5_best 25 = .ok (.aload_n 0, 1) := by decide +kernel
theorem dX5_best_26 : decode cX5_best 26 = .ok (.getfield 158, 3) := by decide +kernel
theorem dX5_best_29 : decode cX5_best 29 = .ok (.if_icmp .gt 234, 3) := by decide +kernel
theorem dX5_best_32 : decode cX5_best 32 = .ok (.iload 4, 2) := by decide +kernel
theorem dX5_best_34 : decode cX5_best 34 = .ok (.aload_n 0, 1) := by decide +kernel
theorem dX5_best_35 : decode cX5_best 35 = .ok (.getfield 64, 3) := by decide +kernel
theorem dX5_best_38 : decode cX5_best 38 = .ok (.iload 5, 2) := by decide +kernel
theorem dX5_best_40 : decode cX5_best 40 = .ok (.iconst 1, 1) := by decide +kernel
theorem dX5_best_41 : decode cX5_best 41 = .ok (.isub, 1) := by decide +kernel
theorem dX5_best_42 : decode cX5_best 42 = .ok (.iaload, 1) := by decide +kernel
theorem dX5_best_43 : decode cX5_best 43 = .ok (.iadd, 1) := by decide +kernel
theorem dX5_best_44 : decode cX5_best 44 = .ok (.istore 4, 2) := by decide +kernel
theorem dX5_best_46 : decode cX5_best 46 = .ok (.iload 4, 2) := by decide +kernel
theorem dX5_best_48 : decode cX5_best 48 = .ok (.aload_n 0, 1) := by decide +kernel
theorem dX5_best_49 : decode cX5_best 49 = .ok (.getfield 7, 3) := by decide +kernel
theorem dX5_best_52 : decode cX5_best 52 = .ok (.if_icmp .le 4, 3) := by decide +kernel
theorem dX5_best_55 : decode cX5_best 55 = .ok (.return_, 1) := by decide +kernel
theorem dX5_best_56 : decode cX5_best 56 = .ok (.iload 5, 2) := by decide +kernel
theorem dX5_best_58 : decode cX5_best 58 = .ok (.aload_n 0, 1) := by decide +kernel
theorem dX5_best_59 : decode cX5_best 59 = .ok (.getfield 158, 3) := by decide +kernel
theorem dX5_best_62 : decode cX5_best 62 = .ok (.if_icmp .ge 18, 3) := by decide +kernel
theorem dX5_best_65 : decode cX5_best 65 = .ok (.aload_n 0, 1) := by decide +kernel
theorem dX5_best_66 : decode cX5_best 66 = .ok (.getfield 67, 3) := by decide +kernel
theorem dX5_best_69 : decode cX5_best 69 = .ok (.iload 5, 2) := by decide +kernel
theorem dX5_best_71 : decode cX5_best 71 = .ok (.iconst 1, 1) := by decide +kernel
theorem dX5_best_72 : decode cX5_best 72 = .ok (.isub, 1) := by decide +kernel
theorem dX5_best_73 : decode cX5_best 73 = .ok (.baload, 1) := by decide +kernel
theorem dX5_best_74 : decode cX5_best 74 = .ok (.ifCond .ne 6, 3) := by decide +kernel
theorem dX5_best_77 : decode cX5_best 77 = .ok (.goto 180, 3) := by decide +kernel
theorem dX5_best_80 : decode cX5_best 80 = .ok (.lconst 0, 1) := by decide +kernel
theorem dX5_best_81 : decode cX5_best 81 = .ok (.lstore 6, 2) := by decide +kernel
theorem dX5_best_83 : decode cX5_best 83 = .ok (.iconst 1, 1) := by decide +kernel
theorem dX5_best_84 : decode cX5_best 84 = .ok (.istore 8, 2) := by decide +kernel
theorem dX5_best_86 : decode cX5_best 86 = .ok (.iload 5, 2) := by decide +kernel
theorem dX5_best_88 : decode cX5_best 88 = .ok (.aload_n 0, 1) := by decide +kernel
theorem dX5_best_89 : decode cX5_best 89 = .ok (.getfield 158, 3) := by decide +kernel
theorem dX5_best_92 : decode cX5_best 92 = .ok (.if_icmp .ge 94, 3) := by decide +kernel
theorem dX5_best_95 : decode cX5_best 95 = .ok (.iconst 4, 1) := by decide +kernel
theorem dX5_best_96 : decode cX5_best 96 = .ok (.iload 5, 2) := by decide +kernel
theorem dX5_best_98 : decode cX5_best 98 = .ok (.imul, 1) := by decide +kernel
theorem dX5_best_99 : decode cX5_best 99 = .ok (.iload_n 2, 1) := by decide +kernel
theorem dX5_best_100 : decode cX5_best 100 = .ok (.iconst 1, 1) := by decide +kernel
theorem dX5_best_101 : decode cX5_best 101 = .ok (.iadd, 1) := by decide +kernel
theorem dX5_best_102 : decode cX5_best 102 = .ok (.aload_n 0, 1) := by decide +kernel
theorem dX5_best_103 : decode cX5_best 103 = .ok (.getfield 13, 3) := by decide +kernel
theorem dX5_best_106 : decode cX5_best 106 = .ok (.irem, 1) := by decide +kernel
theorem dX5_best_107 : decode cX5_best 107 = .ok (.iadd, 1) := by decide +kernel
theorem dX5_best_108 : decode cX5_best 108 = .ok (.istore 9, 2) := by decide +kernel
theorem dX5_best_110 : decode cX5_best 110 = .ok (.aload_n 0, 1) := by decide +kernel
theorem dX5_best_111 : decode cX5_best 111 = .ok (.getfield 7, 3) := by decide +kernel
theorem dX5_best_114 : decode cX5_best 114 = .ok (.iload 4, 2) := by decide +kernel
theorem dX5_best_116 : decode cX5_best 116 = .ok (.isub, 1) := by decide +kernel
theorem dX5_best_117 : decode cX5_best 117 = .ok (.istore 10, 2) := by decide +kernel
theorem dX5_best_119 : decode cX5_best 119 = .ok (.iload 10, 2) := by decide +kernel
theorem dX5_best_121 : decode cX5_best 121 = .ok (.iload 10, 2) := by decide +kernel
theorem dX5_best_123 : decode cX5_best 123 = .ok (.imul, 1) := by decide +kernel
theorem dX5_best_124 : decode cX5_best 124 = .ok (.aload_n 0, 1) := by decide +kernel
theorem dX5_best_125 : decode cX5_best 125 = .ok (.getfield 70, 3) := by decide +kernel
theorem dX5_best_128 : decode cX5_best 128 = .ok (.iload 5, 2) := by decide +kernel
theorem dX5_best_130 : decode cX5_best 130 = .ok (.iconst 1, 1) := by decide +kernel
theorem dX5_best_131 : decode cX5_best 131 = .ok (.isub, 1) := by decide +kernel
theorem dX5_best_132 : decode cX5_best 132 = .ok (.baload, 1) := by decide +kernel
theorem dX5_best_133 : decode cX5_best 133 = .ok (.ifCond .eq 7, 3) := by decide +kernel
theorem dX5_best_136 : decode cX5_best 136 = .ok (.iconst 0, 1) := by decide +kernel
theorem dX5_best_137 : decode cX5_best 137 = .ok (.goto 26, 3) := by decide +kernel
theorem dX5_best_140 : decode cX5_best 140 = .ok (.aload_n 0, 1) := by decide +kernel
theorem dX5_best_141 : decode cX5_best 141 = .ok (.getfield 19, 3) := by decide +kernel
theorem dX5_best_144 : decode cX5_best 144 = .ok (.iload_n 2, 1) := by decide +kernel
theorem dX5_best_145 : decode cX5_best 145 = .ok (.aload_n 0, 1) := by decide +kernel
theorem dX5_best_146 : decode cX5_best 146 = .ok (.getfield 13, 3) := by decide +kernel
theorem dX5_best_149 : decode cX5_best 149 = .ok (.iconst 1, 1) := by decide +kernel
theorem dX5_best_150 : decode cX5_best 150 = .ok (.isub, 1) := by decide +kernel
theorem dX5_best_151 : decode cX5_best 151 = .ok (.if_icmp .ne 10, 3) := by decide +kernel
theorem dX5_best_154 : decode cX5_best 154 = .ok (.aload_n 0, 1) := by decide +kernel
theorem dX5_best_155 : decode cX5_best 155 = .ok (.getfield 22, 3) := by decide +kernel
theorem dX5_best_158 : decode cX5_best 158 = .ok (.goto 4, 3) := by decide +kernel
theorem dX5_best_161 : decode cX5_best 161 = .ok (.iconst 0, 1) := by decide +kernel
theorem dX5_best_162 : decode cX5_best 162 = .ok (.iadd, 1) := by decide +kernel
theorem dX5_best_163 : decode cX5_best 163 = .ok (.iadd, 1) := by decide +kernel
theorem dX5_best_164 : decode cX5_best 164 = .ok (.i2l, 1) := by decide +kernel
theorem dX5_best_165 : decode cX5_best 165 = .ok (.aload_n 0, 1) := by decide +kernel
theorem dX5_best_166 : decode cX5_best 166 = .ok (.getfield 73, 3) := by decide +kernel
theorem dX5_best_169 : decode cX5_best 169 = .ok (.iload 9, 2) := by decide +kernel
theorem dX5_best_171 : decode cX5_best 171 = .ok (.laload, 1) := by decide +kernel
theorem dX5_best_172 : decode cX5_best 172 = .ok (.ladd, 1) := by decide +kernel
theorem dX5_best_173 : decode cX5_best 173 = .ok (.lstore 6, 2) := by decide +kernel
theorem dX5_best_175 : decode cX5_best 175 = .ok (.iconst 1, 1) := by decide +kernel
theorem dX5_best_176 : decode cX5_best 176 = .ok (.aload_n 0, 1) := by decide +kernel
theorem dX5_best_177 : decode cX5_best 177 = .ok (.getfield 77, 3) := by decide +kernel
theorem dX5_best_180 : decode cX5_best 180 = .ok (.iload 9, 2) := by decide +kernel
theorem dX5_best_182 : decode cX5_best 182 = .ok (.iaload, 1) := by decide +kernel
theorem dX5_best_183 : decode cX5_best 183 = .ok (.iadd, 1) := by decide +kernel
theorem dX5_best_184 : decode cX5_best 184 = .ok (.istore 8, 2) := by decide +kernel
theorem dX5_best_186 : decode cX5_best 186 = .ok (.lload 6, 2) := by decide +kernel
theorem dX5_best_188 : decode cX5_best 188 = .ok (.ldc2_w 161, 3) := by decide +kernel
theorem dX5_best_191 : decode cX5_best 191 = .ok (.lcmp, 1) := by decide +kernel
theorem dX5_best_192 : decode cX5_best 192 = .ok (.ifCond .ge 65, 3) := by decide +kernel
theorem dX5_best_195 : decode cX5_best 195 = .ok (.lload 6, 2) := by decide +kernel
theorem dX5_best_197 : decode cX5_best 197 = .ok (.aload_n 0, 1) := by decide +kernel
theorem dX5_best_198 : decode cX5_best 198 = .ok (.getfield 73, 3) := by decide +kernel
theorem dX5_best_201 : decode cX5_best 201 = .ok (.iload_n 3, 1) := by decide +kernel
theorem dX5_best_202 : decode cX5_best 202 = .ok (.laload, 1) := by decide +kernel
theorem dX5_best_203 : decode cX5_best 203 = .ok (.lcmp, 1) := by decide +kernel
theorem dX5_best_204 : decode cX5_best 204 = .ok (.ifCond .gt 53, 3) := by decide +kernel
theorem dX5_best_207 : decode cX5_best 207 = .ok (.lload 6, 2) := by decide +kernel
theorem dX5_best_209 : decode cX5_best 209 = .ok (.aload_n 0, 1) := by decide +kernel
theorem dX5_best_210 : decode cX5_best 210 = .ok (.getfield 73, 3) := by decide +kernel
theorem dX5_best_213 : decode cX5_best 213 = .ok (.iload_n 3, 1) := by decide +kernel
theorem dX5_best_214 : decode cX5_best 214 = .ok (.laload, 1) := by decide +kernel
theorem dX5_best_215 : decode cX5_best 215 = .ok (.lcmp, 1) := by decide +kernel
theorem dX5_best_216 : decode cX5_best 216 = .ok (.ifCond .ne 17, 3) := by decide +kernel
theorem dX5_best_219 : decode cX5_best 219 = .ok (.iload 8, 2) := by decide +kernel
theorem dX5_best_221 : decode cX5_best 221 = .ok (.aload_n 0, 1) := by decide +kernel
theorem dX5_best_222 : decode cX5_best 222 = .ok (.getfield 77, 3) := by decide +kernel
theorem dX5_best_225 : decode cX5_best 225 = .ok (.iload_n 3, 1) := by decide +kernel
theorem dX5_best_226 : decode cX5_best 226 = .ok (.iaload, 1) := by decide +kernel
theorem dX5_best_227 : decode cX5_best 227 = .ok (.if_icmp .le 6, 3) := by decide +kernel
theorem dX5_best_230 : decode cX5_best 230 = .ok (.goto 27, 3) := by decide +kernel
theorem dX5_best_233 : decode cX5_best 233 = .ok (.aload_n 0, 1) := by decide +kernel
theorem dX5_best_234 : decode cX5_best 234 = .ok (.getfield 73, 3) := by decide +kernel
theorem dX5_best_237 : decode cX5_best 237 = .ok (.iload_n 3, 1) := by decide +kernel
theorem dX5_best_238 : decode cX5_best 238 = .ok (.lload 6, 2) := by decide +kernel
theorem dX5_best_240 : decode cX5_best 240 = .ok (.lastore, 1) := by decide +kernel
theorem dX5_best_241 : decode cX5_best 241 = .ok (.aload_n 0, 1) := by decide +kernel
theorem dX5_best_242 : decode cX5_best 242 = .ok (.getfield 77, 3) := by decide +kernel
theorem dX5_best_245 : decode cX5_best 245 = .ok (.iload_n 3, 1) := by decide +kernel
theorem dX5_best_246 : decode cX5_best 246 = .ok (.iload 8, 2) := by decide +kernel
theorem dX5_best_248 : decode cX5_best 248 = .ok (.iastore, 1) := by decide +kernel
theorem dX5_best_249 : decode cX5_best 249 = .ok (.aload_n 0, 1) := by decide +kernel
theorem dX5_best_250 : decode cX5_best 250 = .ok (.getfield 80, 3) := by decide +kernel
theorem dX5_best_253 : decode cX5_best 253 = .ok (.iload_n 3, 1) := by decide +kernel
theorem dX5_best_254 : decode cX5_best 254 = .ok (.iload 5, 2) := by decide +kernel
theorem dX5_best_256 : decode cX5_best 256 = .ok (.iastore, 1) := by decide +kernel
theorem dX5_best_257 : decode cX5_best 257 = .ok (.iinc 5 1, 3) := by decide +kernel
theorem dX5_best_260 : decode cX5_best 260 = .ok (.goto (-237), 3) := by decide +kernel
theorem dX5_best_263 : decode cX5_best 263 = .ok (.return_, 1) := by decide +kernel
set_option maxRecDepth 20000 in
theorem ggX5_set__X5_makes : GoodIn wsX5_set_ wsX5_makes := goodIn_r _ [29, 2, 30, 31, 32, 33, 21, 22, 34, 35, 20, 36, 37, 38, 39, 40, 28, 41, 42, 43, 44, 45, 46, 59, 60, 61, 62, 63, 64, 65, 66, 67, 68, 69, 70, 71, 72, 73, 74, 75, 76, 77, 78, 79, 80, 81, 82, 83, 84, 85, 86, 87, 88, 89, 90, 91, 92, 93, 94, 95, 96, 97, 98, 99, 100, 101, 102, 103, 104] (by decide +kernel) (by decide +kernel)
set_option maxRecDepth 20000 in
theorem gX5_set__X5_makes : GoodIn wsX5_set_ (wsV RX5 163 RX5 yX5_makes wsX5_makes) := goodIn_app (goodIn_of _ (by decide +kernel)) ggX5_set__X5_makes
set_option maxRecDepth 20000 in
theorem ggX5_set__X5_best : GoodIn wsX5_set_ wsX5_best := goodIn_r _ [50, 4, 5, 2, 20, 51, 35, 3, 34, 52, 53, 54, 19, 59, 60, 61, 62, 63, 64, 65, 66, 67, 68, 69, 70, 71, 72, 73, 74, 75, 76, 77, 78, 79, 80, 81, 82, 83, 84, 85, 86, 87, 88, 89, 90, 91, 92, 93, 94, 95, 96, 97, 98, 99, 100, 101, 102, 103, 104] (by decide +kernel) (by decide +kernel)
set_option maxRecDepth 20000 in
theorem gX5_set__X5_best : GoodIn wsX5_set_ (wsV RX5 166 RX5 yX5_best wsX5_best) := goodIn_app (goodIn_of _ (by decide +kernel)) ggX5_set__X5_best
set_option maxRecDepth 20000 in
theorem ggX5_set__X5_isAlike : GoodIn wsX5_set_ wsX5_isAlike := goodIn_r _ [58, 15, 16, 11, 14, 13, 12, 8, 7, 10, 9, 59, 60, 61, 62, 63, 64, 65, 66, 67, 68, 69, 70, 71, 72, 73, 74, 75, 76, 77, 78, 79, 80, 81, 82, 83, 84, 85, 86, 87, 88, 89, 90, 91, 92, 93, 94, 95, 96, 97, 98, 99, 100, 101, 102, 103, 104] (by decide +kernel) (by decide +kernel)
set_option maxRecDepth 20000 in
theorem gX5_set__X5_isAlike : GoodIn wsX5_set_ (wsV RX5 188 RX5 yX5_isAlike wsX5_isAlike) := goodIn_app (goodIn_of _ (by decide +kernel)) ggX5_set__X5_isAlike
theorem dX5_set__0 : decode cX5_set_ 0 = .ok (.aload_n 0, 1) := by decide +kernel
theorem dX5_set__1 : decode cX5_set_ 1 = .ok (.iconst 0, 1) := by decide +kernel
theorem dX5_set__2 : decode cX5_set_ 2 = .ok (.putfield 116, 3) := by decide +kernel
theorem dX5_set__5 : decode cX5_set_ 5 = .ok (.aload_n 0, 1) := by decide +kernel
theorem dX5_set__6 : decode cX5_set_ 6 = .ok (.invokevirtual 163, 3) := by decide +kernel
theorem dX5_set__9 : decode cX5_set_ 9 = .ok (.aload_n 0, 1) := by decide +kernel
theorem dX5_set__10 : decode cX5_set_ 10 = .ok (.getfield 158, 3) := by decide +kernel
theorem dX5_set__13 : decode cX5_set_ 13 = .ok (.ifCond .ne 5, 3) := by decide +kernel
theorem dX5_set__16 : decode cX5_set_ 16 = .ok (.iconst (-1), 1) := by decide +kernel
theorem dX5_set__17 : decode cX5_set_ 17 = .ok (.ireturn, 1) := by decide +kernel
theorem dX5_set__18 : decode cX5_set_ 18 = .ok (.aload_n 0, 1) := by decide +kernel
theorem dX5_set__19 : decode cX5_set_ 19 = .ok (.getfield 158, 3) := by decide +kernel
theorem dX5_set__22 : decode cX5_set_ 22 = .ok (.iconst 1, 1) := by decide +kernel
theorem dX5_set__23 : decode cX5_set_ 23 = .ok (.isub, 1) := by decide +kernel
theorem dX5_set__24 : decode cX5_set_ 24 = .ok (.istore_n 1, 1) := by decide +kernel
theorem dX5_set__25 : decode cX5_set_ 25 = .ok (.iload_n 1, 1) := by decide +kernel
theorem dX5_set__26 : decode cX5_set_ 26 = .ok (.ifCond .lt 31, 3) := by decide +kernel
theorem dX5_set__29 : decode cX5_set_ 29 = .ok (.iconst 0, 1) := by decide +kernel
theorem dX5_set__30 : decode cX5_set_ 30 = .ok (.istore_n 2, 1) := by decide +kernel
theorem dX5_set__31 : decode cX5_set_ 31 = .ok (.iload_n 2, 1) := by decide +kernel
theorem dX5_set__32 : decode cX5_set_ 32 = .ok (.aload_n 0, 1) := by decide +kernel
theorem dX5_set__33 : decode cX5_set_ 33 = .ok (.getfield 13, 3) := by decide +kernel
theorem dX5_set__36 : decode cX5_set_ 36 = .ok (.if_icmp .ge 15, 3) := by decide +kernel
theorem dX5_set__39 : decode cX5_set_ 39 = .ok (.aload_n 0, 1) := by decide +kernel
theorem dX5_set__40 : decode cX5_set_ 40 = .ok (.iload_n 1, 1) := by decide +kernel
theorem dX5_set__41 : decode cX5_set_ 41 = .ok (.iload_n 2, 1) := by decide +kernel
theorem dX5_set__42 : decode cX5_set_ 42 = .ok (.invokevirtual 166, 3) := by decide +kernel
theorem dX5_set__45 : decode cX5_set_ 45 = .ok (.iinc 2 1, 3) := by decide +kernel
theorem dX5_set__48 : decode cX5_set_ 48 = .ok (.goto (-17), 3) := by decide +kernel
theorem dX5_set__51 : decode cX5_set_ 51 = .ok (.iinc 1 (-1), 3) := by decide +kernel
theorem dX5_set__54 : decode cX5_set_ 54 = .ok (.goto (-29), 3) := by decide +kernel
theorem dX5_set__57 : decode cX5_set_ 57 = .ok (.aload_n 0, 1) := by decide +kernel
theorem dX5_set__58 : decode cX5_set_ 58 = .ok (.getfield 73, 3) := by decide +kernel
theorem dX5_set__61 : decode cX5_set_ 61 = .ok (.iconst 0, 1) := by decide +kernel
theorem dX5_set__62 : decode cX5_set_ 62 = .ok (.laload, 1) := by decide +kernel
theorem dX5_set__63 : decode cX5_set_ 63 = .ok (.ldc2_w 161, 3) := by decide +kernel
theorem dX5_set__66 : decode cX5_set_ 66 = .ok (.lcmp, 1) := by decide +kernel
theorem dX5_set__67 : decode cX5_set_ 67 = .ok (.ifCond .lt 5, 3) := by decide +kernel
theorem dX5_set__70 : decode cX5_set_ 70 = .ok (.iconst (-1), 1) := by decide +kernel
theorem dX5_set__71 : decode cX5_set_ 71 = .ok (.ireturn, 1) := by decide +kernel
theorem dX5_set__72 : decode cX5_set_ 72 = .ok (.iconst 0, 1) := by decide +kernel
theorem dX5_set__73 : decode cX5_set_ 73 = .ok (.istore_n 1, 1) := by decide +kernel
theorem dX5_set__74 : decode cX5_set_ 74 = .ok (.iload_n 1, 1) := by decide +kernel
theorem dX5_set__75 : decode cX5_set_ 75 = .ok (.aload_n 0, 1) := by decide +kernel
theorem dX5_set__76 : decode cX5_set_ 76 = .ok (.getfield 170, 3) := by decide +kernel
theorem dX5_set__79 : decode cX5_set_ 79 = .ok (.if_icmp .ge 33, 3) := by decide +kernel
theorem dX5_set__82 : decode cX5_set_ 82 = .ok (.aload_n 0, 1) := by decide +kernel
theorem dX5_set__83 : decode cX5_set_ 83 = .ok (.getfield 98, 3) := by decide +kernel
theorem dX5_set__86 : decode cX5_set_ 86 = .ok (.iload_n 1, 1) := by decide +kernel
theorem dX5_set__87 : decode cX5_set_ 87 = .ok (.aload_n 0, 1) := by decide +kernel
theorem dX5_set__88 : decode cX5_set_ 88 = .ok (.getfield 86, 3) := by decide +kernel
theorem dX5_set__91 : decode cX5_set_ 91 = .ok (.iload_n 1, 1) := by decide +kernel
theorem dX5_set__92 : decode cX5_set_ 92 = .ok (.iaload, 1) := by decide +kernel
theorem dX5_set__93 : decode cX5_set_ 93 = .ok (.iastore, 1) := by decide +kernel
theorem dX5_set__94 : decode cX5_set_ 94 = .ok (.aload_n 0, 1) := by decide +kernel
theorem dX5_set__95 : decode cX5_set_ 95 = .ok (.getfield 101, 3) := by decide +kernel
theorem dX5_set__98 : decode cX5_set_ 98 = .ok (.iload_n 1, 1) := by decide +kernel
theorem dX5_set__99 : decode cX5_set_ 99 = .ok (.aload_n 0, 1) := by decide +kernel
theorem dX5_set__100 : decode cX5_set_ 100 = .ok (.getfield 89, 3) := by decide +kernel
theorem dX5_set__103 : decode cX5_set_ 103 = .ok (.iload_n 1, 1) := by decide +kernel
theorem dX5_set__104 : decode cX5_set_ 104 = .ok (.iaload, 1) := by decide +kernel
theorem dX5_set__105 : decode cX5_set_ 105 = .ok (.iastore, 1) := by decide +kernel
theorem dX5_set__106 : decode cX5_set_ 106 = .ok (.iinc 1 1, 3) := by decide +kernel
theorem dX5_set__109 : decode cX5_set_ 109 = .ok (.goto (-35), 3) := by decide +kernel
theorem dX5_set__112 : decode cX5_set_ 112 = .ok (.iconst 0, 1) := by decide +kernel
theorem dX5_set__113 : decode cX5_set_ 113 = .ok (.istore_n 1, 1) := by decide +kernel
theorem dX5_set__114 : decode cX5_set_ 114 = .ok (.iload_n 1, 1) := by decide +kernel
theorem dX5_set__115 : decode cX5_set_ 115 = .ok (.aload_n 0, 1) := by decide +kernel
theorem dX5_set__116 : decode cX5_set_ 116 = .ok (.getfield 173, 3) := by decide +kernel
theorem dX5_set__119 : decode cX5_set_ 119 = .ok (.if_icmp .gt 21, 3) := by decide +kernel
theorem dX5_set__122 : decode cX5_set_ 122 = .ok (.aload_n 0, 1) := by decide +kernel
theorem dX5_set__123 : decode cX5_set_ 123 = .ok (.getfield 104, 3) := by decide +kernel
theorem dX5_set__126 : decode cX5_set_ 126 = .ok (.iload_n 1, 1) := by decide +kernel
theorem dX5_set__127 : decode cX5_set_ 127 = .ok (.aload_n 0, 1) := by decide +kernel
theorem dX5_set__128 : decode cX5_set_ 128 = .ok (.getfield 92, 3) := by decide +kernel
theorem dX5_set__131 : decode cX5_set_ 131 = .ok (.iload_n 1, 1) := by decide +kernel
theorem dX5_set__132 : decode cX5_set_ 132 = .ok (.iaload, 1) := by decide +kernel
theorem dX5_set__133 : decode cX5_set_ 133 = .ok (.iastore, 1) := by decide +kernel
theorem dX5_set__134 : decode cX5_set_ 134 = .ok (.iinc 1 1, 3) := by decide +kernel
theorem dX5_set__137 : decode cX5_set_ 137 = .ok (.goto (-23), 3) := by decide +kernel
theorem dX5_set__140 : decode cX5_set_ 140 = .ok (.aload_n 0, 1) := by decide +kernel
theorem dX5_set__141 : decode cX5_set_ 141 = .ok (.aload_n 0, 1) := by decide +kernel
theorem dX5_set__142 : decode cX5_set_ 142 = .ok (.getfield 173, 3) := by decide +kernel
theorem dX5_set__145 : decode cX5_set_ 145 = .ok (.putfield 176, 3) := by decide +kernel
theorem dX5_set__148 : decode cX5_set_ 148 = .ok (.aload_n 0, 1) := by decide +kernel
theorem dX5_set__149 : decode cX5_set_ 149 = .ok (.aload_n 0, 1) := by decide +kernel
theorem dX5_set__150 : decode cX5_set_ 150 = .ok (.getfield 83, 3) := by decide +kernel
theorem dX5_set__153 : decode cX5_set_ 153 = .ok (.putfield 107, 3) := by decide +kernel
theorem dX5_set__156 : decode cX5_set_ 156 = .ok (.aload_n 0, 1) := by decide +kernel
theorem dX5_set__157 : decode cX5_set_ 157 = .ok (.aload_n 0, 1) := by decide +kernel
theorem dX5_set__158 : decode cX5_set_ 158 = .ok (.getfield 73, 3) := by decide +kernel
theorem dX5_set__161 : decode cX5_set_ 161 = .ok (.iconst 0, 1) := by decide +kernel
theorem dX5_set__162 : decode cX5_set_ 162 = .ok (.laload, 1) := by decide +kernel
theorem dX5_set__163 : decode cX5_set_ 163 = .ok (.l2i, 1) := by decide +kernel
theorem dX5_set__164 : decode cX5_set_ 164 = .ok (.putfield 179, 3) := by decide +kernel
theorem dX5_set__167 : decode cX5_set_ 167 = .ok (.aload_n 0, 1) := by decide +kernel
theorem dX5_set__168 : decode cX5_set_ 168 = .ok (.aload_n 0, 1) := by decide +kernel
theorem dX5_set__169 : decode cX5_set_ 169 = .ok (.getfield 158, 3) := by decide +kernel
theorem dX5_set__172 : decode cX5_set_ 172 = .ok (.putfield 170, 3) := by decide +kernel
theorem dX5_set__175 : decode cX5_set_ 175 = .ok (.aload_n 0, 1) := by decide +kernel
theorem dX5_set__176 : decode cX5_set_ 176 = .ok (.aload_n 0, 1) := by decide +kernel
theorem dX5_set__177 : decode cX5_set_ 177 = .ok (.getfield 13, 3) := by decide +kernel
theorem dX5_set__180 : decode cX5_set_ 180 = .ok (.putfield 83, 3) := by decide +kernel
theorem dX5_set__183 : decode cX5_set_ 183 = .ok (.aload_n 0, 1) := by decide +kernel
theorem dX5_set__184 : decode cX5_set_ 184 = .ok (.iconst 0, 1) := by decide +kernel
theorem dX5_set__185 : decode cX5_set_ 185 = .ok (.putfield 173, 3) := by decide +kernel
theorem dX5_set__188 : decode cX5_set_ 188 = .ok (.iconst 0, 1) := by decide +kernel
theorem dX5_set__189 : decode cX5_set_ 189 = .ok (.istore_n 1, 1) := by decide +kernel
theorem dX5_set__190 : decode cX5_set_ 190 = .ok (.iload_n 1, 1) := by decide +kernel
theorem dX5_set__191 : decode cX5_set_ 191 = .ok (.aload_n 0, 1) := by decide +kernel
theorem dX5_set__192 : decode cX5_set_ 192 = .ok (.getfield 158, 3) := by decide +kernel
theorem dX5_set__195 : decode cX5_set_ 195 = .ok (.if_icmp .ge 105, 3) := by decide +kernel
theorem dX5_set__198 : decode cX5_set_ 198 = .ok (.aload_n 0, 1) := by decide +kernel
theorem dX5_set__199 : decode cX5_set_ 199 = .ok (.getfield 92, 3) := by decide +kernel
theorem dX5_set__202 : decode cX5_set_ 202 = .ok (.aload_n 0, 1) := by decide +kernel
theorem dX5_set__203 : decode cX5_set_ 203 = .ok (.getfield 173, 3) := by decide +kernel
theorem dX5_set__206 : decode cX5_set_ 206 = .ok (.iload_n 1, 1) := by decide +kernel
theorem dX5_set__207 : decode cX5_set_ 207 = .ok (.iastore, 1) := by decide +kernel
theorem dX5_set__208 : decode cX5_set_ 208 = .ok (.aload_n 0, 1) := by decide +kernel
theorem dX5_set__209 : decode cX5_set_ 209 = .ok (.getfield 95, 3) := by decide +kernel
theorem dX5_set__212 : decode cX5_set_ 212 = .ok (.aload_n 0, 1) := by decide +kernel
theorem dX5_set__213 : decode cX5_set_ 213 = .ok (.getfield 173, 3) := by decide +kernel
theorem dX5_set__216 : decode cX5_set_ 216 = .ok (.iconst 0, 1) := by decide +kernel
theorem dX5_set__217 : decode cX5_set_ 217 = .ok (.iastore, 1) := by decide +kernel
theorem dX5_set__218 : decode cX5_set_ 218 = .ok (.iload_n 1, 1) := by decide +kernel
theorem dX5_set__219 : decode cX5_set_ 219 = .ok (.istore_n 2, 1) := by decide +kernel
theorem dX5_set__220 : decode cX5_set_ 220 = .ok (.iload_n 2, 1) := by decide +kernel
theorem dX5_set__221 : decode cX5_set_ 221 = .ok (.aload_n 0, 1) := by decide +kernel
theorem dX5_set__222 : decode cX5_set_ 222 = .ok (.getfield 80, 3) := by decide +kernel
theorem dX5_set__225 : decode cX5_set_ 225 = .ok (.iconst 4, 1) := by decide +kernel
theorem dX5_set__226 : decode cX5_set_ 226 = .ok (.iload_n 1, 1) := by decide +kernel
theorem dX5_set__227 : decode cX5_set_ 227 = .ok (.imul, 1) := by decide +kernel
theorem dX5_set__228 : decode cX5_set_ 228 = .ok (.aload_n 0, 1) := by decide +kernel
theorem dX5_set__229 : decode cX5_set_ 229 = .ok (.getfield 173, 3) := by decide +kernel
theorem dX5_set__232 : decode cX5_set_ 232 = .ok (.aload_n 0, 1) := by decide +kernel
theorem dX5_set__233 : decode cX5_set_ 233 = .ok (.getfield 13, 3) := by decide +kernel
theorem dX5_set__236 : decode cX5_set_ 236 = .ok (.irem, 1) := by decide +kernel
theorem dX5_set__237 : decode cX5_set_ 237 = .ok (.iadd, 1) := by decide +kernel
theorem dX5_set__238 : decode cX5_set_ 238 = .ok (.iaload, 1) := by decide +kernel
theorem dX5_set__239 : decode cX5_set_ 239 = .ok (.if_icmp .ge 27, 3) := by decide +kernel
theorem dX5_set__242 : decode cX5_set_ 242 = .ok (.aload_n 0, 1) := by decide +kernel
theorem dX5_set__243 : decode cX5_set_ 243 = .ok (.getfield 95, 3) := by decide +kernel
theorem dX5_set__246 : decode cX5_set_ 246 = .ok (.aload_n 0, 1) := by decide +kernel
theorem dX5_set__247 : decode cX5_set_ 247 = .ok (.getfield 173, 3) := by decide +kernel
theorem dX5_set__250 : decode cX5_set_ 250 = .ok (.dup2, 1) := by decide +kernel
theorem dX5_set__251 : decode cX5_set_ 251 = .ok (.iaload, 1) := by decide +kernel
theorem dX5_set__252 : decode cX5_set_ 252 = .ok (.aload_n 0, 1) := by decide +kernel
theorem dX5_set__253 : decode cX5_set_ 253 = .ok (.getfield 64, 3) := by decide +kernel
theorem dX5_set__256 : decode cX5_set_ 256 = .ok (.iload_n 2, 1) := by decide +kernel
theorem dX5_set__257 : decode cX5_set_ 257 = .ok (.iaload, 1) := by decide +kernel
theorem dX5_set__258 : decode cX5_set_ 258 = .ok (.iadd, 1) := by decide +kernel
theorem dX5_set__259 : decode cX5_set_ 259 = .ok (.iastore, 1) := by decide +kernel
theorem dX5_set__260 : decode cX5_set_ 260 = .ok (.iinc 2 1, 3) := by decide +kernel
theorem dX5_set__263 : decode cX5_set_ 263 = .ok (.goto (-43), 3) := by decide +kernel
theorem dX5_set__266 : decode cX5_set_ 266 = .ok (.aload_n 0, 1) := by decide +kernel
theorem dX5_set__267 : decode cX5_set_ 267 = .ok (.dup, 1) := by decide +kernel
theorem dX5_set__268 : decode cX5_set_ 268 = .ok (.getfield 173, 3) := by decide +kernel
theorem dX5_set__271 : decode cX5_set_ 271 = .ok (.iconst 1, 1) := by decide +kernel
theorem dX5_set__272 : decode cX5_set_ 272 = .ok (.iadd, 1) := by decide +kernel
theorem dX5_set__273 : decode cX5_set_ 273 = .ok (.putfield 173, 3) := by decide +kernel
theorem dX5_set__276 : decode cX5_set_ 276 = .ok (.aload_n 0, 1) := by decide +kernel
theorem dX5_set__277 : decode cX5_set_ 277 = .ok (.getfield 80, 3) := by decide +kernel
theorem dX5_set__280 : decode cX5_set_ 280 = .ok (.iconst 4, 1) := by decide +kernel
theorem dX5_set__281 : decode cX5_set_ 281 = .ok (.iload_n 1, 1) := by decide +kernel
theorem dX5_set__282 : decode cX5_set_ 282 = .ok (.imul, 1) := by decide +kernel
theorem dX5_set__283 : decode cX5_set_ 283 = .ok (.aload_n 0, 1) := by decide +kernel
theorem dX5_set__284 : decode cX5_set_ 284 = .ok (.getfield 173, 3) := by decide +kernel
theorem dX5_set__287 : decode cX5_set_ 287 = .ok (.iconst 1, 1) := by decide +kernel
theorem dX5_set__288 : decode cX5_set_ 288 = .ok (.isub, 1) := by decide +kernel
theorem dX5_set__289 : decode cX5_set_ 289 = .ok (.aload_n 0, 1) := by decide +kernel
theorem dX5_set__290 : decode cX5_set_ 290 = .ok (.getfield 13, 3) := by decide +kernel
theorem dX5_set__293 : decode cX5_set_ 293 = .ok (.irem, 1) := by decide +kernel
theorem dX5_set__294 : decode cX5_set_ 294 = .ok (.iadd, 1) := by decide +kernel
theorem dX5_set__295 : decode cX5_set_ 295 = .ok (.iaload, 1) := by decide +kernel
theorem dX5_set__296 : decode cX5_set_ 296 = .ok (.istore_n 1, 1) := by decide +kernel
theorem dX5_set__297 : decode cX5_set_ 297 = .ok (.goto (-107), 3) := by decide +kernel
theorem dX5_set__300 : decode cX5_set_ 300 = .ok (.aload_n 0, 1) := by decide +kernel
theorem dX5_set__301 : decode cX5_set_ 301 = .ok (.getfield 92, 3) := by decide +kernel
theorem dX5_set__304 : decode cX5_set_ 304 = .ok (.aload_n 0, 1) := by decide +kernel
theorem dX5_set__305 : decode cX5_set_ 305 = .ok (.getfield 173, 3) := by decide +kernel
theorem dX5_set__308 : decode cX5_set_ 308 = .ok (.aload_n 0, 1) := by decide +kernel
theorem dX5_set__309 : decode cX5_set_ 309 = .ok (.getfield 158, 3) := by decide +kernel
theorem dX5_set__312 : decode cX5_set_ 312 = .ok (.iastore, 1) := by decide +kernel
theorem dX5_set__313 : decode cX5_set_ 313 = .ok (.iconst 0, 1) := by decide +kernel
theorem dX5_set__314 : decode cX5_set_ 314 = .ok (.istore_n 1, 1) := by decide +kernel
theorem dX5_set__315 : decode cX5_set_ 315 = .ok (.iload_n 1, 1) := by decide +kernel
theorem dX5_set__316 : decode cX5_set_ 316 = .ok (.aload_n 0, 1) := by decide +kernel
theorem dX5_set__317 : decode cX5_set_ 317 = .ok (.getfield 158, 3) := by decide +kernel
theorem dX5_set__320 : decode cX5_set_ 320 = .ok (.if_icmp .ge 33, 3) := by decide +kernel
theorem dX5_set__323 : decode cX5_set_ 323 = .ok (.aload_n 0, 1) := by decide +kernel
theorem dX5_set__324 : decode cX5_set_ 324 = .ok (.getfield 86, 3) := by decide +kernel
theorem dX5_set__327 : decode cX5_set_ 327 = .ok (.iload_n 1, 1) := by decide +kernel
theorem dX5_set__328 : decode cX5_set_ 328 = .ok (.aload_n 0, 1) := by decide +kernel
theorem dX5_set__329 : decode cX5_set_ 329 = .ok (.getfield 58, 3) := by decide +kernel
theorem dX5_set__332 : decode cX5_set_ 332 = .ok (.iload_n 1, 1) := by decide +kernel
theorem dX5_set__333 : decode cX5_set_ 333 = .ok (.iaload, 1) := by decide +kernel
theorem dX5_set__334 : decode cX5_set_ 334 = .ok (.iastore, 1) := by decide +kernel
theorem dX5_set__335 : decode cX5_set_ 335 = .ok (.aload_n 0, 1) := by decide +kernel
theorem dX5_set__336 : decode cX5_set_ 336 = .ok (.getfield 89, 3) := by decide +kernel
theorem dX5_set__339 : decode cX5_set_ 339 = .ok (.iload_n 1, 1) := by decide +kernel
theorem dX5_set__340 : decode cX5_set_ 340 = .ok (.aload_n 0, 1) := by decide +kernel
theorem dX5_set__341 : decode cX5_set_ 341 = .ok (.getfield 61, 3) := by decide +kernel
theorem dX5_set__344 : decode cX5_set_ 344 = .ok (.iload_n 1, 1) := by decide +kernel
theorem dX5_set__345 : decode cX5_set_ 345 = .ok (.iaload, 1) := by decide +kernel
theorem dX5_set__346 : decode cX5_set_ 346 = .ok (.iastore, 1) := by decide +kernel
theorem dX5_set__347 : decode cX5_set_ 347 = .ok (.iinc 1 1, 3) := by decide +kernel
theorem dX5_set__350 : decode cX5_set_ 350 = .ok (.goto (-35), 3) := by decide +kernel
theorem dX5_set__353 : decode cX5_set_ 353 = .ok (.aload_n 0, 1) := by decide +kernel
theorem dX5_set__354 : decode cX5_set_ 354 = .ok (.aload_n 0, 1) := by decide +kernel
theorem dX5_set__355 : decode cX5_set_ 355 = .ok (.getfield 173, 3) := by decide +kernel
theorem dX5_set__358 : decode cX5_set_ 358 = .ok (.aload_n 0, 1) := by decide +kernel
theorem dX5_set__359 : decode cX5_set_ 359 = .ok (.getfield 13, 3) := by decide +kernel
theorem dX5_set__362 : decode cX5_set_ 362 = .ok (.iadd, 1) := by decide +kernel
theorem dX5_set__363 : decode cX5_set_ 363 = .ok (.iconst 1, 1) := by decide +kernel
theorem dX5_set__364 : decode cX5_set_ 364 = .ok (.isub, 1) := by decide +kernel
theorem dX5_set__365 : decode cX5_set_ 365 = .ok (.aload_n 0, 1) := by decide +kernel
theorem dX5_set__366 : decode cX5_set_ 366 = .ok (.getfield 13, 3) := by decide +kernel
theorem dX5_set__369 : decode cX5_set_ 369 = .ok (.idiv, 1) := by decide +kernel
theorem dX5_set__370 : decode cX5_set_ 370 = .ok (.putfield 182, 3) := by decide +kernel
theorem dX5_set__373 : decode cX5_set_ 373 = .ok (.aload_n 0, 1) := by decide +kernel
theorem dX5_set__374 : decode cX5_set_ 374 = .ok (.getfield 176, 3) := by decide +kernel
theorem dX5_set__377 : decode cX5_set_ 377 = .ok (.aload_n 0, 1) := by decide +kernel
theorem dX5_set__378 : decode cX5_set_ 378 = .ok (.getfield 107, 3) := by decide +kernel
theorem dX5_set__381 : decode cX5_set_ 381 = .ok (.iadd, 1) := by decide +kernel
theorem dX5_set__382 : decode cX5_set_ 382 = .ok (.iconst 1, 1) := by decide +kernel
theorem dX5_set__383 : decode cX5_set_ 383 = .ok (.isub, 1) := by decide +kernel
theorem dX5_set__384 : decode cX5_set_ 384 = .ok (.aload_n 0, 1) := by decide +kernel
theorem dX5_set__385 : decode cX5_set_ 385 = .ok (.getfield 107, 3) := by decide +kernel
theorem dX5_set__388 : decode cX5_set_ 388 = .ok (.idiv, 1) := by decide +kernel
theorem dX5_set__389 : decode cX5_set_ 389 = .ok (.istore_n 1, 1) := by decide +kernel
theorem dX5_set__390 : decode cX5_set_ 390 = .ok (.aload_n 0, 1) := by decide +kernel
theorem dX5_set__391 : decode cX5_set_ 391 = .ok (.iconst 0, 1) := by decide +kernel
theorem dX5_set__392 : decode cX5_set_ 392 = .ok (.putfield 185, 3) := by decide +kernel
theorem dX5_set__395 : decode cX5_set_ 395 = .ok (.iconst 0, 1) := by decide +kernel
theorem dX5_set__396 : decode cX5_set_ 396 = .ok (.istore_n 2, 1) := by decide +kernel
theorem dX5_set__397 : decode cX5_set_ 397 = .ok (.iload_n 2, 1) := by decide +kernel
theorem dX5_set__398 : decode cX5_set_ 398 = .ok (.aload_n 0, 1) := by decide +kernel
theorem dX5_set__399 : decode cX5_set_ 399 = .ok (.getfield 182, 3) := by decide +kernel
theorem dX5_set__402 : decode cX5_set_ 402 = .ok (.if_icmp .lt 8, 3) := by decide +kernel
theorem dX5_set__405 : decode cX5_set_ 405 = .ok (.iload_n 2, 1) := by decide +kernel
theorem dX5_set__406 : decode cX5_set_ 406 = .ok (.iload_n 1, 1) := by decide +kernel
theorem dX5_set__407 : decode cX5_set_ 407 = .ok (.if_icmp .ge 44, 3) := by decide +kernel
theorem dX5_set__410 : decode cX5_set_ 410 = .ok (.aload_n 0, 1) := by decide +kernel
theorem dX5_set__411 : decode cX5_set_ 411 = .ok (.dup, 1) := by decide +kernel
theorem dX5_set__412 : decode cX5_set_ 412 = .ok (.getfield 185, 3) := by decide +kernel
theorem dX5_set__415 : decode cX5_set_ 415 = .ok (.iload_n 2, 1) := by decide +kernel
theorem dX5_set__416 : decode cX5_set_ 416 = .ok (.aload_n 0, 1) := by decide +kernel
theorem dX5_set__417 : decode cX5_set_ 417 = .ok (.getfield 182, 3) := by decide +kernel
theorem dX5_set__420 : decode cX5_set_ 420 = .ok (.if_icmp .ge 20, 3) := by decide +kernel
theorem dX5_set__423 : decode cX5_set_ 423 = .ok (.iload_n 2, 1) := by decide +kernel
theorem dX5_set__424 : decode cX5_set_ 424 = .ok (.iload_n 1, 1) := by decide +kernel
theorem dX5_set__425 : decode cX5_set_ 425 = .ok (.if_icmp .ge 15, 3) := by decide +kernel
theorem dX5_set__428 : decode cX5_set_ 428 = .ok (.aload_n 0, 1) := by decide +kernel
theorem dX5_set__429 : decode cX5_set_ 429 = .ok (.iload_n 2, 1) := by decide +kernel
theorem dX5_set__430 : decode cX5_set_ 430 = .ok (.invokevirtual 188, 3) := by decide +kernel
theorem dX5_set__433 : decode cX5_set_ 433 = .ok (.ifCond .eq 7, 3) := by decide +kernel
theorem dX5_set__436 : decode cX5_set_ 436 = .ok (.iconst 0, 1) := by decide +kernel
theorem dX5_set__437 : decode cX5_set_ 437 = .ok (.goto 4, 3) := by decide +kernel
theorem dX5_set__440 : decode cX5_set_ 440 = .ok (.iconst 1, 1) := by decide +kernel
theorem dX5_set__441 : decode cX5_set_ 441 = .ok (.iadd, 1) := by decide +kernel
theorem dX5_set__442 : decode cX5_set_ 442 = .ok (.putfield 185, 3) := by decide +kernel
theorem dX5_set__445 : decode cX5_set_ 445 = .ok (.iinc 2 1, 3) := by decide +kernel
theorem dX5_set__448 : decode cX5_set_ 448 = .ok (.goto (-51), 3) := by decide +kernel
theorem dX5_set__451 : decode cX5_set_ 451 = .ok (.aload_n 0, 1) := by decide +kernel
theorem dX5_set__452 : decode cX5_set_ 452 = .ok (.getfield 179, 3) := by decide +kernel
theorem dX5_set__455 : decode cX5_set_ 455 = .ok (.ireturn, 1) := by decide +kernel
theorem dX5_isAlike_0 : decode cX5_isAlike 0 = .ok (.iload_n 1, 1) := by decide +kernel
theorem dX5_isAlike_1 : decode cX5_isAlike 1 = .ok (.aload_n 0, 1) := by decide +kernel
theorem dX5_isAlike_2 : decode cX5_isAlike 2 = .ok (.getfield 83, 3) := by decide +kernel
theorem dX5_isAlike_5 : decode cX5_isAlike 5 = .ok (.imul, 1) := by decide +kernel
theorem dX5_isAlike_6 : decode cX5_isAlike 6 = .ok (.istore_n 2, 1) := by decide +kernel
theorem dX5_isAlike_7 : decode cX5_isAlike 7 = .ok (.iload_n 1, 1) := by decide +kernel
theorem dX5_isAlike_8 : decode cX5_isAlike 8 = .ok (.aload_n 0, 1) := by decide +kernel
theorem dX5_isAlike_9 : decode cX5_isAlike 9 = .ok (.getfield 107, 3) := by decide +kernel
theorem dX5_isAlike_12 : decode cX5_isAlike 12 = .ok (.imul, 1) := by decide +kernel
theorem dX5_isAlike_13 : decode cX5_isAlike 13 = .ok (.istore_n 3, 1) := by decide +kernel
theorem dX5_isAlike_14 : decode cX5_isAlike 14 = .ok (.aload_n 0, 1) := by decide +kernel
theorem dX5_isAlike_15 : decode cX5_isAlike 15 = .ok (.getfield 173, 3) := by decide +kernel
theorem dX5_isAlike_18 : decode cX5_isAlike 18 = .ok (.iload_n 2, 1) := by decide +kernel
theorem dX5_isAlike_19 : decode cX5_isAlike 19 = .ok (.isub, 1) := by decide +kernel
theorem dX5_isAlike_20 : decode cX5_isAlike 20 = .ok (.aload_n 0, 1) := by decide +kernel
theorem dX5_isAlike_21 : decode cX5_isAlike 21 = .ok (.getfield 83, 3) := by decide +kernel
theorem dX5_isAlike_24 : decode cX5_isAlike 24 = .ok (.if_icmp .ge 12, 3) := by decide +kernel
theorem dX5_isAlike_27 : decode cX5_isAlike 27 = .ok (.aload_n 0, 1) := by decide +kernel
theorem dX5_isAlike_28 : decode cX5_isAlike 28 = .ok (.getfield 173, 3) := by decide +kernel
theorem dX5_isAlike_31 : decode cX5_isAlike 31 = .ok (.iload_n 2, 1) := by decide +kernel
theorem dX5_isAlike_32 : decode cX5_isAlike 32 = .ok (.isub, 1) := by decide +kernel
theorem dX5_isAlike_33 : decode cX5_isAlike 33 = .ok (.goto 7, 3) := by decide +kernel
theorem dX5_isAlike_36 : decode cX5_isAlike 36 = .ok (.aload_n 0, 1) := by decide +kernel
theorem dX5_isAlike_37 : decode cX5_isAlike 37 = .ok (.getfield 83, 3) := by decide +kernel
theorem dX5_isAlike_40 : decode cX5_isAlike 40 = .ok (.istore 4, 2) := by decide +kernel
theorem dX5_isAlike_42 : decode cX5_isAlike 42 = .ok (.aload_n 0, 1) := by decide +kernel
theorem dX5_isAlike_43 : decode cX5_isAlike 43 = .ok (.getfield 176, 3) := by decide +kernel
theorem dX5_isAlike_46 : decode cX5_isAlike 46 = .ok (.iload_n 3, 1) := by decide +kernel
theorem dX5_isAlike_47 : decode cX5_isAlike 47 = .ok (.isub, 1) := by decide +kernel
theorem dX5_isAlike_48 : decode cX5_isAlike 48 = .ok (.aload_n 0, 1) := by decide +kernel
theorem dX5_isAlike_49 : decode cX5_isAlike 49 = .ok (.getfield 107, 3) := by decide +kernel
theorem dX5_isAlike_52 : decode cX5_isAlike 52 = .ok (.if_icmp .ge 12, 3) := by decide +kernel
theorem dX5_isAlike_55 : decode cX5_isAlike 55 = .ok (.aload_n 0, 1) := by decide +kernel
theorem dX5_isAlike_56 : decode cX5_isAlike 56 = .ok (.getfield 176, 3) := by decide +kernel
theorem dX5_isAlike_59 : decode cX5_isAlike 59 = .ok (.iload_n 3, 1) := by decide +kernel
theorem dX5_isAlike_60 : decode cX5_isAlike 60 = .ok (.isub, 1) := by decide +kernel
theorem dX5_isAlike_61 : decode cX5_isAlike 61 = .ok (.goto 7, 3) := by decide +kernel
theorem dX5_isAlike_64 : decode cX5_isAlike 64 = .ok (.aload_n 0, 1) := by decide +kernel
theorem dX5_isAlike_65 : decode cX5_isAlike 65 = .ok (.getfield 107, 3) := by decide +kernel
theorem dX5_isAlike_68 : decode cX5_isAlike 68 = .ok (.istore 5, 2) := by decide +kernel
theorem dX5_isAlike_70 : decode cX5_isAlike 70 = .ok (.iload 4, 2) := by decide +kernel
theorem dX5_isAlike_72 : decode cX5_isAlike 72 = .ok (.iload 5, 2) := by decide +kernel
theorem dX5_isAlike_74 : decode cX5_isAlike 74 = .ok (.if_icmp .eq 5, 3) := by decide +kernel
theorem dX5_isAlike_77 : decode cX5_isAlike 77 = .ok (.iconst 0, 1) := by decide +kernel
theorem dX5_isAlike_78 : decode cX5_isAlike 78 = .ok (.ireturn, 1) := by decide +kernel
theorem dX5_isAlike_79 : decode cX5_isAlike 79 = .ok (.iconst 0, 1) := by decide +kernel
theorem dX5_isAlike_80 : decode cX5_isAlike 80 = .ok (.istore 6, 2) := by decide +kernel
theorem dX5_isAlike_82 : decode cX5_isAlike 82 = .ok (.iload 6, 2) := by decide +kernel
theorem dX5_isAlike_84 : decode cX5_isAlike 84 = .ok (.iload 4, 2) := by decide +kernel
theorem dX5_isAlike_86 : decode cX5_isAlike 86 = .ok (.if_icmp .ge 132, 3) := by decide +kernel
theorem dX5_isAlike_89 : decode cX5_isAlike 89 = .ok (.aload_n 0, 1) := by decide +kernel
theorem dX5_isAlike_90 : decode cX5_isAlike 90 = .ok (.getfield 92, 3) := by decide +kernel
theorem dX5_isAlike_93 : decode cX5_isAlike 93 = .ok (.iload_n 2, 1) := by decide +kernel
theorem dX5_isAlike_94 : decode cX5_isAlike 94 = .ok (.iload 6, 2) := by decide +kernel
theorem dX5_isAlike_96 : decode cX5_isAlike 96 = .ok (.iadd, 1) := by decide +kernel
theorem dX5_isAlike_97 : decode cX5_isAlike 97 = .ok (.iaload, 1) := by decide +kernel
theorem dX5_isAlike_98 : decode cX5_isAlike 98 = .ok (.istore 7, 2) := by decide +kernel
theorem dX5_isAlike_100 : decode cX5_isAlike 100 = .ok (.aload_n 0, 1) := by decide +kernel
theorem dX5_isAlike_101 : decode cX5_isAlike 101 = .ok (.getfield 104, 3) := by decide +kernel
theorem dX5_isAlike_104 : decode cX5_isAlike 104 = .ok (.iload_n 3, 1) := by decide +kernel
theorem dX5_isAlike_105 : decode cX5_isAlike 105 = .ok (.iload 6, 2) := by decide +kernel
theorem dX5_isAlike_107 : decode cX5_isAlike 107 = .ok (.iadd, 1) := by decide +kernel
theorem dX5_isAlike_108 : decode cX5_isAlike 108 = .ok (.iaload, 1) := by decide +kernel
theorem dX5_isAlike_109 : decode cX5_isAlike 109 = .ok (.istore 8, 2) := by decide +kernel
theorem dX5_isAlike_111 : decode cX5_isAlike 111 = .ok (.aload_n 0, 1) := by decide +kernel
theorem dX5_isAlike_112 : decode cX5_isAlike 112 = .ok (.getfield 92, 3) := by decide +kernel
theorem dX5_isAlike_115 : decode cX5_isAlike 115 = .ok (.iload_n 2, 1) := by decide +kernel
theorem dX5_isAlike_116 : decode cX5_isAlike 116 = .ok (.iload 6, 2) := by decide +kernel
theorem dX5_isAlike_118 : decode cX5_isAlike 118 = .ok (.iadd, 1) := by decide +kernel
theorem dX5_isAlike_119 : decode cX5_isAlike 119 = .ok (.iconst 1, 1) := by decide +kernel
theorem dX5_isAlike_120 : decode cX5_isAlike 120 = .ok (.iadd, 1) := by decide +kernel
theorem dX5_isAlike_121 : decode cX5_isAlike 121 = .ok (.iaload, 1) := by decide +kernel
theorem dX5_isAlike_122 : decode cX5_isAlike 122 = .ok (.iload 7, 2) := by decide +kernel
theorem dX5_isAlike_124 : decode cX5_isAlike 124 = .ok (.isub, 1) := by decide +kernel
theorem dX5_isAlike_125 : decode cX5_isAlike 125 = .ok (.istore 9, 2) := by decide +kernel
theorem dX5_isAlike_127 : decode cX5_isAlike 127 = .ok (.iload 9, 2) := by decide +kernel
theorem dX5_isAlike_129 : decode cX5_isAlike 129 = .ok (.aload_n 0, 1) := by decide +kernel
theorem dX5_isAlike_130 : decode cX5_isAlike 130 = .ok (.getfield 104, 3) := by decide +kernel
theorem dX5_isAlike_133 : decode cX5_isAlike 133 = .ok (.iload_n 3, 1) := by decide +kernel
theorem dX5_isAlike_134 : decode cX5_isAlike 134 = .ok (.iload 6, 2) := by decide +kernel
theorem dX5_isAlike_136 : decode cX5_isAlike 136 = .ok (.iadd, 1) := by decide +kernel
theorem dX5_isAlike_137 : decode cX5_isAlike 137 = .ok (.iconst 1, 1) := by decide +kernel
theorem dX5_isAlike_138 : decode cX5_isAlike 138 = .ok (.iadd, 1) := by decide +kernel
theorem dX5_isAlike_139 : decode cX5_isAlike 139 = .ok (.iaload, 1) := by decide +kernel
theorem dX5_isAlike_140 : decode cX5_isAlike 140 = .ok (.iload 8, 2) := by decide +kernel
theorem dX5_isAlike_142 : decode cX5_isAlike 142 = .ok (.isub, 1) := by decide +kernel
theorem dX5_isAlike_143 : decode cX5_isAlike 143 = .ok (.if_icmp .eq 5, 3) := by decide +kernel
theorem dX5_isAlike_146 : decode cX5_isAlike 146 = .ok (.iconst 0, 1) := by decide +kernel
theorem dX5_isAlike_147 : decode cX5_isAlike 147 = .ok (.ireturn, 1) := by decide +kernel
theorem dX5_isAlike_148 : decode cX5_isAlike 148 = .ok (.iconst 0, 1) := by decide +kernel
theorem dX5_isAlike_149 : decode cX5_isAlike 149 = .ok (.istore 10, 2) := by decide +kernel
theorem dX5_isAlike_151 : decode cX5_isAlike 151 = .ok (.iload 10, 2) := by decide +kernel
theorem dX5_isAlike_153 : decode cX5_isAlike 153 = .ok (.iload 9, 2) := by decide +kernel
theorem dX5_isAlike_155 : decode cX5_isAlike 155 = .ok (.if_icmp .ge 57, 3) := by decide +kernel
theorem dX5_isAlike_158 : decode cX5_isAlike 158 = .ok (.aload_n 0, 1) := by decide +kernel
theorem dX5_isAlike_159 : decode cX5_isAlike 159 = .ok (.getfield 86, 3) := by decide +kernel
theorem dX5_isAlike_162 : decode cX5_isAlike 162 = .ok (.iload 7, 2) := by decide +kernel
theorem dX5_isAlike_164 : decode cX5_isAlike 164 = .ok (.iload 10, 2) := by decide +kernel
theorem dX5_isAlike_166 : decode cX5_isAlike 166 = .ok (.iadd, 1) := by decide +kernel
theorem dX5_isAlike_167 : decode cX5_isAlike 167 = .ok (.iaload, 1) := by decide +kernel
theorem dX5_isAlike_168 : decode cX5_isAlike 168 = .ok (.aload_n 0, 1) := by decide +kernel
theorem dX5_isAlike_169 : decode cX5_isAlike 169 = .ok (.getfield 98, 3) := by decide +kernel
theorem dX5_isAlike_172 : decode cX5_isAlike 172 = .ok (.iload 8, 2) := by decide +kernel
theorem dX5_isAlike_174 : decode cX5_isAlike 174 = .ok (.iload 10, 2) := by decide +kernel
theorem dX5_isAlike_176 : decode cX5_isAlike 176 = .ok (.iadd, 1) := by decide +kernel
theorem dX5_isAlike_177 : decode cX5_isAlike 177 = .ok (.iaload, 1) := by decide +kernel
theorem dX5_isAlike_178 : decode cX5_isAlike 178 = .ok (.if_icmp .ne 26, 3) := by decide +kernel
theorem dX5_isAlike_181 : decode cX5_isAlike 181 = .ok (.aload_n 0, 1) := by decide +kernel
theorem dX5_isAlike_182 : decode cX5_isAlike 182 = .ok (.getfield 89, 3) := by decide +kernel
theorem dX5_isAlike_185 : decode cX5_isAlike 185 = .ok (.iload 7, 2) := by decide +kernel
theorem dX5_isAlike_187 : decode cX5_isAlike 187 = .ok (.iload 10, 2) := by decide +kernel
theorem dX5_isAlike_189 : decode cX5_isAlike 189 = .ok (.iadd, 1) := by decide +kernel
theorem dX5_isAlike_190 : decode cX5_isAlike 190 = .ok (.iaload, 1) := by decide +kernel
theorem dX5_isAlike_191 : decode cX5_isAlike 191 = .ok (.aload_n 0, 1) := by decide +kernel
theorem dX5_isAlike_192 : decode cX5_isAlike 192 = .ok (.getfield 101, 3) := by decide +kernel
theorem dX5_isAlike_195 : decode cX5_isAlike 195 = .ok (.iload 8, 2) := by decide +kernel
theorem dX5_isAlike_197 : decode cX5_isAlike 197 = .ok (.iload 10, 2) := by decide +kernel
theorem dX5_isAlike_199 : decode cX5_isAlike 199 = .ok (.iadd, 1) := by decide +kernel
theorem dX5_isAlike_200 : decode cX5_isAlike 200 = .ok (.iaload, 1) := by decide +kernel
theorem dX5_isAlike_201 : decode cX5_isAlike 201 = .ok (.if_icmp .eq 5, 3) := by decide +kernel
theorem dX5_isAlike_204 : decode cX5_isAlike 204 = .ok (.iconst 0, 1) := by decide +kernel
theorem dX5_isAlike_205 : decode cX5_isAlike 205 = .ok (.ireturn, 1) := by decide +kernel
theorem dX5_isAlike_206 : decode cX5_isAlike 206 = .ok (.iinc 10 1, 3) := by decide +kernel
theorem dX5_isAlike_209 : decode cX5_isAlike 209 = .ok (.goto (-58), 3) := by decide +kernel
theorem dX5_isAlike_212 : decode cX5_isAlike 212 = .ok (.iinc 6 1, 3) := by decide +kernel
theorem dX5_isAlike_215 : decode cX5_isAlike 215 = .ok (.goto (-133), 3) := by decide +kernel
theorem dX5_isAlike_218 : decode cX5_isAlike 218 = .ok (.iconst 1, 1) := by decide +kernel
theorem dX5_isAlike_219 : decode cX5_isAlike 219 = .ok (.ireturn, 1) := by decide +kernel
set_option maxRecDepth 20000 in
theorem ggX5_told_X5_bad : GoodIn wsX5_told wsX5_bad := goodIn_r _ [11, 1, 12, 13, 14, 15, 16, 17, 18, 19, 20, 21, 22, 23, 24, 25, 26, 27, 28, 29, 30, 31, 32, 33, 34, 35, 36, 37, 38, 39, 40, 41, 42, 43, 44, 45, 46, 47, 48, 49, 50, 51, 52, 53, 54, 55, 56, 57] (by decide +kernel) (by decide +kernel)
set_option maxRecDepth 20000 in
theorem gX5_told_X5_bad : GoodIn wsX5_told (wsV RX5 119 RX5 yX5_bad wsX5_bad) := goodIn_app (goodIn_of _ (by decide +kernel)) ggX5_told_X5_bad
theorem dX5_told_0 : decode cX5_told 0 = .ok (.aload_n 0, 1) := by decide +kernel
theorem dX5_told_1 : decode cX5_told 1 = .ok (.iconst 0, 1) := by decide +kernel
theorem dX5_told_2 : decode cX5_told 2 = .ok (.putfield 116, 3) := by decide +kernel
theorem dX5_told_5 : decode cX5_told 5 = .ok (.aload_n 0, 1) := by decide +kernel
theorem dX5_told_6 : decode cX5_told 6 = .ok (.iload_n 1, 1) := by decide +kernel
theorem dX5_told_7 : decode cX5_told 7 = .ok (.ifCond .lt 8, 3) := by decide +kernel
theorem dX5_told_10 : decode cX5_told 10 = .ok (.iload_n 1, 1) := by decide +kernel
theorem dX5_told_11 : decode cX5_told 11 = .ok (.iconst 4, 1) := by decide +kernel
theorem dX5_told_12 : decode cX5_told 12 = .ok (.if_icmp .le 7, 3) := by decide +kernel
theorem dX5_told_15 : decode cX5_told 15 = .ok (.iconst 1, 1) := by decide +kernel
theorem dX5_told_16 : decode cX5_told 16 = .ok (.goto 4, 3) := by decide +kernel
theorem dX5_told_19 : decode cX5_told 19 = .ok (.iconst 0, 1) := by decide +kernel
theorem dX5_told_20 : decode cX5_told 20 = .ok (.iconst 1, 1) := by decide +kernel
theorem dX5_told_21 : decode cX5_told 21 = .ok (.invokevirtual 119, 3) := by decide +kernel
theorem dX5_told_24 : decode cX5_told 24 = .ok (.ifCond .eq 5, 3) := by decide +kernel
theorem dX5_told_27 : decode cX5_told 27 = .ok (.iconst 0, 1) := by decide +kernel
theorem dX5_told_28 : decode cX5_told 28 = .ok (.ireturn, 1) := by decide +kernel
theorem dX5_told_29 : decode cX5_told 29 = .ok (.iload_n 1, 1) := by decide +kernel
theorem dX5_told_30 : decode cX5_told 30 = .ok (.ifCond .ne 10, 3) := by decide +kernel
theorem dX5_told_33 : decode cX5_told 33 = .ok (.aload_n 0, 1) := by decide +kernel
theorem dX5_told_34 : decode cX5_told 34 = .ok (.getfield 179, 3) := by decide +kernel
theorem dX5_told_37 : decode cX5_told 37 = .ok (.goto 43, 3) := by decide +kernel
theorem dX5_told_40 : decode cX5_told 40 = .ok (.iload_n 1, 1) := by decide +kernel
theorem dX5_told_41 : decode cX5_told 41 = .ok (.iconst 1, 1) := by decide +kernel
theorem dX5_told_42 : decode cX5_told 42 = .ok (.if_icmp .ne 10, 3) := by decide +kernel
theorem dX5_told_45 : decode cX5_told 45 = .ok (.aload_n 0, 1) := by decide +kernel
theorem dX5_told_46 : decode cX5_told 46 = .ok (.getfield 182, 3) := by decide +kernel
theorem dX5_told_49 : decode cX5_told 49 = .ok (.goto 31, 3) := by decide +kernel
theorem dX5_told_52 : decode cX5_told 52 = .ok (.iload_n 1, 1) := by decide +kernel
theorem dX5_told_53 : decode cX5_told 53 = .ok (.iconst 2, 1) := by decide +kernel
theorem dX5_told_54 : decode cX5_told 54 = .ok (.if_icmp .ne 10, 3) := by decide +kernel
theorem dX5_told_57 : decode cX5_told 57 = .ok (.aload_n 0, 1) := by decide +kernel
theorem dX5_told_58 : decode cX5_told 58 = .ok (.getfield 173, 3) := by decide +kernel
theorem dX5_told_61 : decode cX5_told 61 = .ok (.goto 19, 3) := by decide +kernel
theorem dX5_told_64 : decode cX5_told 64 = .ok (.iload_n 1, 1) := by decide +kernel
theorem dX5_told_65 : decode cX5_told 65 = .ok (.iconst 3, 1) := by decide +kernel
theorem dX5_told_66 : decode cX5_told 66 = .ok (.if_icmp .ne 10, 3) := by decide +kernel
theorem dX5_told_69 : decode cX5_told 69 = .ok (.aload_n 0, 1) := by decide +kernel
theorem dX5_told_70 : decode cX5_told 70 = .ok (.getfield 170, 3) := by decide +kernel
theorem dX5_told_73 : decode cX5_told 73 = .ok (.goto 7, 3) := by decide +kernel
theorem dX5_told_76 : decode cX5_told 76 = .ok (.aload_n 0, 1) := by decide +kernel
theorem dX5_told_77 : decode cX5_told 77 = .ok (.getfield 185, 3) := by decide +kernel
theorem dX5_told_80 : decode cX5_told 80 = .ok (.ireturn, 1) := by decide +kernel
set_option maxRecDepth 20000 in
theorem ggX5_column_X5_bad : GoodIn wsX5_column wsX5_bad := goodIn_r _ [11, 1, 12, 13, 14, 15, 16, 17, 18, 19, 20, 21, 22, 23, 24, 25, 26, 27, 28, 29, 30, 31, 32, 33, 34, 35, 36, 37, 38, 39, 40, 41, 42, 43, 44, 45, 46, 47, 48, 49, 50, 51, 52, 53, 54, 55, 56, 57] (by decide +kernel) (by decide +kernel)
set_option maxRecDepth 20000 in
theorem gX5_column_X5_bad : GoodIn wsX5_column (wsV RX5 119 RX5 yX5_bad wsX5_bad) := goodIn_app (goodIn_of _ (by decide +kernel)) ggX5_column_X5_bad
theorem dX5_column_0 : decode cX5_column 0 = .ok (.aload_n 0, 1) := by decide +kernel
theorem dX5_column_1 : decode cX5_column 1 = .ok (.iconst 0, 1) := by decide +kernel
theorem dX5_column_2 : decode cX5_column 2 = .ok (.putfield 116, 3) := by decide +kernel
theorem dX5_column_5 : decode cX5_column 5 = .ok (.aload_n 0, 1) := by decide +kernel
theorem dX5_column_6 : decode cX5_column 6 = .ok (.iload_n 1, 1) := by decide +kernel
theorem dX5_column_7 : decode cX5_column 7 = .ok (.ifCond .lt 11, 3) := by decide +kernel
theorem dX5_column_10 : decode cX5_column 10 = .ok (.iload_n 1, 1) := by decide +kernel
theorem dX5_column_11 : decode cX5_column 11 = .ok (.aload_n 0, 1) := by decide +kernel
theorem dX5_column_12 : decode cX5_column 12 = .ok (.getfield 173, 3) := by decide +kernel
theorem dX5_column_15 : decode cX5_column 15 = .ok (.if_icmp .lt 7, 3) := by decide +kernel
theorem dX5_column_18 : decode cX5_column 18 = .ok (.iconst 1, 1) := by decide +kernel
theorem dX5_column_19 : decode cX5_column 19 = .ok (.goto 4, 3) := by decide +kernel
theorem dX5_column_22 : decode cX5_column 22 = .ok (.iconst 0, 1) := by decide +kernel
theorem dX5_column_23 : decode cX5_column 23 = .ok (.iconst 1, 1) := by decide +kernel
theorem dX5_column_24 : decode cX5_column 24 = .ok (.invokevirtual 119, 3) := by decide +kernel
theorem dX5_column_27 : decode cX5_column 27 = .ok (.ifCond .ne 25, 3) := by decide +kernel
theorem dX5_column_30 : decode cX5_column 30 = .ok (.aload_n 0, 1) := by decide +kernel
theorem dX5_column_31 : decode cX5_column 31 = .ok (.iload_n 2, 1) := by decide +kernel
theorem dX5_column_32 : decode cX5_column 32 = .ok (.ifCond .lt 8, 3) := by decide +kernel
theorem dX5_column_35 : decode cX5_column 35 = .ok (.iload_n 2, 1) := by decide +kernel
theorem dX5_column_36 : decode cX5_column 36 = .ok (.iconst 3, 1) := by decide +kernel
theorem dX5_column_37 : decode cX5_column 37 = .ok (.if_icmp .le 7, 3) := by decide +kernel
theorem dX5_column_40 : decode cX5_column 40 = .ok (.iconst 1, 1) := by decide +kernel
theorem dX5_column_41 : decode cX5_column 41 = .ok (.goto 4, 3) := by decide +kernel
theorem dX5_column_44 : decode cX5_column 44 = .ok (.iconst 0, 1) := by decide +kernel
theorem dX5_column_45 : decode cX5_column 45 = .ok (.iconst 2, 1) := by decide +kernel
theorem dX5_column_46 : decode cX5_column 46 = .ok (.invokevirtual 119, 3) := by decide +kernel
theorem dX5_column_49 : decode cX5_column 49 = .ok (.ifCond .eq 5, 3) := by decide +kernel
theorem dX5_column_52 : decode cX5_column 52 = .ok (.iconst 0, 1) := by decide +kernel
theorem dX5_column_53 : decode cX5_column 53 = .ok (.ireturn, 1) := by decide +kernel
theorem dX5_column_54 : decode cX5_column 54 = .ok (.iload_n 2, 1) := by decide +kernel
theorem dX5_column_55 : decode cX5_column 55 = .ok (.ifCond .ne 17, 3) := by decide +kernel
theorem dX5_column_58 : decode cX5_column 58 = .ok (.aload_n 0, 1) := by decide +kernel
theorem dX5_column_59 : decode cX5_column 59 = .ok (.getfield 86, 3) := by decide +kernel
theorem dX5_column_62 : decode cX5_column 62 = .ok (.aload_n 0, 1) := by decide +kernel
theorem dX5_column_63 : decode cX5_column 63 = .ok (.getfield 92, 3) := by decide +kernel
theorem dX5_column_66 : decode cX5_column 66 = .ok (.iload_n 1, 1) := by decide +kernel
theorem dX5_column_67 : decode cX5_column 67 = .ok (.iaload, 1) := by decide +kernel
theorem dX5_column_68 : decode cX5_column 68 = .ok (.iaload, 1) := by decide +kernel
theorem dX5_column_69 : decode cX5_column 69 = .ok (.goto 51, 3) := by decide +kernel
theorem dX5_column_72 : decode cX5_column 72 = .ok (.iload_n 2, 1) := by decide +kernel
theorem dX5_column_73 : decode cX5_column 73 = .ok (.iconst 1, 1) := by decide +kernel
theorem dX5_column_74 : decode cX5_column 74 = .ok (.if_icmp .ne 17, 3) := by decide +kernel
theorem dX5_column_77 : decode cX5_column 77 = .ok (.aload_n 0, 1) := by decide +kernel
theorem dX5_column_78 : decode cX5_column 78 = .ok (.getfield 89, 3) := by decide +kernel
theorem dX5_column_81 : decode cX5_column 81 = .ok (.aload_n 0, 1) := by decide +kernel
theorem dX5_column_82 : decode cX5_column 82 = .ok (.getfield 92, 3) := by decide +kernel
theorem dX5_column_85 : decode cX5_column 85 = .ok (.iload_n 1, 1) := by decide +kernel
theorem dX5_column_86 : decode cX5_column 86 = .ok (.iaload, 1) := by decide +kernel
theorem dX5_column_87 : decode cX5_column 87 = .ok (.iaload, 1) := by decide +kernel
theorem dX5_column_88 : decode cX5_column 88 = .ok (.goto 32, 3) := by decide +kernel
theorem dX5_column_91 : decode cX5_column 91 = .ok (.iload_n 2, 1) := by decide +kernel
theorem dX5_column_92 : decode cX5_column 92 = .ok (.iconst 2, 1) := by decide +kernel
theorem dX5_column_93 : decode cX5_column 93 = .ok (.if_icmp .ne 21, 3) := by decide +kernel
theorem dX5_column_96 : decode cX5_column 96 = .ok (.aload_n 0, 1) := by decide +kernel
theorem dX5_column_97 : decode cX5_column 97 = .ok (.getfield 92, 3) := by decide +kernel
theorem dX5_column_100 : decode cX5_column 100 = .ok (.iload_n 1, 1) := by decide +kernel
theorem dX5_column_101 : decode cX5_column 101 = .ok (.iconst 1, 1) := by decide +kernel
theorem dX5_column_102 : decode cX5_column 102 = .ok (.iadd, 1) := by decide +kernel
theorem dX5_column_103 : decode cX5_column 103 = .ok (.iaload, 1) := by decide +kernel
theorem dX5_column_104 : decode cX5_column 104 = .ok (.aload_n 0, 1) := by decide +kernel
theorem dX5_column_105 : decode cX5_column 105 = .ok (.getfield 92, 3) := by decide +kernel
theorem dX5_column_108 : decode cX5_column 108 = .ok (.iload_n 1, 1) := by decide +kernel
theorem dX5_column_109 : decode cX5_column 109 = .ok (.iaload, 1) := by decide +kernel
theorem dX5_column_110 : decode cX5_column 110 = .ok (.isub, 1) := by decide +kernel
theorem dX5_column_111 : decode cX5_column 111 = .ok (.goto 9, 3) := by decide +kernel
theorem dX5_column_114 : decode cX5_column 114 = .ok (.aload_n 0, 1) := by decide +kernel
theorem dX5_column_115 : decode cX5_column 115 = .ok (.getfield 95, 3) := by decide +kernel
theorem dX5_column_118 : decode cX5_column 118 = .ok (.iload_n 1, 1) := by decide +kernel
theorem dX5_column_119 : decode cX5_column 119 = .ok (.iaload, 1) := by decide +kernel
theorem dX5_column_120 : decode cX5_column 120 = .ok (.ireturn, 1) := by decide +kernel
set_option maxRecDepth 20000 in
theorem ggX5_where_X5_isEntry : GoodIn wsX5_where wsX5_isEntry := goodIn_r _ [9, 10, 11, 12, 13, 14, 15, 16, 17, 18, 19, 20, 21, 22, 23, 24, 25, 26, 27, 28, 29, 30, 31, 32, 33, 34, 35, 36, 37, 38, 39, 40, 41, 42, 43, 44, 45, 46, 47, 48, 49, 50, 51, 52, 53, 54, 55, 56, 57] (by decide +kernel) (by decide +kernel)
set_option maxRecDepth 20000 in
theorem gX5_where_X5_isEntry : GoodIn wsX5_where (wsV RX5 144 RX5 yX5_isEntry wsX5_isEntry) := goodIn_app (goodIn_of _ (by decide +kernel)) ggX5_where_X5_isEntry
theorem dX5_where_0 : decode cX5_where 0 = .ok (.aload_n 0, 1) := by decide +kernel
theorem dX5_where_1 : decode cX5_where 1 = .ok (.iload_n 1, 1) := by decide +kernel
theorem dX5_where_2 : decode cX5_where 2 = .ok (.invokevirtual 144, 3) := by decide +kernel
theorem dX5_where_5 : decode cX5_where 5 = .ok (.ifCond .ne 5, 3) := by decide +kernel
theorem dX5_where_8 : decode cX5_where 8 = .ok (.iconst 0, 1) := by decide +kernel
theorem dX5_where_9 : decode cX5_where 9 = .ok (.ireturn, 1) := by decide +kernel
theorem dX5_where_10 : decode cX5_where 10 = .ok (.iconst 0, 1) := by decide +kernel
theorem dX5_where_11 : decode cX5_where 11 = .ok (.istore_n 3, 1) := by decide +kernel
theorem dX5_where_12 : decode cX5_where 12 = .ok (.iload_n 3, 1) := by decide +kernel
theorem dX5_where_13 : decode cX5_where 13 = .ok (.aload_n 0, 1) := by decide +kernel
theorem dX5_where_14 : decode cX5_where 14 = .ok (.getfield 173, 3) := by decide +kernel
theorem dX5_where_17 : decode cX5_where 17 = .ok (.if_icmp .ge 60, 3) := by decide +kernel
theorem dX5_where_20 : decode cX5_where 20 = .ok (.aload_n 0, 1) := by decide +kernel
theorem dX5_where_21 : decode cX5_where 21 = .ok (.getfield 92, 3) := by decide +kernel
theorem dX5_where_24 : decode cX5_where 24 = .ok (.iload_n 3, 1) := by decide +kernel
theorem dX5_where_25 : decode cX5_where 25 = .ok (.iaload, 1) := by decide +kernel
theorem dX5_where_26 : decode cX5_where 26 = .ok (.istore 4, 2) := by decide +kernel
theorem dX5_where_28 : decode cX5_where 28 = .ok (.iload 4, 2) := by decide +kernel
theorem dX5_where_30 : decode cX5_where 30 = .ok (.aload_n 0, 1) := by decide +kernel
theorem dX5_where_31 : decode cX5_where 31 = .ok (.getfield 92, 3) := by decide +kernel
theorem dX5_where_34 : decode cX5_where 34 = .ok (.iload_n 3, 1) := by decide +kernel
theorem dX5_where_35 : decode cX5_where 35 = .ok (.iconst 1, 1) := by decide +kernel
theorem dX5_where_36 : decode cX5_where 36 = .ok (.iadd, 1) := by decide +kernel
theorem dX5_where_37 : decode cX5_where 37 = .ok (.iaload, 1) := by decide +kernel
theorem dX5_where_38 : decode cX5_where 38 = .ok (.if_icmp .ge 33, 3) := by decide +kernel
theorem dX5_where_41 : decode cX5_where 41 = .ok (.aload_n 0, 1) := by decide +kernel
theorem dX5_where_42 : decode cX5_where 42 = .ok (.getfield 86, 3) := by decide +kernel
theorem dX5_where_45 : decode cX5_where 45 = .ok (.iload 4, 2) := by decide +kernel
theorem dX5_where_47 : decode cX5_where 47 = .ok (.iaload, 1) := by decide +kernel
theorem dX5_where_48 : decode cX5_where 48 = .ok (.iload_n 1, 1) := by decide +kernel
theorem dX5_where_49 : decode cX5_where 49 = .ok (.if_icmp .ne 16, 3) := by decide +kernel
theorem dX5_where_52 : decode cX5_where 52 = .ok (.aload_n 0, 1) := by decide +kernel
theorem dX5_where_53 : decode cX5_where 53 = .ok (.getfield 89, 3) := by decide +kernel
theorem dX5_where_56 : decode cX5_where 56 = .ok (.iload 4, 2) := by decide +kernel
theorem dX5_where_58 : decode cX5_where 58 = .ok (.iaload, 1) := by decide +kernel
theorem dX5_where_59 : decode cX5_where 59 = .ok (.iload_n 2, 1) := by decide +kernel
theorem dX5_where_60 : decode cX5_where 60 = .ok (.if_icmp .ne 5, 3) := by decide +kernel
theorem dX5_where_63 : decode cX5_where 63 = .ok (.iload_n 3, 1) := by decide +kernel
theorem dX5_where_64 : decode cX5_where 64 = .ok (.ireturn, 1) := by decide +kernel
theorem dX5_where_65 : decode cX5_where 65 = .ok (.iinc 4 1, 3) := by decide +kernel
theorem dX5_where_68 : decode cX5_where 68 = .ok (.goto (-40), 3) := by decide +kernel
theorem dX5_where_71 : decode cX5_where 71 = .ok (.iinc 3 1, 3) := by decide +kernel
theorem dX5_where_74 : decode cX5_where 74 = .ok (.goto (-62), 3) := by decide +kernel
theorem dX5_where_77 : decode cX5_where 77 = .ok (.iconst (-1), 1) := by decide +kernel
theorem dX5_where_78 : decode cX5_where 78 = .ok (.ireturn, 1) := by decide +kernel
set_option maxRecDepth 20000 in
theorem ggX5_guide_X5_bad : GoodIn wsX5_guide wsX5_bad := goodIn_r _ [13, 1, 14, 15, 16, 17, 18, 19, 20, 21, 22, 23, 24, 25, 26, 27, 28, 29, 30, 31, 32, 33, 34, 35, 36, 37, 38, 39, 40, 41, 42, 43, 44, 45, 46, 47, 48, 49, 50, 51, 52, 53, 54, 55, 56, 57, 58, 59] (by decide +kernel) (by decide +kernel)
set_option maxRecDepth 20000 in
theorem gX5_guide_X5_bad : GoodIn wsX5_guide (wsV RX5 119 RX5 yX5_bad wsX5_bad) := goodIn_app (goodIn_of _ (by decide +kernel)) ggX5_guide_X5_bad
theorem dX5_guide_0 : decode cX5_guide 0 = .ok (.aload_n 0, 1) := by decide +kernel
theorem dX5_guide_1 : decode cX5_guide 1 = .ok (.iconst 0, 1) := by decide +kernel
theorem dX5_guide_2 : decode cX5_guide 2 = .ok (.putfield 116, 3) := by decide +kernel
theorem dX5_guide_5 : decode cX5_guide 5 = .ok (.aload_n 0, 1) := by decide +kernel
theorem dX5_guide_6 : decode cX5_guide 6 = .ok (.iload_n 1, 1) := by decide +kernel
theorem dX5_guide_7 : decode cX5_guide 7 = .ok (.ifCond .lt 11, 3) := by decide +kernel
theorem dX5_guide_10 : decode cX5_guide 10 = .ok (.iload_n 1, 1) := by decide +kernel
theorem dX5_guide_11 : decode cX5_guide 11 = .ok (.aload_n 0, 1) := by decide +kernel
theorem dX5_guide_12 : decode cX5_guide 12 = .ok (.getfield 182, 3) := by decide +kernel
theorem dX5_guide_15 : decode cX5_guide 15 = .ok (.if_icmp .lt 7, 3) := by decide +kernel
theorem dX5_guide_18 : decode cX5_guide 18 = .ok (.iconst 1, 1) := by decide +kernel
theorem dX5_guide_19 : decode cX5_guide 19 = .ok (.goto 4, 3) := by decide +kernel
theorem dX5_guide_22 : decode cX5_guide 22 = .ok (.iconst 0, 1) := by decide +kernel
theorem dX5_guide_23 : decode cX5_guide 23 = .ok (.iconst 1, 1) := by decide +kernel
theorem dX5_guide_24 : decode cX5_guide 24 = .ok (.invokevirtual 119, 3) := by decide +kernel
theorem dX5_guide_27 : decode cX5_guide 27 = .ok (.ifCond .ne 25, 3) := by decide +kernel
theorem dX5_guide_30 : decode cX5_guide 30 = .ok (.aload_n 0, 1) := by decide +kernel
theorem dX5_guide_31 : decode cX5_guide 31 = .ok (.iload_n 2, 1) := by decide +kernel
theorem dX5_guide_32 : decode cX5_guide 32 = .ok (.ifCond .lt 8, 3) := by decide +kernel
theorem dX5_guide_35 : decode cX5_guide 35 = .ok (.iload_n 2, 1) := by decide +kernel
theorem dX5_guide_36 : decode cX5_guide 36 = .ok (.iconst 1, 1) := by decide +kernel
theorem dX5_guide_37 : decode cX5_guide 37 = .ok (.if_icmp .le 7, 3) := by decide +kernel
theorem dX5_guide_40 : decode cX5_guide 40 = .ok (.iconst 1, 1) := by decide +kernel
theorem dX5_guide_41 : decode cX5_guide 41 = .ok (.goto 4, 3) := by decide +kernel
theorem dX5_guide_44 : decode cX5_guide 44 = .ok (.iconst 0, 1) := by decide +kernel
theorem dX5_guide_45 : decode cX5_guide 45 = .ok (.iconst 2, 1) := by decide +kernel
theorem dX5_guide_46 : decode cX5_guide 46 = .ok (.invokevirtual 119, 3) := by decide +kernel
theorem dX5_guide_49 : decode cX5_guide 49 = .ok (.ifCond .eq 5, 3) := by decide +kernel
theorem dX5_guide_52 : decode cX5_guide 52 = .ok (.iconst 0, 1) := by decide +kernel
theorem dX5_guide_53 : decode cX5_guide 53 = .ok (.ireturn, 1) := by decide +kernel
theorem dX5_guide_54 : decode cX5_guide 54 = .ok (.aload_n 0, 1) := by decide +kernel
theorem dX5_guide_55 : decode cX5_guide 55 = .ok (.getfield 92, 3) := by decide +kernel
theorem dX5_guide_58 : decode cX5_guide 58 = .ok (.iload_n 1, 1) := by decide +kernel
theorem dX5_guide_59 : decode cX5_guide 59 = .ok (.aload_n 0, 1) := by decide +kernel
theorem dX5_guide_60 : decode cX5_guide 60 = .ok (.getfield 83, 3) := by decide +kernel
theorem dX5_guide_63 : decode cX5_guide 63 = .ok (.imul, 1) := by decide +kernel
theorem dX5_guide_64 : decode cX5_guide 64 = .ok (.iaload, 1) := by decide +kernel
theorem dX5_guide_65 : decode cX5_guide 65 = .ok (.istore_n 3, 1) := by decide +kernel
theorem dX5_guide_66 : decode cX5_guide 66 = .ok (.iload_n 1, 1) := by decide +kernel
theorem dX5_guide_67 : decode cX5_guide 67 = .ok (.iconst 1, 1) := by decide +kernel
theorem dX5_guide_68 : decode cX5_guide 68 = .ok (.iadd, 1) := by decide +kernel
theorem dX5_guide_69 : decode cX5_guide 69 = .ok (.aload_n 0, 1) := by decide +kernel
theorem dX5_guide_70 : decode cX5_guide 70 = .ok (.getfield 83, 3) := by decide +kernel
theorem dX5_guide_73 : decode cX5_guide 73 = .ok (.imul, 1) := by decide +kernel
theorem dX5_guide_74 : decode cX5_guide 74 = .ok (.aload_n 0, 1) := by decide +kernel
theorem dX5_guide_75 : decode cX5_guide 75 = .ok (.getfield 173, 3) := by decide +kernel
theorem dX5_guide_78 : decode cX5_guide 78 = .ok (.if_icmp .ge 19, 3) := by decide +kernel
theorem dX5_guide_81 : decode cX5_guide 81 = .ok (.aload_n 0, 1) := by decide +kernel
theorem dX5_guide_82 : decode cX5_guide 82 = .ok (.getfield 92, 3) := by decide +kernel
theorem dX5_guide_85 : decode cX5_guide 85 = .ok (.iload_n 1, 1) := by decide +kernel
theorem dX5_guide_86 : decode cX5_guide 86 = .ok (.iconst 1, 1) := by decide +kernel
theorem dX5_guide_87 : decode cX5_guide 87 = .ok (.iadd, 1) := by decide +kernel
theorem dX5_guide_88 : decode cX5_guide 88 = .ok (.aload_n 0, 1) := by decide +kernel
theorem dX5_guide_89 : decode cX5_guide 89 = .ok (.getfield 83, 3) := by decide +kernel
theorem dX5_guide_92 : decode cX5_guide 92 = .ok (.imul, 1) := by decide +kernel
theorem dX5_guide_93 : decode cX5_guide 93 = .ok (.iaload, 1) := by decide +kernel
theorem dX5_guide_94 : decode cX5_guide 94 = .ok (.goto 7, 3) := by decide +kernel
theorem dX5_guide_97 : decode cX5_guide 97 = .ok (.aload_n 0, 1) := by decide +kernel
theorem dX5_guide_98 : decode cX5_guide 98 = .ok (.getfield 170, 3) := by decide +kernel
theorem dX5_guide_101 : decode cX5_guide 101 = .ok (.istore 4, 2) := by decide +kernel
theorem dX5_guide_103 : decode cX5_guide 103 = .ok (.iconst (-1), 1) := by decide +kernel
theorem dX5_guide_104 : decode cX5_guide 104 = .ok (.istore 5, 2) := by decide +kernel
theorem dX5_guide_106 : decode cX5_guide 106 = .ok (.iconst (-1), 1) := by decide +kernel
theorem dX5_guide_107 : decode cX5_guide 107 = .ok (.istore 6, 2) := by decide +kernel
theorem dX5_guide_109 : decode cX5_guide 109 = .ok (.iload_n 3, 1) := by decide +kernel
theorem dX5_guide_110 : decode cX5_guide 110 = .ok (.istore 7, 2) := by decide +kernel
theorem dX5_guide_112 : decode cX5_guide 112 = .ok (.iload 7, 2) := by decide +kernel
theorem dX5_guide_114 : decode cX5_guide 114 = .ok (.iload 4, 2) := by decide +kernel
theorem dX5_guide_116 : decode cX5_guide 116 = .ok (.if_icmp .ge 50, 3) := by decide +kernel
theorem dX5_guide_119 : decode cX5_guide 119 = .ok (.aload_n 0, 1) := by decide +kernel
theorem dX5_guide_120 : decode cX5_guide 120 = .ok (.getfield 89, 3) := by decide +kernel
theorem dX5_guide_123 : decode cX5_guide 123 = .ok (.iload 7, 2) := by decide +kernel
theorem dX5_guide_125 : decode cX5_guide 125 = .ok (.iaload, 1) := by decide +kernel
theorem dX5_guide_126 : decode cX5_guide 126 = .ok (.ifCond .eq 6, 3) := by decide +kernel
theorem dX5_guide_129 : decode cX5_guide 129 = .ok (.goto 31, 3) := by decide +kernel
theorem dX5_guide_132 : decode cX5_guide 132 = .ok (.iload 5, 2) := by decide +kernel
theorem dX5_guide_134 : decode cX5_guide 134 = .ok (.ifCond .ge 13, 3) := by decide +kernel
theorem dX5_guide_137 : decode cX5_guide 137 = .ok (.aload_n 0, 1) := by decide +kernel
theorem dX5_guide_138 : decode cX5_guide 138 = .ok (.getfield 86, 3) := by decide +kernel
theorem dX5_guide_141 : decode cX5_guide 141 = .ok (.iload 7, 2) := by decide +kernel
theorem dX5_guide_143 : decode cX5_guide 143 = .ok (.iaload, 1) := by decide +kernel
theorem dX5_guide_144 : decode cX5_guide 144 = .ok (.goto 5, 3) := by decide +kernel
theorem dX5_guide_147 : decode cX5_guide 147 = .ok (.iload 5, 2) := by decide +kernel
theorem dX5_guide_149 : decode cX5_guide 149 = .ok (.istore 5, 2) := by decide +kernel
theorem dX5_guide_151 : decode cX5_guide 151 = .ok (.aload_n 0, 1) := by decide +kernel
theorem dX5_guide_152 : decode cX5_guide 152 = .ok (.getfield 86, 3) := by decide +kernel
theorem dX5_guide_155 : decode cX5_guide 155 = .ok (.iload 7, 2) := by decide +kernel
theorem dX5_guide_157 : decode cX5_guide 157 = .ok (.iaload, 1) := by decide +kernel
theorem dX5_guide_158 : decode cX5_guide 158 = .ok (.istore 6, 2) := by decide +kernel
theorem dX5_guide_160 : decode cX5_guide 160 = .ok (.iinc 7 1, 3) := by decide +kernel
theorem dX5_guide_163 : decode cX5_guide 163 = .ok (.goto (-51), 3) := by decide +kernel
theorem dX5_guide_166 : decode cX5_guide 166 = .ok (.iload 5, 2) := by decide +kernel
theorem dX5_guide_168 : decode cX5_guide 168 = .ok (.ifCond .ge 10, 3) := by decide +kernel
theorem dX5_guide_171 : decode cX5_guide 171 = .ok (.aload_n 0, 1) := by decide +kernel
theorem dX5_guide_172 : decode cX5_guide 172 = .ok (.getfield 86, 3) := by decide +kernel
theorem dX5_guide_175 : decode cX5_guide 175 = .ok (.iload_n 3, 1) := by decide +kernel
theorem dX5_guide_176 : decode cX5_guide 176 = .ok (.iaload, 1) := by decide +kernel
theorem dX5_guide_177 : decode cX5_guide 177 = .ok (.ireturn, 1) := by decide +kernel
theorem dX5_guide_178 : decode cX5_guide 178 = .ok (.iload_n 2, 1) := by decide +kernel
theorem dX5_guide_179 : decode cX5_guide 179 = .ok (.ifCond .ne 8, 3) := by decide +kernel
theorem dX5_guide_182 : decode cX5_guide 182 = .ok (.iload 5, 2) := by decide +kernel
theorem dX5_guide_184 : decode cX5_guide 184 = .ok (.goto 5, 3) := by decide +kernel
theorem dX5_guide_187 : decode cX5_guide 187 = .ok (.iload 6, 2) := by decide +kernel
theorem dX5_guide_189 : decode cX5_guide 189 = .ok (.ireturn, 1) := by decide +kernel
set_option maxRecDepth 20000 in
theorem ggX5_counts_X5_makes : GoodIn wsX5_counts wsX5_makes := goodIn_r _ [11, 3, 12, 13, 14, 15, 5, 16, 17, 18, 6, 4, 19, 20, 21, 22, 10, 23, 24, 25, 26, 27, 28, 29, 30, 31, 32, 33, 34, 35, 36, 37, 38, 39, 40, 41, 42, 43, 44, 45, 46, 47, 48, 49, 50, 51, 52, 53, 54, 55, 56, 57, 58, 59, 60, 61, 62, 63, 64, 65, 66, 67, 68, 69, 70, 71, 72, 73, 74] (by decide +kernel) (by decide +kernel)
set_option maxRecDepth 20000 in
theorem gX5_counts_X5_makes : GoodIn wsX5_counts (wsV RX5 163 RX5 yX5_makes wsX5_makes) := goodIn_app (goodIn_of _ (by decide +kernel)) ggX5_counts_X5_makes
theorem dX5_counts_0 : decode cX5_counts 0 = .ok (.aload_n 0, 1) := by decide +kernel
theorem dX5_counts_1 : decode cX5_counts 1 = .ok (.invokevirtual 163, 3) := by decide +kernel
theorem dX5_counts_4 : decode cX5_counts 4 = .ok (.iconst 0, 1) := by decide +kernel
theorem dX5_counts_5 : decode cX5_counts 5 = .ok (.istore_n 1, 1) := by decide +kernel
theorem dX5_counts_6 : decode cX5_counts 6 = .ok (.iload_n 1, 1) := by decide +kernel
theorem dX5_counts_7 : decode cX5_counts 7 = .ok (.bipush 26, 2) := by decide +kernel
theorem dX5_counts_9 : decode cX5_counts 9 = .ok (.if_icmp .ge 23, 3) := by decide +kernel
theorem dX5_counts_12 : decode cX5_counts 12 = .ok (.aload_n 0, 1) := by decide +kernel
theorem dX5_counts_13 : decode cX5_counts 13 = .ok (.getfield 110, 3) := by decide +kernel
theorem dX5_counts_16 : decode cX5_counts 16 = .ok (.iload_n 1, 1) := by decide +kernel
theorem dX5_counts_17 : decode cX5_counts 17 = .ok (.iconst 0, 1) := by decide +kernel
theorem dX5_counts_18 : decode cX5_counts 18 = .ok (.iastore, 1) := by decide +kernel
theorem dX5_counts_19 : decode cX5_counts 19 = .ok (.aload_n 0, 1) := by decide +kernel
theorem dX5_counts_20 : decode cX5_counts 20 = .ok (.getfield 113, 3) := by decide +kernel
theorem dX5_counts_23 : decode cX5_counts 23 = .ok (.iload_n 1, 1) := by decide +kernel
theorem dX5_counts_24 : decode cX5_counts 24 = .ok (.iconst 0, 1) := by decide +kernel
theorem dX5_counts_25 : decode cX5_counts 25 = .ok (.bastore, 1) := by decide +kernel
theorem dX5_counts_26 : decode cX5_counts 26 = .ok (.iinc 1 1, 3) := by decide +kernel
theorem dX5_counts_29 : decode cX5_counts 29 = .ok (.goto (-23), 3) := by decide +kernel
theorem dX5_counts_32 : decode cX5_counts 32 = .ok (.iconst 0, 1) := by decide +kernel
theorem dX5_counts_33 : decode cX5_counts 33 = .ok (.istore_n 1, 1) := by decide +kernel
theorem dX5_counts_34 : decode cX5_counts 34 = .ok (.iconst 0, 1) := by decide +kernel
theorem dX5_counts_35 : decode cX5_counts 35 = .ok (.istore_n 2, 1) := by decide +kernel
theorem dX5_counts_36 : decode cX5_counts 36 = .ok (.iload_n 2, 1) := by decide +kernel
theorem dX5_counts_37 : decode cX5_counts 37 = .ok (.aload_n 0, 1) := by decide +kernel
theorem dX5_counts_38 : decode cX5_counts 38 = .ok (.getfield 158, 3) := by decide +kernel
theorem dX5_counts_41 : decode cX5_counts 41 = .ok (.if_icmp .ge 58, 3) := by decide +kernel
theorem dX5_counts_44 : decode cX5_counts 44 = .ok (.aload_n 0, 1) := by decide +kernel
theorem dX5_counts_45 : decode cX5_counts 45 = .ok (.getfield 33, 3) := by decide +kernel
theorem dX5_counts_48 : decode cX5_counts 48 = .ok (.bipush 12, 2) := by decide +kernel
theorem dX5_counts_50 : decode cX5_counts 50 = .ok (.aload_n 0, 1) := by decide +kernel
theorem dX5_counts_51 : decode cX5_counts 51 = .ok (.getfield 58, 3) := by decide +kernel
theorem dX5_counts_54 : decode cX5_counts 54 = .ok (.iload_n 2, 1) := by decide +kernel
theorem dX5_counts_55 : decode cX5_counts 55 = .ok (.iaload, 1) := by decide +kernel
theorem dX5_counts_56 : decode cX5_counts 56 = .ok (.imul, 1) := by decide +kernel
theorem dX5_counts_57 : decode cX5_counts 57 = .ok (.iaload, 1) := by decide +kernel
theorem dX5_counts_58 : decode cX5_counts 58 = .ok (.bipush 97, 2) := by decide +kernel
theorem dX5_counts_60 : decode cX5_counts 60 = .ok (.isub, 1) := by decide +kernel
theorem dX5_counts_61 : decode cX5_counts 61 = .ok (.istore_n 3, 1) := by decide +kernel
theorem dX5_counts_62 : decode cX5_counts 62 = .ok (.aload_n 0, 1) := by decide +kernel
theorem dX5_counts_63 : decode cX5_counts 63 = .ok (.getfield 110, 3) := by decide +kernel
theorem dX5_counts_66 : decode cX5_counts 66 = .ok (.iload_n 3, 1) := by decide +kernel
theorem dX5_counts_67 : decode cX5_counts 67 = .ok (.dup2, 1) := by decide +kernel
theorem dX5_counts_68 : decode cX5_counts 68 = .ok (.iaload, 1) := by decide +kernel
theorem dX5_counts_69 : decode cX5_counts 69 = .ok (.aload_n 0, 1) := by decide +kernel
theorem dX5_counts_70 : decode cX5_counts 70 = .ok (.getfield 64, 3) := by decide +kernel
theorem dX5_counts_73 : decode cX5_counts 73 = .ok (.iload_n 2, 1) := by decide +kernel
theorem dX5_counts_74 : decode cX5_counts 74 = .ok (.iaload, 1) := by decide +kernel
theorem dX5_counts_75 : decode cX5_counts 75 = .ok (.iadd, 1) := by decide +kernel
theorem dX5_counts_76 : decode cX5_counts 76 = .ok (.iastore, 1) := by decide +kernel
theorem dX5_counts_77 : decode cX5_counts 77 = .ok (.aload_n 0, 1) := by decide +kernel
theorem dX5_counts_78 : decode cX5_counts 78 = .ok (.getfield 113, 3) := by decide +kernel
theorem dX5_counts_81 : decode cX5_counts 81 = .ok (.iload_n 3, 1) := by decide +kernel
theorem dX5_counts_82 : decode cX5_counts 82 = .ok (.iconst 1, 1) := by decide +kernel
theorem dX5_counts_83 : decode cX5_counts 83 = .ok (.bastore, 1) := by decide +kernel
theorem dX5_counts_84 : decode cX5_counts 84 = .ok (.iload_n 1, 1) := by decide +kernel
theorem dX5_counts_85 : decode cX5_counts 85 = .ok (.aload_n 0, 1) := by decide +kernel
theorem dX5_counts_86 : decode cX5_counts 86 = .ok (.getfield 64, 3) := by decide +kernel
theorem dX5_counts_89 : decode cX5_counts 89 = .ok (.iload_n 2, 1) := by decide +kernel
theorem dX5_counts_90 : decode cX5_counts 90 = .ok (.iaload, 1) := by decide +kernel
theorem dX5_counts_91 : decode cX5_counts 91 = .ok (.iadd, 1) := by decide +kernel
theorem dX5_counts_92 : decode cX5_counts 92 = .ok (.istore_n 1, 1) := by decide +kernel
theorem dX5_counts_93 : decode cX5_counts 93 = .ok (.iinc 2 1, 3) := by decide +kernel
theorem dX5_counts_96 : decode cX5_counts 96 = .ok (.goto (-60), 3) := by decide +kernel
theorem dX5_counts_99 : decode cX5_counts 99 = .ok (.iload_n 1, 1) := by decide +kernel
theorem dX5_counts_100 : decode cX5_counts 100 = .ok (.ireturn, 1) := by decide +kernel
set_option maxRecDepth 20000 in
theorem ggX5_thumb_X5_bad : GoodIn wsX5_thumb wsX5_bad := goodIn_r _ [9, 1, 39, 40, 41, 42, 43, 44, 45, 46, 47, 48, 49, 50, 51, 52, 53, 54, 55, 56, 57, 58, 59, 60, 61, 62, 63, 64, 65, 66, 67, 68, 69, 70, 71, 72, 73, 74, 75, 76, 77, 78, 79, 80, 81, 82, 83, 84] (by decide +kernel) (by decide +kernel)
set_option maxRecDepth 20000 in
theorem gX5_thumb_X5_bad : GoodIn wsX5_thumb (wsV RX5 119 RX5 yX5_bad wsX5_bad) := goodIn_app (goodIn_of _ (by decide +kernel)) ggX5_thumb_X5_bad
set_option maxRecDepth 20000 in
theorem ggX5_thumb_X5_counts : GoodIn wsX5_thumb wsX5_counts := goodIn_r _ [13, 3, 2, 14, 15, 16, 17, 18, 19, 20, 8, 21, 22, 23, 24, 25, 26, 27, 28, 29, 30, 31, 32, 33, 34, 35, 36, 37, 38, 39, 40, 41, 42, 43, 44, 45, 46, 47, 48, 49, 50, 51, 52, 53, 54, 55, 56, 57, 58, 59, 60, 61, 62, 63, 64, 65, 66, 67, 68, 69, 70, 71, 72, 73, 74, 75, 76, 77, 78, 79, 80, 81, 82, 83, 84] (by decide +kernel) (by decide +kernel)
set_option maxRecDepth 20000 in
theorem gX5_thumb_X5_counts : GoodIn wsX5_thumb (wsV RX5 191 RX5 yX5_counts wsX5_counts) := goodIn_app (goodIn_of _ (by decide +kernel)) ggX5_thumb_X5_counts
theorem dX5_thumb_0 : decode cX5_thumb 0 = .ok (.aload_n 0, 1) := by decide +kernel
theorem dX5_thumb_1 : decode cX5_thumb 1 = .ok (.iconst 0, 1) := by decide +kernel
theorem dX5_thumb_2 : decode cX5_thumb 2 = .ok (.putfield 116, 3) := by decide +kernel
theorem dX5_thumb_5 : decode cX5_thumb 5 = .ok (.aload_n 0, 1) := by decide +kernel
theorem dX5_thumb_6 : decode cX5_thumb 6 = .ok (.iload_n 1, 1) := by decide +kernel
theorem dX5_thumb_7 : decode cX5_thumb 7 = .ok (.ifCond .lt 21, 3) := by decide +kernel
theorem dX5_thumb_10 : decode cX5_thumb 10 = .ok (.iload_n 1, 1) := by decide +kernel
theorem dX5_thumb_11 : decode cX5_thumb 11 = .ok (.bipush 25, 2) := by decide +kernel
theorem dX5_thumb_13 : decode cX5_thumb 13 = .ok (.if_icmp .gt 15, 3) := by decide +kernel
theorem dX5_thumb_16 : decode cX5_thumb 16 = .ok (.iload_n 2, 1) := by decide +kernel
theorem dX5_thumb_17 : decode cX5_thumb 17 = .ok (.iconst 1, 1) := by decide +kernel
theorem dX5_thumb_18 : decode cX5_thumb 18 = .ok (.if_icmp .lt 10, 3) := by decide +kernel
theorem dX5_thumb_21 : decode cX5_thumb 21 = .ok (.iload_n 2, 1) := by decide +kernel
theorem dX5_thumb_22 : decode cX5_thumb 22 = .ok (.sipush 10000, 3) := by decide +kernel
theorem dX5_thumb_25 : decode cX5_thumb 25 = .ok (.if_icmp .le 7, 3) := by decide +kernel
theorem dX5_thumb_28 : decode cX5_thumb 28 = .ok (.iconst 1, 1) := by decide +kernel
theorem dX5_thumb_29 : decode cX5_thumb 29 = .ok (.goto 4, 3) := by decide +kernel
theorem dX5_thumb_32 : decode cX5_thumb 32 = .ok (.iconst 0, 1) := by decide +kernel
theorem dX5_thumb_33 : decode cX5_thumb 33 = .ok (.iconst 1, 1) := by decide +kernel
theorem dX5_thumb_34 : decode cX5_thumb 34 = .ok (.invokevirtual 119, 3) := by decide +kernel
theorem dX5_thumb_37 : decode cX5_thumb 37 = .ok (.ifCond .eq 5, 3) := by decide +kernel
theorem dX5_thumb_40 : decode cX5_thumb 40 = .ok (.iconst 0, 1) := by decide +kernel
theorem dX5_thumb_41 : decode cX5_thumb 41 = .ok (.ireturn, 1) := by decide +kernel
theorem dX5_thumb_42 : decode cX5_thumb 42 = .ok (.aload_n 0, 1) := by decide +kernel
theorem dX5_thumb_43 : decode cX5_thumb 43 = .ok (.invokevirtual 191, 3) := by decide +kernel
theorem dX5_thumb_46 : decode cX5_thumb 46 = .ok (.istore_n 3, 1) := by decide +kernel
theorem dX5_thumb_47 : decode cX5_thumb 47 = .ok (.aload_n 0, 1) := by decide +kernel
theorem dX5_thumb_48 : decode cX5_thumb 48 = .ok (.getfield 113, 3) := by decide +kernel
theorem dX5_thumb_51 : decode cX5_thumb 51 = .ok (.iload_n 1, 1) := by decide +kernel
theorem dX5_thumb_52 : decode cX5_thumb 52 = .ok (.baload, 1) := by decide +kernel
theorem dX5_thumb_53 : decode cX5_thumb 53 = .ok (.ifCond .ne 5, 3) := by decide +kernel
theorem dX5_thumb_56 : decode cX5_thumb 56 = .ok (.iconst (-1), 1) := by decide +kernel
theorem dX5_thumb_57 : decode cX5_thumb 57 = .ok (.ireturn, 1) := by decide +kernel
theorem dX5_thumb_58 : decode cX5_thumb 58 = .ok (.iconst 0, 1) := by decide +kernel
theorem dX5_thumb_59 : decode cX5_thumb 59 = .ok (.istore 4, 2) := by decide +kernel
theorem dX5_thumb_61 : decode cX5_thumb 61 = .ok (.iconst 0, 1) := by decide +kernel
theorem dX5_thumb_62 : decode cX5_thumb 62 = .ok (.istore 5, 2) := by decide +kernel
theorem dX5_thumb_64 : decode cX5_thumb 64 = .ok (.iload 5, 2) := by decide +kernel
theorem dX5_thumb_66 : decode cX5_thumb 66 = .ok (.iload_n 1, 1) := by decide +kernel
theorem dX5_thumb_67 : decode cX5_thumb 67 = .ok (.if_icmp .ge 21, 3) := by decide +kernel
theorem dX5_thumb_70 : decode cX5_thumb 70 = .ok (.iload 4, 2) := by decide +kernel
theorem dX5_thumb_72 : decode cX5_thumb 72 = .ok (.aload_n 0, 1) := by decide +kernel
theorem dX5_thumb_73 : decode cX5_thumb 73 = .ok (.getfield 110, 3) := by decide +kernel
theorem dX5_thumb_76 : decode cX5_thumb 76 = .ok (.iload 5, 2) := by decide +kernel
theorem dX5_thumb_78 : decode cX5_thumb 78 = .ok (.iaload, 1) := by decide +kernel
theorem dX5_thumb_79 : decode cX5_thumb 79 = .ok (.iadd, 1) := by decide +kernel
theorem dX5_thumb_80 : decode cX5_thumb 80 = .ok (.istore 4, 2) := by decide +kernel
theorem dX5_thumb_82 : decode cX5_thumb 82 = .ok (.iinc 5 1, 3) := by decide +kernel
theorem dX5_thumb_85 : decode cX5_thumb 85 = .ok (.goto (-21), 3) := by decide +kernel
theorem dX5_thumb_88 : decode cX5_thumb 88 = .ok (.iload_n 2, 1) := by decide +kernel
theorem dX5_thumb_89 : decode cX5_thumb 89 = .ok (.i2l, 1) := by decide +kernel
theorem dX5_thumb_90 : decode cX5_thumb 90 = .ok (.iconst 2, 1) := by decide +kernel
theorem dX5_thumb_91 : decode cX5_thumb 91 = .ok (.iload 4, 2) := by decide +kernel
theorem dX5_thumb_93 : decode cX5_thumb 93 = .ok (.imul, 1) := by decide +kernel
theorem dX5_thumb_94 : decode cX5_thumb 94 = .ok (.aload_n 0, 1) := by decide +kernel
theorem dX5_thumb_95 : decode cX5_thumb 95 = .ok (.getfield 110, 3) := by decide +kernel
theorem dX5_thumb_98 : decode cX5_thumb 98 = .ok (.iload_n 1, 1) := by decide +kernel
theorem dX5_thumb_99 : decode cX5_thumb 99 = .ok (.iaload, 1) := by decide +kernel
theorem dX5_thumb_100 : decode cX5_thumb 100 = .ok (.iadd, 1) := by decide +kernel
theorem dX5_thumb_101 : decode cX5_thumb 101 = .ok (.i2l, 1) := by decide +kernel
theorem dX5_thumb_102 : decode cX5_thumb 102 = .ok (.lmul, 1) := by decide +kernel
theorem dX5_thumb_103 : decode cX5_thumb 103 = .ok (.ldc2_w 195, 3) := by decide +kernel
theorem dX5_thumb_106 : decode cX5_thumb 106 = .ok (.iload_n 3, 1) := by decide +kernel
theorem dX5_thumb_107 : decode cX5_thumb 107 = .ok (.i2l, 1) := by decide +kernel
theorem dX5_thumb_108 : decode cX5_thumb 108 = .ok (.lmul, 1) := by decide +kernel
theorem dX5_thumb_109 : decode cX5_thumb 109 = .ok (.ldiv, 1) := by decide +kernel
theorem dX5_thumb_110 : decode cX5_thumb 110 = .ok (.l2i, 1) := by decide +kernel
theorem dX5_thumb_111 : decode cX5_thumb 111 = .ok (.ireturn, 1) := by decide +kernel
set_option maxRecDepth 20000 in
theorem ggX5_volume_X5_counts : GoodIn wsX5_volume wsX5_counts := goodIn_r _ [8, 3, 2, 9, 10, 11, 12, 13, 14, 15, 7, 16, 17, 18, 19, 20, 21, 22, 23, 24, 25, 26, 27, 28, 29, 30, 31, 32, 33, 34, 35, 36, 37, 38, 39, 40, 41, 42, 43, 44, 45, 46, 47, 48, 49, 50, 51, 52, 53, 54, 55, 56, 57, 58, 59, 60, 61, 62, 63, 64, 65, 66, 67, 68, 69, 70, 71, 72, 73, 74, 75, 76, 77, 78, 79] (by decide +kernel) (by decide +kernel)
set_option maxRecDepth 20000 in
theorem gX5_volume_X5_counts : GoodIn wsX5_volume (wsV RX5 191 RX5 yX5_counts wsX5_counts) := goodIn_app (goodIn_of _ (by decide +kernel)) ggX5_volume_X5_counts
theorem dX5_volume_0 : decode cX5_volume 0 = .ok (.aload_n 0, 1) := by decide +kernel
theorem dX5_volume_1 : decode cX5_volume 1 = .ok (.iconst 0, 1) := by decide +kernel
theorem dX5_volume_2 : decode cX5_volume 2 = .ok (.putfield 116, 3) := by decide +kernel
theorem dX5_volume_5 : decode cX5_volume 5 = .ok (.aload_n 0, 1) := by decide +kernel
theorem dX5_volume_6 : decode cX5_volume 6 = .ok (.invokevirtual 191, 3) := by decide +kernel
theorem dX5_volume_9 : decode cX5_volume 9 = .ok (.istore_n 1, 1) := by decide +kernel
theorem dX5_volume_10 : decode cX5_volume 10 = .ok (.iconst 0, 1) := by decide +kernel
theorem dX5_volume_11 : decode cX5_volume 11 = .ok (.istore_n 2, 1) := by decide +kernel
theorem dX5_volume_12 : decode cX5_volume 12 = .ok (.iconst (-1), 1) := by decide +kernel
theorem dX5_volume_13 : decode cX5_volume 13 = .ok (.istore_n 3, 1) := by decide +kernel
theorem dX5_volume_14 : decode cX5_volume 14 = .ok (.iconst 0, 1) := by decide +kernel
theorem dX5_volume_15 : decode cX5_volume 15 = .ok (.istore 4, 2) := by decide +kernel
theorem dX5_volume_17 : decode cX5_volume 17 = .ok (.iconst 1, 1) := by decide +kernel
theorem dX5_volume_18 : decode cX5_volume 18 = .ok (.istore 5, 2) := by decide +kernel
theorem dX5_volume_20 : decode cX5_volume 20 = .ok (.iconst 0, 1) := by decide +kernel
theorem dX5_volume_21 : decode cX5_volume 21 = .ok (.istore 6, 2) := by decide +kernel
theorem dX5_volume_23 : decode cX5_volume 23 = .ok (.iload 6, 2) := by decide +kernel
theorem dX5_volume_25 : decode cX5_volume 25 = .ok (.bipush 26, 2) := by decide +kernel
theorem dX5_volume_27 : decode cX5_volume 27 = .ok (.if_icmp .ge 80, 3) := by decide +kernel
theorem dX5_volume_30 : decode cX5_volume 30 = .ok (.aload_n 0, 1) := by decide +kernel
theorem dX5_volume_31 : decode cX5_volume 31 = .ok (.getfield 113, 3) := by decide +kernel
theorem dX5_volume_34 : decode cX5_volume 34 = .ok (.iload 6, 2) := by decide +kernel
theorem dX5_volume_36 : decode cX5_volume 36 = .ok (.baload, 1) := by decide +kernel
theorem dX5_volume_37 : decode cX5_volume 37 = .ok (.ifCond .ne 6, 3) := by decide +kernel
theorem dX5_volume_40 : decode cX5_volume 40 = .ok (.goto 61, 3) := by decide +kernel
theorem dX5_volume_43 : decode cX5_volume 43 = .ok (.iconst 2, 1) := by decide +kernel
theorem dX5_volume_44 : decode cX5_volume 44 = .ok (.iload_n 2, 1) := by decide +kernel
theorem dX5_volume_45 : decode cX5_volume 45 = .ok (.imul, 1) := by decide +kernel
theorem dX5_volume_46 : decode cX5_volume 46 = .ok (.iload_n 1, 1) := by decide +kernel
theorem dX5_volume_47 : decode cX5_volume 47 = .ok (.isub, 1) := by decide +kernel
theorem dX5_volume_48 : decode cX5_volume 48 = .ok (.istore 7, 2) := by decide +kernel
theorem dX5_volume_50 : decode cX5_volume 50 = .ok (.iload 7, 2) := by decide +kernel
theorem dX5_volume_52 : decode cX5_volume 52 = .ok (.ifCond .ge 9, 3) := by decide +kernel
theorem dX5_volume_55 : decode cX5_volume 55 = .ok (.iload 7, 2) := by decide +kernel
theorem dX5_volume_57 : decode cX5_volume 57 = .ok (.ineg, 1) := by decide +kernel
theorem dX5_volume_58 : decode cX5_volume 58 = .ok (.goto 5, 3) := by decide +kernel
theorem dX5_volume_61 : decode cX5_volume 61 = .ok (.iload 7, 2) := by decide +kernel
theorem dX5_volume_63 : decode cX5_volume 63 = .ok (.istore 7, 2) := by decide +kernel
theorem dX5_volume_65 : decode cX5_volume 65 = .ok (.iload 5, 2) := by decide +kernel
theorem dX5_volume_67 : decode cX5_volume 67 = .ok (.ifCond .ne 21, 3) := by decide +kernel
theorem dX5_volume_70 : decode cX5_volume 70 = .ok (.iload_n 3, 1) := by decide +kernel
theorem dX5_volume_71 : decode cX5_volume 71 = .ok (.ifCond .lt 10, 3) := by decide +kernel
theorem dX5_volume_74 : decode cX5_volume 74 = .ok (.iload 7, 2) := by decide +kernel
theorem dX5_volume_76 : decode cX5_volume 76 = .ok (.iload 4, 2) := by decide +kernel
theorem dX5_volume_78 : decode cX5_volume 78 = .ok (.if_icmp .ge 10, 3) := by decide +kernel
theorem dX5_volume_81 : decode cX5_volume 81 = .ok (.iload 6, 2) := by decide +kernel
theorem dX5_volume_83 : decode cX5_volume 83 = .ok (.istore_n 3, 1) := by decide +kernel
theorem dX5_volume_84 : decode cX5_volume 84 = .ok (.iload 7, 2) := by decide +kernel
theorem dX5_volume_86 : decode cX5_volume 86 = .ok (.istore 4, 2) := by decide +kernel
theorem dX5_volume_88 : decode cX5_volume 88 = .ok (.iconst 0, 1) := by decide +kernel
theorem dX5_volume_89 : decode cX5_volume 89 = .ok (.istore 5, 2) := by decide +kernel
theorem dX5_volume_91 : decode cX5_volume 91 = .ok (.iload_n 2, 1) := by decide +kernel
theorem dX5_volume_92 : decode cX5_volume 92 = .ok (.aload_n 0, 1) := by decide +kernel
theorem dX5_volume_93 : decode cX5_volume 93 = .ok (.getfield 110, 3) := by decide +kernel
theorem dX5_volume_96 : decode cX5_volume 96 = .ok (.iload 6, 2) := by decide +kernel
theorem dX5_volume_98 : decode cX5_volume 98 = .ok (.iaload, 1) := by decide +kernel
theorem dX5_volume_99 : decode cX5_volume 99 = .ok (.iadd, 1) := by decide +kernel
theorem dX5_volume_100 : decode cX5_volume 100 = .ok (.istore_n 2, 1) := by decide +kernel
theorem dX5_volume_101 : decode cX5_volume 101 = .ok (.iinc 6 1, 3) := by decide +kernel
theorem dX5_volume_104 : decode cX5_volume 104 = .ok (.goto (-81), 3) := by decide +kernel
theorem dX5_volume_107 : decode cX5_volume 107 = .ok (.iload_n 3, 1) := by decide +kernel
theorem dX5_volume_108 : decode cX5_volume 108 = .ok (.ireturn, 1) := by decide +kernel
set_option maxRecDepth 20000 in
theorem ggX5_count_X5_sorts : GoodIn wsX5_count wsX5_sorts := goodIn_r _ [10, 2, 3, 11, 12, 13, 14, 15, 9, 16, 17, 18, 19, 20, 21, 22, 23, 24, 25, 26, 27, 28, 29, 30, 31, 32, 33, 34, 35, 36, 37, 38, 39, 40, 41, 42, 43, 44, 45, 46, 47, 48, 49, 50, 51, 52, 53, 54, 55, 56, 57, 58, 59, 60, 61, 62] (by decide +kernel) (by decide +kernel)
set_option maxRecDepth 20000 in
theorem gX5_count_X5_sorts : GoodIn wsX5_count (wsV RX5 155 RX5 yX5_sorts wsX5_sorts) := goodIn_app (goodIn_of _ (by decide +kernel)) ggX5_count_X5_sorts
theorem dX5_count_0 : decode cX5_count 0 = .ok (.aload_n 0, 1) := by decide +kernel
theorem dX5_count_1 : decode cX5_count 1 = .ok (.iconst 0, 1) := by decide +kernel
theorem dX5_count_2 : decode cX5_count 2 = .ok (.putfield 116, 3) := by decide +kernel
theorem dX5_count_5 : decode cX5_count 5 = .ok (.iload_n 1, 1) := by decide +kernel
theorem dX5_count_6 : decode cX5_count 6 = .ok (.tableswitch 54 0 3 #[30, 39, 44, 49], 30) := by decide +kernel
theorem dX5_count_36 : decode cX5_count 36 = .ok (.aload_n 0, 1) := by decide +kernel
theorem dX5_count_37 : decode cX5_count 37 = .ok (.invokevirtual 155, 3) := by decide +kernel
theorem dX5_count_40 : decode cX5_count 40 = .ok (.aload_n 0, 1) := by decide +kernel
theorem dX5_count_41 : decode cX5_count 41 = .ok (.getfield 148, 3) := by decide +kernel
theorem dX5_count_44 : decode cX5_count 44 = .ok (.ireturn, 1) := by decide +kernel
theorem dX5_count_45 : decode cX5_count 45 = .ok (.aload_n 0, 1) := by decide +kernel
theorem dX5_count_46 : decode cX5_count 46 = .ok (.getfield 133, 3) := by decide +kernel
theorem dX5_count_49 : decode cX5_count 49 = .ok (.ireturn, 1) := by decide +kernel
theorem dX5_count_50 : decode cX5_count 50 = .ok (.aload_n 0, 1) := by decide +kernel
theorem dX5_count_51 : decode cX5_count 51 = .ok (.getfield 123, 3) := by decide +kernel
theorem dX5_count_54 : decode cX5_count 54 = .ok (.ireturn, 1) := by decide +kernel
theorem dX5_count_55 : decode cX5_count 55 = .ok (.aload_n 0, 1) := by decide +kernel
theorem dX5_count_56 : decode cX5_count 56 = .ok (.getfield 126, 3) := by decide +kernel
theorem dX5_count_59 : decode cX5_count 59 = .ok (.ireturn, 1) := by decide +kernel
theorem dX5_count_60 : decode cX5_count 60 = .ok (.iconst (-1), 1) := by decide +kernel
theorem dX5_count_61 : decode cX5_count 61 = .ok (.ireturn, 1) := by decide +kernel
