theorem dX5_init_0 : decode cX5_init 0 = .ok (.aload_n 0, 1) := by decide +kernel
theorem dX5_init_1 : decode cX5_init 1 = .ok (.invokespecial 1, 3) := by decide +kernel
theorem dX5_init_4 : decode cX5_init 4 = .ok (.aload_n 0, 1) := by decide +kernel
theorem dX5_init_5 : decode cX5_init 5 = .ok (.bipush 20, 2) := by decide +kernel
theorem dX5_init_7 : decode cX5_init 7 = .ok (.putfield 7, 3) := by decide +kernel
theorem dX5_init_10 : decode cX5_init 10 = .ok (.aload_n 0, 1) := by decide +kernel
theorem dX5_init_11 : decode cX5_init 11 = .ok (.iconst 2, 1) := by decide +kernel
theorem dX5_init_12 : decode cX5_init 12 = .ok (.putfield 13, 3) := by decide +kernel
theorem dX5_init_15 : decode cX5_init 15 = .ok (.aload_n 0, 1) := by decide +kernel
theorem dX5_init_16 : decode cX5_init 16 = .ok (.iconst 2, 1) := by decide +kernel
theorem dX5_init_17 : decode cX5_init 17 = .ok (.putfield 16, 3) := by decide +kernel
theorem dX5_init_20 : decode cX5_init 20 = .ok (.aload_n 0, 1) := by decide +kernel
theorem dX5_init_21 : decode cX5_init 21 = .ok (.bipush 10, 2) := by decide +kernel
theorem dX5_init_23 : decode cX5_init 23 = .ok (.putfield 19, 3) := by decide +kernel
theorem dX5_init_26 : decode cX5_init 26 = .ok (.aload_n 0, 1) := by decide +kernel
theorem dX5_init_27 : decode cX5_init 27 = .ok (.bipush 20, 2) := by decide +kernel
theorem dX5_init_29 : decode cX5_init 29 = .ok (.putfield 22, 3) := by decide +kernel
theorem dX5_init_32 : decode cX5_init 32 = .ok (.aload_n 0, 1) := by decide +kernel
theorem dX5_init_33 : decode cX5_init 33 = .ok (.bipush 6, 2) := by decide +kernel
theorem dX5_init_35 : decode cX5_init 35 = .ok (.newarray .int, 2) := by decide +kernel
theorem dX5_init_37 : decode cX5_init 37 = .ok (.putfield 25, 3) := by decide +kernel
theorem dX5_init_40 : decode cX5_init 40 = .ok (.aload_n 0, 1) := by decide +kernel
theorem dX5_init_41 : decode cX5_init 41 = .ok (.bipush 60, 2) := by decide +kernel
theorem dX5_init_43 : decode cX5_init 43 = .ok (.newarray .byte, 2) := by decide +kernel
theorem dX5_init_45 : decode cX5_init 45 = .ok (.putfield 29, 3) := by decide +kernel
theorem dX5_init_48 : decode cX5_init 48 = .ok (.aload_n 0, 1) := by decide +kernel
theorem dX5_init_49 : decode cX5_init 49 = .ok (.sipush 1800, 3) := by decide +kernel
theorem dX5_init_52 : decode cX5_init 52 = .ok (.newarray .int, 2) := by decide +kernel
theorem dX5_init_54 : decode cX5_init 54 = .ok (.putfield 33, 3) := by decide +kernel
theorem dX5_init_57 : decode cX5_init 57 = .ok (.aload_n 0, 1) := by decide +kernel
theorem dX5_init_58 : decode cX5_init 58 = .ok (.sipush 1800, 3) := by decide +kernel
theorem dX5_init_61 : decode cX5_init 61 = .ok (.newarray .int, 2) := by decide +kernel
theorem dX5_init_63 : decode cX5_init 63 = .ok (.putfield 36, 3) := by decide +kernel
theorem dX5_init_66 : decode cX5_init 66 = .ok (.aload_n 0, 1) := by decide +kernel
theorem dX5_init_67 : decode cX5_init 67 = .ok (.sipush 900, 3) := by decide +kernel
theorem dX5_init_70 : decode cX5_init 70 = .ok (.newarray .int, 2) := by decide +kernel
theorem dX5_init_72 : decode cX5_init 72 = .ok (.putfield 39, 3) := by decide +kernel
theorem dX5_init_75 : decode cX5_init 75 = .ok (.aload_n 0, 1) := by decide +kernel
theorem dX5_init_76 : decode cX5_init 76 = .ok (.sipush 150, 3) := by decide +kernel
theorem dX5_init_79 : decode cX5_init 79 = .ok (.newarray .int, 2) := by decide +kernel
theorem dX5_init_81 : decode cX5_init 81 = .ok (.putfield 42, 3) := by decide +kernel
theorem dX5_init_84 : decode cX5_init 84 = .ok (.aload_n 0, 1) := by decide +kernel
theorem dX5_init_85 : decode cX5_init 85 = .ok (.sipush 150, 3) := by decide +kernel
theorem dX5_init_88 : decode cX5_init 88 = .ok (.newarray .boolean, 2) := by decide +kernel
theorem dX5_init_90 : decode cX5_init 90 = .ok (.putfield 45, 3) := by decide +kernel
theorem dX5_init_93 : decode cX5_init 93 = .ok (.aload_n 0, 1) := by decide +kernel
theorem dX5_init_94 : decode cX5_init 94 = .ok (.sipush 150, 3) := by decide +kernel
theorem dX5_init_97 : decode cX5_init 97 = .ok (.newarray .boolean, 2) := by decide +kernel
theorem dX5_init_99 : decode cX5_init 99 = .ok (.putfield 49, 3) := by decide +kernel
theorem dX5_init_102 : decode cX5_init 102 = .ok (.aload_n 0, 1) := by decide +kernel
theorem dX5_init_103 : decode cX5_init 103 = .ok (.sipush 150, 3) := by decide +kernel
theorem dX5_init_106 : decode cX5_init 106 = .ok (.newarray .int, 2) := by decide +kernel
theorem dX5_init_108 : decode cX5_init 108 = .ok (.putfield 52, 3) := by decide +kernel
theorem dX5_init_111 : decode cX5_init 111 = .ok (.aload_n 0, 1) := by decide +kernel
theorem dX5_init_112 : decode cX5_init 112 = .ok (.sipush 150, 3) := by decide +kernel
theorem dX5_init_115 : decode cX5_init 115 = .ok (.newarray .boolean, 2) := by decide +kernel
theorem dX5_init_117 : decode cX5_init 117 = .ok (.putfield 55, 3) := by decide +kernel
theorem dX5_init_120 : decode cX5_init 120 = .ok (.aload_n 0, 1) := by decide +kernel
theorem dX5_init_121 : decode cX5_init 121 = .ok (.sipush 900, 3) := by decide +kernel
theorem dX5_init_124 : decode cX5_init 124 = .ok (.newarray .int, 2) := by decide +kernel
theorem dX5_init_126 : decode cX5_init 126 = .ok (.putfield 58, 3) := by decide +kernel
theorem dX5_init_129 : decode cX5_init 129 = .ok (.aload_n 0, 1) := by decide +kernel
theorem dX5_init_130 : decode cX5_init 130 = .ok (.sipush 900, 3) := by decide +kernel
theorem dX5_init_133 : decode cX5_init 133 = .ok (.newarray .int, 2) := by decide +kernel
theorem dX5_init_135 : decode cX5_init 135 = .ok (.putfield 61, 3) := by decide +kernel
theorem dX5_init_138 : decode cX5_init 138 = .ok (.aload_n 0, 1) := by decide +kernel
theorem dX5_init_139 : decode cX5_init 139 = .ok (.sipush 900, 3) := by decide +kernel
theorem dX5_init_142 : decode cX5_init 142 = .ok (.newarray .int, 2) := by decide +kernel
theorem dX5_init_144 : decode cX5_init 144 = .ok (.putfield 64, 3) := by decide +kernel
theorem dX5_init_147 : decode cX5_init 147 = .ok (.aload_n 0, 1) := by decide +kernel
theorem dX5_init_148 : decode cX5_init 148 = .ok (.sipush 900, 3) := by decide +kernel
theorem dX5_init_151 : decode cX5_init 151 = .ok (.newarray .boolean, 2) := by decide +kernel
theorem dX5_init_153 : decode cX5_init 153 = .ok (.putfield 67, 3) := by decide +kernel
theorem dX5_init_156 : decode cX5_init 156 = .ok (.aload_n 0, 1) := by decide +kernel
theorem dX5_init_157 : decode cX5_init 157 = .ok (.sipush 900, 3) := by decide +kernel
theorem dX5_init_160 : decode cX5_init 160 = .ok (.newarray .boolean, 2) := by decide +kernel
theorem dX5_init_162 : decode cX5_init 162 = .ok (.putfield 70, 3) := by decide +kernel
theorem dX5_init_165 : decode cX5_init 165 = .ok (.aload_n 0, 1) := by decide +kernel
theorem dX5_init_166 : decode cX5_init 166 = .ok (.sipush 3604, 3) := by decide +kernel
theorem dX5_init_169 : decode cX5_init 169 = .ok (.newarray .long, 2) := by decide +kernel
theorem dX5_init_171 : decode cX5_init 171 = .ok (.putfield 73, 3) := by decide +kernel
theorem dX5_init_174 : decode cX5_init 174 = .ok (.aload_n 0, 1) := by decide +kernel
theorem dX5_init_175 : decode cX5_init 175 = .ok (.sipush 3604, 3) := by decide +kernel
theorem dX5_init_178 : decode cX5_init 178 = .ok (.newarray .int, 2) := by decide +kernel
theorem dX5_init_180 : decode cX5_init 180 = .ok (.putfield 77, 3) := by decide +kernel
theorem dX5_init_183 : decode cX5_init 183 = .ok (.aload_n 0, 1) := by decide +kernel
theorem dX5_init_184 : decode cX5_init 184 = .ok (.sipush 3604, 3) := by decide +kernel
theorem dX5_init_187 : decode cX5_init 187 = .ok (.newarray .int, 2) := by decide +kernel
theorem dX5_init_189 : decode cX5_init 189 = .ok (.putfield 80, 3) := by decide +kernel
theorem dX5_init_192 : decode cX5_init 192 = .ok (.aload_n 0, 1) := by decide +kernel
theorem dX5_init_193 : decode cX5_init 193 = .ok (.iconst 1, 1) := by decide +kernel
theorem dX5_init_194 : decode cX5_init 194 = .ok (.putfield 83, 3) := by decide +kernel
theorem dX5_init_197 : decode cX5_init 197 = .ok (.aload_n 0, 1) := by decide +kernel
theorem dX5_init_198 : decode cX5_init 198 = .ok (.sipush 900, 3) := by decide +kernel
theorem dX5_init_201 : decode cX5_init 201 = .ok (.newarray .int, 2) := by decide +kernel
theorem dX5_init_203 : decode cX5_init 203 = .ok (.putfield 86, 3) := by decide +kernel
theorem dX5_init_206 : decode cX5_init 206 = .ok (.aload_n 0, 1) := by decide +kernel
theorem dX5_init_207 : decode cX5_init 207 = .ok (.sipush 900, 3) := by decide +kernel
theorem dX5_init_210 : decode cX5_init 210 = .ok (.newarray .int, 2) := by decide +kernel
theorem dX5_init_212 : decode cX5_init 212 = .ok (.putfield 89, 3) := by decide +kernel
theorem dX5_init_215 : decode cX5_init 215 = .ok (.aload_n 0, 1) := by decide +kernel
theorem dX5_init_216 : decode cX5_init 216 = .ok (.sipush 901, 3) := by decide +kernel
theorem dX5_init_219 : decode cX5_init 219 = .ok (.newarray .int, 2) := by decide +kernel
theorem dX5_init_221 : decode cX5_init 221 = .ok (.putfield 92, 3) := by decide +kernel
theorem dX5_init_224 : decode cX5_init 224 = .ok (.aload_n 0, 1) := by decide +kernel
theorem dX5_init_225 : decode cX5_init 225 = .ok (.sipush 900, 3) := by decide +kernel
theorem dX5_init_228 : decode cX5_init 228 = .ok (.newarray .int, 2) := by decide +kernel
theorem dX5_init_230 : decode cX5_init 230 = .ok (.putfield 95, 3) := by decide +kernel
theorem dX5_init_233 : decode cX5_init 233 = .ok (.aload_n 0, 1) := by decide +kernel
theorem dX5_init_234 : decode cX5_init 234 = .ok (.sipush 900, 3) := by decide +kernel
theorem dX5_init_237 : decode cX5_init 237 = .ok (.newarray .int, 2) := by decide +kernel
theorem dX5_init_239 : decode cX5_init 239 = .ok (.putfield 98, 3) := by decide +kernel
theorem dX5_init_242 : decode cX5_init 242 = .ok (.aload_n 0, 1) := by decide +kernel
theorem dX5_init_243 : decode cX5_init 243 = .ok (.sipush 900, 3) := by decide +kernel
theorem dX5_init_246 : decode cX5_init 246 = .ok (.newarray .int, 2) := by decide +kernel
theorem dX5_init_248 : decode cX5_init 248 = .ok (.putfield 101, 3) := by decide +kernel
theorem dX5_init_251 : decode cX5_init 251 = .ok (.aload_n 0, 1) := by decide +kernel
theorem dX5_init_252 : decode cX5_init 252 = .ok (.sipush 901, 3) := by decide +kernel
theorem dX5_init_255 : decode cX5_init 255 = .ok (.newarray .int, 2) := by decide +kernel
theorem dX5_init_257 : decode cX5_init 257 = .ok (.putfield 104, 3) := by decide +kernel
theorem dX5_init_260 : decode cX5_init 260 = .ok (.aload_n 0, 1) := by decide +kernel
theorem dX5_init_261 : decode cX5_init 261 = .ok (.iconst 1, 1) := by decide +kernel
theorem dX5_init_262 : decode cX5_init 262 = .ok (.putfield 107, 3) := by decide +kernel
theorem dX5_init_265 : decode cX5_init 265 = .ok (.aload_n 0, 1) := by decide +kernel
theorem dX5_init_266 : decode cX5_init 266 = .ok (.bipush 26, 2) := by decide +kernel
theorem dX5_init_268 : decode cX5_init 268 = .ok (.newarray .int, 2) := by decide +kernel
theorem dX5_init_270 : decode cX5_init 270 = .ok (.putfield 110, 3) := by decide +kernel
theorem dX5_init_273 : decode cX5_init 273 = .ok (.aload_n 0, 1) := by decide +kernel
theorem dX5_init_274 : decode cX5_init 274 = .ok (.bipush 26, 2) := by decide +kernel
theorem dX5_init_276 : decode cX5_init 276 = .ok (.newarray .boolean, 2) := by decide +kernel
theorem dX5_init_278 : decode cX5_init 278 = .ok (.putfield 113, 3) := by decide +kernel
theorem dX5_init_281 : decode cX5_init 281 = .ok (.return_, 1) := by decide +kernel
theorem dX5_thrown_0 : decode cX5_thrown 0 = .ok (.aload_n 0, 1) := by decide +kernel
theorem dX5_thrown_1 : decode cX5_thrown 1 = .ok (.getfield 116, 3) := by decide +kernel
theorem dX5_thrown_4 : decode cX5_thrown 4 = .ok (.ireturn, 1) := by decide +kernel
theorem dX5_bad_0 : decode cX5_bad 0 = .ok (.iload_n 1, 1) := by decide +kernel
theorem dX5_bad_1 : decode cX5_bad 1 = .ok (.ifCond .eq 8, 3) := by decide +kernel
theorem dX5_bad_4 : decode cX5_bad 4 = .ok (.aload_n 0, 1) := by decide +kernel
theorem dX5_bad_5 : decode cX5_bad 5 = .ok (.iload_n 2, 1) := by decide +kernel
theorem dX5_bad_6 : decode cX5_bad 6 = .ok (.putfield 116, 3) := by decide +kernel
theorem dX5_bad_9 : decode cX5_bad 9 = .ok (.iload_n 1, 1) := by decide +kernel
theorem dX5_bad_10 : decode cX5_bad 10 = .ok (.ireturn, 1) := by decide +kernel
set_option maxRecDepth 20000 in
theorem ggX5_set_X5_bad : GoodIn wsX5_set wsX5_bad := goodIn_r _ [11, 1, 12, 13, 14, 15, 16, 17, 18, 19, 20, 21, 22, 23, 24, 25, 26, 27, 28, 29, 30, 31, 32, 33, 34, 35, 36, 37, 38, 39, 40, 41, 42, 43, 44, 45, 46, 47, 48, 49, 50, 51, 52, 53, 54, 55, 56, 57] (by decide +kernel) (by decide +kernel)
set_option maxRecDepth 20000 in
theorem gX5_set_X5_bad : GoodIn wsX5_set (wsV RX5 119 RX5 yX5_bad wsX5_bad) := goodIn_app (goodIn_of _ (by decide +kernel)) ggX5_set_X5_bad
theorem dX5_set_0 : decode cX5_set 0 = .ok (.aload_n 0, 1) := by decide +kernel
theorem dX5_set_1 : decode cX5_set 1 = .ok (.iconst 0, 1) := by decide +kernel
theorem dX5_set_2 : decode cX5_set 2 = .ok (.putfield 116, 3) := by decide +kernel
theorem dX5_set_5 : decode cX5_set 5 = .ok (.iload_n 1, 1) := by decide +kernel
theorem dX5_set_6 : decode cX5_set 6 = .ok (.ifCond .ne 7, 3) := by decide +kernel
theorem dX5_set_9 : decode cX5_set 9 = .ok (.iconst 4, 1) := by decide +kernel
theorem dX5_set_10 : decode cX5_set 10 = .ok (.goto 13, 3) := by decide +kernel
theorem dX5_set_13 : decode cX5_set 13 = .ok (.iload_n 1, 1) := by decide +kernel
theorem dX5_set_14 : decode cX5_set 14 = .ok (.iconst 1, 1) := by decide +kernel
theorem dX5_set_15 : decode cX5_set 15 = .ok (.if_icmp .ne 7, 3) := by decide +kernel
theorem dX5_set_18 : decode cX5_set 18 = .ok (.iconst 1, 1) := by decide +kernel
theorem dX5_set_19 : decode cX5_set 19 = .ok (.goto 4, 3) := by decide +kernel
theorem dX5_set_22 : decode cX5_set 22 = .ok (.iconst 0, 1) := by decide +kernel
theorem dX5_set_23 : decode cX5_set 23 = .ok (.istore_n 3, 1) := by decide +kernel
theorem dX5_set_24 : decode cX5_set 24 = .ok (.iload_n 1, 1) := by decide +kernel
theorem dX5_set_25 : decode cX5_set 25 = .ok (.ifCond .ne 8, 3) := by decide +kernel
theorem dX5_set_28 : decode cX5_set 28 = .ok (.bipush 60, 2) := by decide +kernel
theorem dX5_set_30 : decode cX5_set 30 = .ok (.goto 24, 3) := by decide +kernel
theorem dX5_set_33 : decode cX5_set 33 = .ok (.iload_n 1, 1) := by decide +kernel
theorem dX5_set_34 : decode cX5_set 34 = .ok (.iconst 1, 1) := by decide +kernel
theorem dX5_set_35 : decode cX5_set 35 = .ok (.if_icmp .ne 7, 3) := by decide +kernel
theorem dX5_set_38 : decode cX5_set 38 = .ok (.iconst 4, 1) := by decide +kernel
theorem dX5_set_39 : decode cX5_set 39 = .ok (.goto 15, 3) := by decide +kernel
theorem dX5_set_42 : decode cX5_set 42 = .ok (.iload_n 1, 1) := by decide +kernel
theorem dX5_set_43 : decode cX5_set 43 = .ok (.iconst 2, 1) := by decide +kernel
theorem dX5_set_44 : decode cX5_set 44 = .ok (.if_icmp .ne 7, 3) := by decide +kernel
theorem dX5_set_47 : decode cX5_set 47 = .ok (.iconst 3, 1) := by decide +kernel
theorem dX5_set_48 : decode cX5_set 48 = .ok (.goto 6, 3) := by decide +kernel
theorem dX5_set_51 : decode cX5_set 51 = .ok (.sipush 1000, 3) := by decide +kernel
theorem dX5_set_54 : decode cX5_set 54 = .ok (.istore 4, 2) := by decide +kernel
theorem dX5_set_56 : decode cX5_set 56 = .ok (.aload_n 0, 1) := by decide +kernel
theorem dX5_set_57 : decode cX5_set 57 = .ok (.iload_n 1, 1) := by decide +kernel
theorem dX5_set_58 : decode cX5_set 58 = .ok (.ifCond .lt 19, 3) := by decide +kernel
theorem dX5_set_61 : decode cX5_set 61 = .ok (.iload_n 1, 1) := by decide +kernel
theorem dX5_set_62 : decode cX5_set 62 = .ok (.iconst 4, 1) := by decide +kernel
theorem dX5_set_63 : decode cX5_set 63 = .ok (.if_icmp .gt 14, 3) := by decide +kernel
theorem dX5_set_66 : decode cX5_set 66 = .ok (.iload_n 2, 1) := by decide +kernel
theorem dX5_set_67 : decode cX5_set 67 = .ok (.iload_n 3, 1) := by decide +kernel
theorem dX5_set_68 : decode cX5_set 68 = .ok (.if_icmp .lt 9, 3) := by decide +kernel
theorem dX5_set_71 : decode cX5_set 71 = .ok (.iload_n 2, 1) := by decide +kernel
theorem dX5_set_72 : decode cX5_set 72 = .ok (.iload 4, 2) := by decide +kernel
theorem dX5_set_74 : decode cX5_set 74 = .ok (.if_icmp .le 7, 3) := by decide +kernel
theorem dX5_set_77 : decode cX5_set 77 = .ok (.iconst 1, 1) := by decide +kernel
theorem dX5_set_78 : decode cX5_set 78 = .ok (.goto 4, 3) := by decide +kernel
theorem dX5_set_81 : decode cX5_set 81 = .ok (.iconst 0, 1) := by decide +kernel
theorem dX5_set_82 : decode cX5_set 82 = .ok (.iconst 1, 1) := by decide +kernel
theorem dX5_set_83 : decode cX5_set 83 = .ok (.invokevirtual 119, 3) := by decide +kernel
theorem dX5_set_86 : decode cX5_set 86 = .ok (.ifCond .eq 5, 3) := by decide +kernel
theorem dX5_set_89 : decode cX5_set 89 = .ok (.iconst 0, 1) := by decide +kernel
theorem dX5_set_90 : decode cX5_set 90 = .ok (.ireturn, 1) := by decide +kernel
theorem dX5_set_91 : decode cX5_set 91 = .ok (.iload_n 1, 1) := by decide +kernel
theorem dX5_set_92 : decode cX5_set 92 = .ok (.ifCond .ne 10, 3) := by decide +kernel
theorem dX5_set_95 : decode cX5_set 95 = .ok (.aload_n 0, 1) := by decide +kernel
theorem dX5_set_96 : decode cX5_set 96 = .ok (.getfield 7, 3) := by decide +kernel
theorem dX5_set_99 : decode cX5_set 99 = .ok (.goto 43, 3) := by decide +kernel
theorem dX5_set_102 : decode cX5_set 102 = .ok (.iload_n 1, 1) := by decide +kernel
theorem dX5_set_103 : decode cX5_set 103 = .ok (.iconst 1, 1) := by decide +kernel
theorem dX5_set_104 : decode cX5_set 104 = .ok (.if_icmp .ne 10, 3) := by decide +kernel
theorem dX5_set_107 : decode cX5_set 107 = .ok (.aload_n 0, 1) := by decide +kernel
theorem dX5_set_108 : decode cX5_set 108 = .ok (.getfield 13, 3) := by decide +kernel
theorem dX5_set_111 : decode cX5_set 111 = .ok (.goto 31, 3) := by decide +kernel
theorem dX5_set_114 : decode cX5_set 114 = .ok (.iload_n 1, 1) := by decide +kernel
theorem dX5_set_115 : decode cX5_set 115 = .ok (.iconst 2, 1) := by decide +kernel
theorem dX5_set_116 : decode cX5_set 116 = .ok (.if_icmp .ne 10, 3) := by decide +kernel
theorem dX5_set_119 : decode cX5_set 119 = .ok (.aload_n 0, 1) := by decide +kernel
theorem dX5_set_120 : decode cX5_set 120 = .ok (.getfield 16, 3) := by decide +kernel
theorem dX5_set_123 : decode cX5_set 123 = .ok (.goto 19, 3) := by decide +kernel
theorem dX5_set_126 : decode cX5_set 126 = .ok (.iload_n 1, 1) := by decide +kernel
theorem dX5_set_127 : decode cX5_set 127 = .ok (.iconst 3, 1) := by decide +kernel
theorem dX5_set_128 : decode cX5_set 128 = .ok (.if_icmp .ne 10, 3) := by decide +kernel
theorem dX5_set_131 : decode cX5_set 131 = .ok (.aload_n 0, 1) := by decide +kernel
theorem dX5_set_132 : decode cX5_set 132 = .ok (.getfield 19, 3) := by decide +kernel
theorem dX5_set_135 : decode cX5_set 135 = .ok (.goto 7, 3) := by decide +kernel
theorem dX5_set_138 : decode cX5_set 138 = .ok (.aload_n 0, 1) := by decide +kernel
theorem dX5_set_139 : decode cX5_set 139 = .ok (.getfield 22, 3) := by decide +kernel
theorem dX5_set_142 : decode cX5_set 142 = .ok (.istore 5, 2) := by decide +kernel
theorem dX5_set_144 : decode cX5_set 144 = .ok (.iload_n 1, 1) := by decide +kernel
theorem dX5_set_145 : decode cX5_set 145 = .ok (.ifCond .ne 11, 3) := by decide +kernel
theorem dX5_set_148 : decode cX5_set 148 = .ok (.aload_n 0, 1) := by decide +kernel
theorem dX5_set_149 : decode cX5_set 149 = .ok (.iload_n 2, 1) := by decide +kernel
theorem dX5_set_150 : decode cX5_set 150 = .ok (.putfield 7, 3) := by decide +kernel
theorem dX5_set_153 : decode cX5_set 153 = .ok (.goto 47, 3) := by decide +kernel
theorem dX5_set_156 : decode cX5_set 156 = .ok (.iload_n 1, 1) := by decide +kernel
theorem dX5_set_157 : decode cX5_set 157 = .ok (.iconst 1, 1) := by decide +kernel
theorem dX5_set_158 : decode cX5_set 158 = .ok (.if_icmp .ne 11, 3) := by decide +kernel
theorem dX5_set_161 : decode cX5_set 161 = .ok (.aload_n 0, 1) := by decide +kernel
theorem dX5_set_162 : decode cX5_set 162 = .ok (.iload_n 2, 1) := by decide +kernel
theorem dX5_set_163 : decode cX5_set 163 = .ok (.putfield 13, 3) := by decide +kernel
theorem dX5_set_166 : decode cX5_set 166 = .ok (.goto 34, 3) := by decide +kernel
theorem dX5_set_169 : decode cX5_set 169 = .ok (.iload_n 1, 1) := by decide +kernel
theorem dX5_set_170 : decode cX5_set 170 = .ok (.iconst 2, 1) := by decide +kernel
theorem dX5_set_171 : decode cX5_set 171 = .ok (.if_icmp .ne 11, 3) := by decide +kernel
theorem dX5_set_174 : decode cX5_set 174 = .ok (.aload_n 0, 1) := by decide +kernel
theorem dX5_set_175 : decode cX5_set 175 = .ok (.iload_n 2, 1) := by decide +kernel
theorem dX5_set_176 : decode cX5_set 176 = .ok (.putfield 16, 3) := by decide +kernel
theorem dX5_set_179 : decode cX5_set 179 = .ok (.goto 21, 3) := by decide +kernel
theorem dX5_set_182 : decode cX5_set 182 = .ok (.iload_n 1, 1) := by decide +kernel
theorem dX5_set_183 : decode cX5_set 183 = .ok (.iconst 3, 1) := by decide +kernel
theorem dX5_set_184 : decode cX5_set 184 = .ok (.if_icmp .ne 11, 3) := by decide +kernel
theorem dX5_set_187 : decode cX5_set 187 = .ok (.aload_n 0, 1) := by decide +kernel
theorem dX5_set_188 : decode cX5_set 188 = .ok (.iload_n 2, 1) := by decide +kernel
theorem dX5_set_189 : decode cX5_set 189 = .ok (.putfield 19, 3) := by decide +kernel
theorem dX5_set_192 : decode cX5_set 192 = .ok (.goto 8, 3) := by decide +kernel
theorem dX5_set_195 : decode cX5_set 195 = .ok (.aload_n 0, 1) := by decide +kernel
theorem dX5_set_196 : decode cX5_set 196 = .ok (.iload_n 2, 1) := by decide +kernel
theorem dX5_set_197 : decode cX5_set 197 = .ok (.putfield 22, 3) := by decide +kernel
theorem dX5_set_200 : decode cX5_set 200 = .ok (.iload 5, 2) := by decide +kernel
theorem dX5_set_202 : decode cX5_set 202 = .ok (.ireturn, 1) := by decide +kernel
set_option maxRecDepth 20000 in
theorem ggX5_push_X5_bad : GoodIn wsX5_push wsX5_bad := goodIn_r _ [8, 1, 9, 10, 11, 12, 13, 14, 15, 16, 17, 18, 19, 20, 21, 22, 23, 24, 25, 26, 27, 28, 29, 30, 31, 32, 33, 34, 35, 36, 37, 38, 39, 40, 41, 42, 43, 44, 45, 46, 47, 48, 49, 50, 51, 52, 53, 54] (by decide +kernel) (by decide +kernel)
set_option maxRecDepth 20000 in
theorem gX5_push_X5_bad : GoodIn wsX5_push (wsV RX5 119 RX5 yX5_bad wsX5_bad) := goodIn_app (goodIn_of _ (by decide +kernel)) ggX5_push_X5_bad
theorem dX5_push_0 : decode cX5_push 0 = .ok (.aload_n 0, 1) := by decide +kernel
theorem dX5_push_1 : decode cX5_push 1 = .ok (.iconst 0, 1) := by decide +kernel
theorem dX5_push_2 : decode cX5_push 2 = .ok (.putfield 116, 3) := by decide +kernel
theorem dX5_push_5 : decode cX5_push 5 = .ok (.aload_n 0, 1) := by decide +kernel
theorem dX5_push_6 : decode cX5_push 6 = .ok (.iload_n 1, 1) := by decide +kernel
theorem dX5_push_7 : decode cX5_push 7 = .ok (.iconst 1, 1) := by decide +kernel
theorem dX5_push_8 : decode cX5_push 8 = .ok (.if_icmp .lt 9, 3) := by decide +kernel
theorem dX5_push_11 : decode cX5_push 11 = .ok (.iload_n 1, 1) := by decide +kernel
theorem dX5_push_12 : decode cX5_push 12 = .ok (.bipush 20, 2) := by decide +kernel
theorem dX5_push_14 : decode cX5_push 14 = .ok (.if_icmp .le 7, 3) := by decide +kernel
theorem dX5_push_17 : decode cX5_push 17 = .ok (.iconst 1, 1) := by decide +kernel
theorem dX5_push_18 : decode cX5_push 18 = .ok (.goto 4, 3) := by decide +kernel
theorem dX5_push_21 : decode cX5_push 21 = .ok (.iconst 0, 1) := by decide +kernel
theorem dX5_push_22 : decode cX5_push 22 = .ok (.iconst 1, 1) := by decide +kernel
theorem dX5_push_23 : decode cX5_push 23 = .ok (.invokevirtual 119, 3) := by decide +kernel
theorem dX5_push_26 : decode cX5_push 26 = .ok (.ifCond .eq 5, 3) := by decide +kernel
theorem dX5_push_29 : decode cX5_push 29 = .ok (.iconst 0, 1) := by decide +kernel
theorem dX5_push_30 : decode cX5_push 30 = .ok (.ireturn, 1) := by decide +kernel
theorem dX5_push_31 : decode cX5_push 31 = .ok (.aload_n 0, 1) := by decide +kernel
theorem dX5_push_32 : decode cX5_push 32 = .ok (.getfield 123, 3) := by decide +kernel
theorem dX5_push_35 : decode cX5_push 35 = .ok (.bipush 6, 2) := by decide +kernel
theorem dX5_push_37 : decode cX5_push 37 = .ok (.if_icmp .ne 5, 3) := by decide +kernel
theorem dX5_push_40 : decode cX5_push 40 = .ok (.iconst (-1), 1) := by decide +kernel
theorem dX5_push_41 : decode cX5_push 41 = .ok (.ireturn, 1) := by decide +kernel
theorem dX5_push_42 : decode cX5_push 42 = .ok (.aload_n 0, 1) := by decide +kernel
theorem dX5_push_43 : decode cX5_push 43 = .ok (.getfield 25, 3) := by decide +kernel
theorem dX5_push_46 : decode cX5_push 46 = .ok (.aload_n 0, 1) := by decide +kernel
theorem dX5_push_47 : decode cX5_push 47 = .ok (.getfield 123, 3) := by decide +kernel
theorem dX5_push_50 : decode cX5_push 50 = .ok (.iload_n 1, 1) := by decide +kernel
theorem dX5_push_51 : decode cX5_push 51 = .ok (.iastore, 1) := by decide +kernel
theorem dX5_push_52 : decode cX5_push 52 = .ok (.aload_n 0, 1) := by decide +kernel
theorem dX5_push_53 : decode cX5_push 53 = .ok (.dup, 1) := by decide +kernel
theorem dX5_push_54 : decode cX5_push 54 = .ok (.getfield 123, 3) := by decide +kernel
theorem dX5_push_57 : decode cX5_push 57 = .ok (.iconst 1, 1) := by decide +kernel
theorem dX5_push_58 : decode cX5_push 58 = .ok (.iadd, 1) := by decide +kernel
theorem dX5_push_59 : decode cX5_push 59 = .ok (.putfield 123, 3) := by decide +kernel
theorem dX5_push_62 : decode cX5_push 62 = .ok (.aload_n 0, 1) := by decide +kernel
theorem dX5_push_63 : decode cX5_push 63 = .ok (.getfield 123, 3) := by decide +kernel
theorem dX5_push_66 : decode cX5_push 66 = .ok (.ireturn, 1) := by decide +kernel
theorem dX5_feed_0 : decode cX5_feed 0 = .ok (.aload_n 0, 1) := by decide +kernel
theorem dX5_feed_1 : decode cX5_feed 1 = .ok (.iconst 0, 1) := by decide +kernel
theorem dX5_feed_2 : decode cX5_feed 2 = .ok (.putfield 116, 3) := by decide +kernel
theorem dX5_feed_5 : decode cX5_feed 5 = .ok (.aload_n 0, 1) := by decide +kernel
theorem dX5_feed_6 : decode cX5_feed 6 = .ok (.getfield 126, 3) := by decide +kernel
theorem dX5_feed_9 : decode cX5_feed 9 = .ok (.bipush 20, 2) := by decide +kernel
theorem dX5_feed_11 : decode cX5_feed 11 = .ok (.iadd, 1) := by decide +kernel
theorem dX5_feed_12 : decode cX5_feed 12 = .ok (.bipush 60, 2) := by decide +kernel
theorem dX5_feed_14 : decode cX5_feed 14 = .ok (.if_icmp .le 5, 3) := by decide +kernel
theorem dX5_feed_17 : decode cX5_feed 17 = .ok (.iconst (-1), 1) := by decide +kernel
theorem dX5_feed_18 : decode cX5_feed 18 = .ok (.ireturn, 1) := by decide +kernel
theorem dX5_feed_19 : decode cX5_feed 19 = .ok (.iconst 0, 1) := by decide +kernel
theorem dX5_feed_20 : decode cX5_feed 20 = .ok (.istore 6, 2) := by decide +kernel
theorem dX5_feed_22 : decode cX5_feed 22 = .ok (.iload 6, 2) := by decide +kernel
theorem dX5_feed_24 : decode cX5_feed 24 = .ok (.iconst 5, 1) := by decide +kernel
theorem dX5_feed_25 : decode cX5_feed 25 = .ok (.if_icmp .ge 93, 3) := by decide +kernel
theorem dX5_feed_28 : decode cX5_feed 28 = .ok (.iload 6, 2) := by decide +kernel
theorem dX5_feed_30 : decode cX5_feed 30 = .ok (.ifCond .ne 7, 3) := by decide +kernel
theorem dX5_feed_33 : decode cX5_feed 33 = .ok (.iload_n 1, 1) := by decide +kernel
theorem dX5_feed_34 : decode cX5_feed 34 = .ok (.goto 36, 3) := by decide +kernel
theorem dX5_feed_37 : decode cX5_feed 37 = .ok (.iload 6, 2) := by decide +kernel
theorem dX5_feed_39 : decode cX5_feed 39 = .ok (.iconst 1, 1) := by decide +kernel
theorem dX5_feed_40 : decode cX5_feed 40 = .ok (.if_icmp .ne 7, 3) := by decide +kernel
theorem dX5_feed_43 : decode cX5_feed 43 = .ok (.iload_n 2, 1) := by decide +kernel
theorem dX5_feed_44 : decode cX5_feed 44 = .ok (.goto 26, 3) := by decide +kernel
theorem dX5_feed_47 : decode cX5_feed 47 = .ok (.iload 6, 2) := by decide +kernel
theorem dX5_feed_49 : decode cX5_feed 49 = .ok (.iconst 2, 1) := by decide +kernel
theorem dX5_feed_50 : decode cX5_feed 50 = .ok (.if_icmp .ne 7, 3) := by decide +kernel
theorem dX5_feed_53 : decode cX5_feed 53 = .ok (.iload_n 3, 1) := by decide +kernel
theorem dX5_feed_54 : decode cX5_feed 54 = .ok (.goto 16, 3) := by decide +kernel
theorem dX5_feed_57 : decode cX5_feed 57 = .ok (.iload 6, 2) := by decide +kernel
theorem dX5_feed_59 : decode cX5_feed 59 = .ok (.iconst 3, 1) := by decide +kernel
theorem dX5_feed_60 : decode cX5_feed 60 = .ok (.if_icmp .ne 8, 3) := by decide +kernel
theorem dX5_feed_63 : decode cX5_feed 63 = .ok (.iload 4, 2) := by decide +kernel
theorem dX5_feed_65 : decode cX5_feed 65 = .ok (.goto 5, 3) := by decide +kernel
theorem dX5_feed_68 : decode cX5_feed 68 = .ok (.iload 5, 2) := by decide +kernel
theorem dX5_feed_70 : decode cX5_feed 70 = .ok (.istore 7, 2) := by decide +kernel
theorem dX5_feed_72 : decode cX5_feed 72 = .ok (.bipush 24, 2) := by decide +kernel
theorem dX5_feed_74 : decode cX5_feed 74 = .ok (.istore 8, 2) := by decide +kernel
theorem dX5_feed_76 : decode cX5_feed 76 = .ok (.iload 8, 2) := by decide +kernel
theorem dX5_feed_78 : decode cX5_feed 78 = .ok (.ifCond .lt 34, 3) := by decide +kernel
theorem dX5_feed_81 : decode cX5_feed 81 = .ok (.aload_n 0, 1) := by decide +kernel
theorem dX5_feed_82 : decode cX5_feed 82 = .ok (.getfield 29, 3) := by decide +kernel
theorem dX5_feed_85 : decode cX5_feed 85 = .ok (.aload_n 0, 1) := by decide +kernel
theorem dX5_feed_86 : decode cX5_feed 86 = .ok (.getfield 126, 3) := by decide +kernel
theorem dX5_feed_89 : decode cX5_feed 89 = .ok (.iload 7, 2) := by decide +kernel
theorem dX5_feed_91 : decode cX5_feed 91 = .ok (.iload 8, 2) := by decide +kernel
theorem dX5_feed_93 : decode cX5_feed 93 = .ok (.ishr, 1) := by decide +kernel
theorem dX5_feed_94 : decode cX5_feed 94 = .ok (.i2b, 1) := by decide +kernel
theorem dX5_feed_95 : decode cX5_feed 95 = .ok (.bastore, 1) := by decide +kernel
theorem dX5_feed_96 : decode cX5_feed 96 = .ok (.aload_n 0, 1) := by decide +kernel
theorem dX5_feed_97 : decode cX5_feed 97 = .ok (.dup, 1) := by decide +kernel
theorem dX5_feed_98 : decode cX5_feed 98 = .ok (.getfield 126, 3) := by decide +kernel
theorem dX5_feed_101 : decode cX5_feed 101 = .ok (.iconst 1, 1) := by decide +kernel
theorem dX5_feed_102 : decode cX5_feed 102 = .ok (.iadd, 1) := by decide +kernel
theorem dX5_feed_103 : decode cX5_feed 103 = .ok (.putfield 126, 3) := by decide +kernel
theorem dX5_feed_106 : decode cX5_feed 106 = .ok (.iinc 8 (-8), 3) := by decide +kernel
theorem dX5_feed_109 : decode cX5_feed 109 = .ok (.goto (-33), 3) := by decide +kernel
theorem dX5_feed_112 : decode cX5_feed 112 = .ok (.iinc 6 1, 3) := by decide +kernel
theorem dX5_feed_115 : decode cX5_feed 115 = .ok (.goto (-93), 3) := by decide +kernel
theorem dX5_feed_118 : decode cX5_feed 118 = .ok (.aload_n 0, 1) := by decide +kernel
theorem dX5_feed_119 : decode cX5_feed 119 = .ok (.getfield 126, 3) := by decide +kernel
theorem dX5_feed_122 : decode cX5_feed 122 = .ok (.ireturn, 1) := by decide +kernel
theorem dX5_isHead_0 : decode cX5_isHead 0 = .ok (.iload_n 2, 1) := by decide +kernel
theorem dX5_isHead_1 : decode cX5_isHead 1 = .ok (.iconst 1, 1) := by decide +kernel
theorem dX5_isHead_2 : decode cX5_isHead 2 = .ok (.if_icmp .lt 13, 3) := by decide +kernel
theorem dX5_isHead_5 : decode cX5_isHead 5 = .ok (.iload_n 2, 1) := by decide +kernel
theorem dX5_isHead_6 : decode cX5_isHead 6 = .ok (.bipush 12, 2) := by decide +kernel
theorem dX5_isHead_8 : decode cX5_isHead 8 = .ok (.if_icmp .gt 7, 3) := by decide +kernel
theorem dX5_isHead_11 : decode cX5_isHead 11 = .ok (.iconst 1, 1) := by decide +kernel
theorem dX5_isHead_12 : decode cX5_isHead 12 = .ok (.goto 4, 3) := by decide +kernel
theorem dX5_isHead_15 : decode cX5_isHead 15 = .ok (.iconst 0, 1) := by decide +kernel
theorem dX5_isHead_16 : decode cX5_isHead 16 = .ok (.istore_n 3, 1) := by decide +kernel
theorem dX5_isHead_17 : decode cX5_isHead 17 = .ok (.iconst 0, 1) := by decide +kernel
theorem dX5_isHead_18 : decode cX5_isHead 18 = .ok (.istore 4, 2) := by decide +kernel
theorem dX5_isHead_20 : decode cX5_isHead 20 = .ok (.iload 4, 2) := by decide +kernel
theorem dX5_isHead_22 : decode cX5_isHead 22 = .ok (.iload_n 2, 1) := by decide +kernel
theorem dX5_isHead_23 : decode cX5_isHead 23 = .ok (.if_icmp .ge 47, 3) := by decide +kernel
theorem dX5_isHead_26 : decode cX5_isHead 26 = .ok (.iload_n 3, 1) := by decide +kernel
theorem dX5_isHead_27 : decode cX5_isHead 27 = .ok (.ifCond .eq 43, 3) := by decide +kernel
theorem dX5_isHead_30 : decode cX5_isHead 30 = .ok (.aload_n 0, 1) := by decide +kernel
theorem dX5_isHead_31 : decode cX5_isHead 31 = .ok (.getfield 29, 3) := by decide +kernel
theorem dX5_isHead_34 : decode cX5_isHead 34 = .ok (.iload_n 1, 1) := by decide +kernel
theorem dX5_isHead_35 : decode cX5_isHead 35 = .ok (.iload 4, 2) := by decide +kernel
theorem dX5_isHead_37 : decode cX5_isHead 37 = .ok (.iadd, 1) := by decide +kernel
theorem dX5_isHead_38 : decode cX5_isHead 38 = .ok (.baload, 1) := by decide +kernel
theorem dX5_isHead_39 : decode cX5_isHead 39 = .ok (.bipush 97, 2) := by decide +kernel
theorem dX5_isHead_41 : decode cX5_isHead 41 = .ok (.if_icmp .lt 21, 3) := by decide +kernel
theorem dX5_isHead_44 : decode cX5_isHead 44 = .ok (.aload_n 0, 1) := by decide +kernel
theorem dX5_isHead_45 : decode cX5_isHead 45 = .ok (.getfield 29, 3) := by decide +kernel
theorem dX5_isHead_48 : decode cX5_isHead 48 = .ok (.iload_n 1, 1) := by decide +kernel
theorem dX5_isHead_49 : decode cX5_isHead 49 = .ok (.iload 4, 2) := by decide +kernel
theorem dX5_isHead_51 : decode cX5_isHead 51 = .ok (.iadd, 1) := by decide +kernel
theorem dX5_isHead_52 : decode cX5_isHead 52 = .ok (.baload, 1) := by decide +kernel
theorem dX5_isHead_53 : decode cX5_isHead 53 = .ok (.bipush 122, 2) := by decide +kernel
theorem dX5_isHead_55 : decode cX5_isHead 55 = .ok (.if_icmp .gt 7, 3) := by decide +kernel
theorem dX5_isHead_58 : decode cX5_isHead 58 = .ok (.iconst 1, 1) := by decide +kernel
theorem dX5_isHead_59 : decode cX5_isHead 59 = .ok (.goto 4, 3) := by decide +kernel
theorem dX5_isHead_62 : decode cX5_isHead 62 = .ok (.iconst 0, 1) := by decide +kernel
theorem dX5_isHead_63 : decode cX5_isHead 63 = .ok (.istore_n 3, 1) := by decide +kernel
theorem dX5_isHead_64 : decode cX5_isHead 64 = .ok (.iinc 4 1, 3) := by decide +kernel
theorem dX5_isHead_67 : decode cX5_isHead 67 = .ok (.goto (-47), 3) := by decide +kernel
theorem dX5_isHead_70 : decode cX5_isHead 70 = .ok (.iload_n 3, 1) := by decide +kernel
theorem dX5_isHead_71 : decode cX5_isHead 71 = .ok (.ireturn, 1) := by decide +kernel
theorem dX5_head_0 : decode cX5_head 0 = .ok (.iconst 0, 1) := by decide +kernel
theorem dX5_head_1 : decode cX5_head 1 = .ok (.istore 5, 2) := by decide +kernel
theorem dX5_head_3 : decode cX5_head 3 = .ok (.iload 5, 2) := by decide +kernel
theorem dX5_head_5 : decode cX5_head 5 = .ok (.bipush 12, 2) := by decide +kernel
theorem dX5_head_7 : decode cX5_head 7 = .ok (.if_icmp .ge 35, 3) := by decide +kernel
theorem dX5_head_10 : decode cX5_head 10 = .ok (.aload_n 1, 1) := by decide +kernel
theorem dX5_head_11 : decode cX5_head 11 = .ok (.iload_n 2, 1) := by decide +kernel
theorem dX5_head_12 : decode cX5_head 12 = .ok (.iload 5, 2) := by decide +kernel
theorem dX5_head_14 : decode cX5_head 14 = .ok (.iadd, 1) := by decide +kernel
theorem dX5_head_15 : decode cX5_head 15 = .ok (.iload 5, 2) := by decide +kernel
theorem dX5_head_17 : decode cX5_head 17 = .ok (.iload 4, 2) := by decide +kernel
theorem dX5_head_19 : decode cX5_head 19 = .ok (.if_icmp .ge 15, 3) := by decide +kernel
theorem dX5_head_22 : decode cX5_head 22 = .ok (.aload_n 0, 1) := by decide +kernel
theorem dX5_head_23 : decode cX5_head 23 = .ok (.getfield 29, 3) := by decide +kernel
theorem dX5_head_26 : decode cX5_head 26 = .ok (.iload_n 3, 1) := by decide +kernel
theorem dX5_head_27 : decode cX5_head 27 = .ok (.iload 5, 2) := by decide +kernel
theorem dX5_head_29 : decode cX5_head 29 = .ok (.iadd, 1) := by decide +kernel
theorem dX5_head_30 : decode cX5_head 30 = .ok (.baload, 1) := by decide +kernel
theorem dX5_head_31 : decode cX5_head 31 = .ok (.goto 4, 3) := by decide +kernel
theorem dX5_head_34 : decode cX5_head 34 = .ok (.iconst 0, 1) := by decide +kernel
theorem dX5_head_35 : decode cX5_head 35 = .ok (.iastore, 1) := by decide +kernel
theorem dX5_head_36 : decode cX5_head 36 = .ok (.iinc 5 1, 3) := by decide +kernel
theorem dX5_head_39 : decode cX5_head 39 = .ok (.goto (-36), 3) := by decide +kernel
theorem dX5_head_42 : decode cX5_head 42 = .ok (.return_, 1) := by decide +kernel
set_option maxRecDepth 20000 in
theorem ggX5_entry_X5_bad : GoodIn wsX5_entry wsX5_bad := goodIn_r _ [13, 1, 29, 30, 31, 32, 33, 34, 35, 36, 37, 38, 39, 40, 41, 42, 43, 44, 45, 46, 47, 48, 49, 50, 51, 52, 53, 54, 55, 56, 57, 58, 59, 60, 61, 62, 63, 64, 65, 66, 67, 68, 69, 70, 71, 72, 73, 74] (by decide +kernel) (by decide +kernel)
set_option maxRecDepth 20000 in
theorem gX5_entry_X5_bad : GoodIn wsX5_entry (wsV RX5 119 RX5 yX5_bad wsX5_bad) := goodIn_app (goodIn_of _ (by decide +kernel)) ggX5_entry_X5_bad
set_option maxRecDepth 20000 in
theorem ggX5_entry_X5_isHead : GoodIn wsX5_entry wsX5_isHead := goodIn_r _ [17, 18, 29, 30, 31, 32, 33, 34, 35, 36, 37, 38, 39, 40, 41, 42, 43, 44, 45, 46, 47, 48, 49, 50, 51, 52, 53, 54, 55, 56, 57, 58, 59, 60, 61, 62, 63, 64, 65, 66, 67, 68, 69, 70, 71, 72, 73, 74] (by decide +kernel) (by decide +kernel)
set_option maxRecDepth 20000 in
theorem gX5_entry_X5_isHead : GoodIn wsX5_entry (wsV RX5 129 RX5 yX5_isHead wsX5_isHead) := goodIn_app (goodIn_of _ (by decide +kernel)) ggX5_entry_X5_isHead
set_option maxRecDepth 20000 in
theorem ggX5_entry_X5_head : GoodIn wsX5_entry wsX5_head := goodIn_r _ [22, 18, 29, 30, 31, 32, 33, 34, 35, 36, 37, 38, 39, 40, 41, 42, 43, 44, 45, 46, 47, 48, 49, 50, 51, 52, 53, 54, 55, 56, 57, 58, 59, 60, 61, 62, 63, 64, 65, 66, 67, 68, 69, 70, 71, 72, 73, 74] (by decide +kernel) (by decide +kernel)
set_option maxRecDepth 20000 in
theorem gX5_entry_X5_head : GoodIn wsX5_entry (wsV RX5 136 RX5 yX5_head wsX5_head) := goodIn_app (goodIn_of _ (by decide +kernel)) ggX5_entry_X5_head
set_option maxRecDepth 20000 in
theorem ggX5_entry_X5_comes : GoodIn wsX5_entry wsX5_comes := goodIn_r _ [26, 27, 4, 28, 29, 30, 31, 32, 33, 34, 35, 36, 37, 38, 39, 40, 41, 42, 43, 44, 45, 46, 47, 48, 49, 50, 51, 52, 53, 54, 55, 56, 57, 58, 59, 60, 61, 62, 63, 64, 65, 66, 67, 68, 69, 70, 71, 72, 73, 74] (by decide +kernel) (by decide +kernel)
set_option maxRecDepth 20000 in
theorem gX5_entry_X5_comes : GoodIn wsX5_entry (wsV RX5 140 RX5 yX5_comes wsX5_comes) := goodIn_app (goodIn_of _ (by decide +kernel)) ggX5_entry_X5_comes
theorem dX5_entry_0 : decode cX5_entry 0 = .ok (.aload_n 0, 1) := by decide +kernel
theorem dX5_entry_1 : decode cX5_entry 1 = .ok (.iconst 0, 1) := by decide +kernel
theorem dX5_entry_2 : decode cX5_entry 2 = .ok (.putfield 116, 3) := by decide +kernel
theorem dX5_entry_5 : decode cX5_entry 5 = .ok (.aload_n 0, 1) := by decide +kernel
theorem dX5_entry_6 : decode cX5_entry 6 = .ok (.iload_n 1, 1) := by decide +kernel
theorem dX5_entry_7 : decode cX5_entry 7 = .ok (.ifCond .lt 11, 3) := by decide +kernel
theorem dX5_entry_10 : decode cX5_entry 10 = .ok (.iload_n 1, 1) := by decide +kernel
theorem dX5_entry_11 : decode cX5_entry 11 = .ok (.aload_n 0, 1) := by decide +kernel
theorem dX5_entry_12 : decode cX5_entry 12 = .ok (.getfield 126, 3) := by decide +kernel
theorem dX5_entry_15 : decode cX5_entry 15 = .ok (.if_icmp .le 7, 3) := by decide +kernel
theorem dX5_entry_18 : decode cX5_entry 18 = .ok (.iconst 1, 1) := by decide +kernel
theorem dX5_entry_19 : decode cX5_entry 19 = .ok (.goto 4, 3) := by decide +kernel
theorem dX5_entry_22 : decode cX5_entry 22 = .ok (.iconst 0, 1) := by decide +kernel
theorem dX5_entry_23 : decode cX5_entry 23 = .ok (.iconst 1, 1) := by decide +kernel
theorem dX5_entry_24 : decode cX5_entry 24 = .ok (.invokevirtual 119, 3) := by decide +kernel
theorem dX5_entry_27 : decode cX5_entry 27 = .ok (.ifCond .eq 5, 3) := by decide +kernel
theorem dX5_entry_30 : decode cX5_entry 30 = .ok (.iconst 0, 1) := by decide +kernel
theorem dX5_entry_31 : decode cX5_entry 31 = .ok (.ireturn, 1) := by decide +kernel
theorem dX5_entry_32 : decode cX5_entry 32 = .ok (.aload_n 0, 1) := by decide +kernel
theorem dX5_entry_33 : decode cX5_entry 33 = .ok (.getfield 123, 3) := by decide +kernel
theorem dX5_entry_36 : decode cX5_entry 36 = .ok (.istore_n 2, 1) := by decide +kernel
theorem dX5_entry_37 : decode cX5_entry 37 = .ok (.aload_n 0, 1) := by decide +kernel
theorem dX5_entry_38 : decode cX5_entry 38 = .ok (.iconst 0, 1) := by decide +kernel
theorem dX5_entry_39 : decode cX5_entry 39 = .ok (.putfield 126, 3) := by decide +kernel
theorem dX5_entry_42 : decode cX5_entry 42 = .ok (.aload_n 0, 1) := by decide +kernel
theorem dX5_entry_43 : decode cX5_entry 43 = .ok (.iconst 0, 1) := by decide +kernel
theorem dX5_entry_44 : decode cX5_entry 44 = .ok (.putfield 123, 3) := by decide +kernel
theorem dX5_entry_47 : decode cX5_entry 47 = .ok (.aload_n 0, 1) := by decide +kernel
theorem dX5_entry_48 : decode cX5_entry 48 = .ok (.iconst 0, 1) := by decide +kernel
theorem dX5_entry_49 : decode cX5_entry 49 = .ok (.iload_n 1, 1) := by decide +kernel
theorem dX5_entry_50 : decode cX5_entry 50 = .ok (.invokevirtual 129, 3) := by decide +kernel
theorem dX5_entry_53 : decode cX5_entry 53 = .ok (.ifCond .ne 5, 3) := by decide +kernel
theorem dX5_entry_56 : decode cX5_entry 56 = .ok (.iconst (-1), 1) := by decide +kernel
theorem dX5_entry_57 : decode cX5_entry 57 = .ok (.ireturn, 1) := by decide +kernel
theorem dX5_entry_58 : decode cX5_entry 58 = .ok (.iload_n 2, 1) := by decide +kernel
theorem dX5_entry_59 : decode cX5_entry 59 = .ok (.ifCond .ne 6, 3) := by decide +kernel
theorem dX5_entry_62 : decode cX5_entry 62 = .ok (.bipush (-2), 2) := by decide +kernel
theorem dX5_entry_64 : decode cX5_entry 64 = .ok (.ireturn, 1) := by decide +kernel
theorem dX5_entry_65 : decode cX5_entry 65 = .ok (.aload_n 0, 1) := by decide +kernel
theorem dX5_entry_66 : decode cX5_entry 66 = .ok (.getfield 133, 3) := by decide +kernel
theorem dX5_entry_69 : decode cX5_entry 69 = .ok (.sipush 150, 3) := by decide +kernel
theorem dX5_entry_72 : decode cX5_entry 72 = .ok (.if_icmp .ne 6, 3) := by decide +kernel
theorem dX5_entry_75 : decode cX5_entry 75 = .ok (.bipush (-3), 2) := by decide +kernel
theorem dX5_entry_77 : decode cX5_entry 77 = .ok (.ireturn, 1) := by decide +kernel
theorem dX5_entry_78 : decode cX5_entry 78 = .ok (.aload_n 0, 1) := by decide +kernel
theorem dX5_entry_79 : decode cX5_entry 79 = .ok (.aload_n 0, 1) := by decide +kernel
theorem dX5_entry_80 : decode cX5_entry 80 = .ok (.getfield 33, 3) := by decide +kernel
theorem dX5_entry_83 : decode cX5_entry 83 = .ok (.bipush 12, 2) := by decide +kernel
theorem dX5_entry_85 : decode cX5_entry 85 = .ok (.aload_n 0, 1) := by decide +kernel
theorem dX5_entry_86 : decode cX5_entry 86 = .ok (.getfield 133, 3) := by decide +kernel
theorem dX5_entry_89 : decode cX5_entry 89 = .ok (.imul, 1) := by decide +kernel
theorem dX5_entry_90 : decode cX5_entry 90 = .ok (.iconst 0, 1) := by decide +kernel
theorem dX5_entry_91 : decode cX5_entry 91 = .ok (.iload_n 1, 1) := by decide +kernel
theorem dX5_entry_92 : decode cX5_entry 92 = .ok (.invokevirtual 136, 3) := by decide +kernel
theorem dX5_entry_95 : decode cX5_entry 95 = .ok (.iconst 0, 1) := by decide +kernel
theorem dX5_entry_96 : decode cX5_entry 96 = .ok (.istore_n 3, 1) := by decide +kernel
theorem dX5_entry_97 : decode cX5_entry 97 = .ok (.iload_n 3, 1) := by decide +kernel
theorem dX5_entry_98 : decode cX5_entry 98 = .ok (.iload_n 2, 1) := by decide +kernel
theorem dX5_entry_99 : decode cX5_entry 99 = .ok (.if_icmp .ge 29, 3) := by decide +kernel
theorem dX5_entry_102 : decode cX5_entry 102 = .ok (.aload_n 0, 1) := by decide +kernel
theorem dX5_entry_103 : decode cX5_entry 103 = .ok (.getfield 39, 3) := by decide +kernel
theorem dX5_entry_106 : decode cX5_entry 106 = .ok (.bipush 6, 2) := by decide +kernel
theorem dX5_entry_108 : decode cX5_entry 108 = .ok (.aload_n 0, 1) := by decide +kernel
theorem dX5_entry_109 : decode cX5_entry 109 = .ok (.getfield 133, 3) := by decide +kernel
theorem dX5_entry_112 : decode cX5_entry 112 = .ok (.imul, 1) := by decide +kernel
theorem dX5_entry_113 : decode cX5_entry 113 = .ok (.iload_n 3, 1) := by decide +kernel
theorem dX5_entry_114 : decode cX5_entry 114 = .ok (.iadd, 1) := by decide +kernel
theorem dX5_entry_115 : decode cX5_entry 115 = .ok (.aload_n 0, 1) := by decide +kernel
theorem dX5_entry_116 : decode cX5_entry 116 = .ok (.getfield 25, 3) := by decide +kernel
theorem dX5_entry_119 : decode cX5_entry 119 = .ok (.iload_n 3, 1) := by decide +kernel
theorem dX5_entry_120 : decode cX5_entry 120 = .ok (.iaload, 1) := by decide +kernel
theorem dX5_entry_121 : decode cX5_entry 121 = .ok (.iastore, 1) := by decide +kernel
theorem dX5_entry_122 : decode cX5_entry 122 = .ok (.iinc 3 1, 3) := by decide +kernel
theorem dX5_entry_125 : decode cX5_entry 125 = .ok (.goto (-28), 3) := by decide +kernel
theorem dX5_entry_128 : decode cX5_entry 128 = .ok (.aload_n 0, 1) := by decide +kernel
theorem dX5_entry_129 : decode cX5_entry 129 = .ok (.getfield 42, 3) := by decide +kernel
theorem dX5_entry_132 : decode cX5_entry 132 = .ok (.aload_n 0, 1) := by decide +kernel
theorem dX5_entry_133 : decode cX5_entry 133 = .ok (.getfield 133, 3) := by decide +kernel
theorem dX5_entry_136 : decode cX5_entry 136 = .ok (.iload_n 2, 1) := by decide +kernel
theorem dX5_entry_137 : decode cX5_entry 137 = .ok (.iastore, 1) := by decide +kernel
theorem dX5_entry_138 : decode cX5_entry 138 = .ok (.aload_n 0, 1) := by decide +kernel
theorem dX5_entry_139 : decode cX5_entry 139 = .ok (.iconst 0, 1) := by decide +kernel
theorem dX5_entry_140 : decode cX5_entry 140 = .ok (.invokevirtual 140, 3) := by decide +kernel
theorem dX5_entry_143 : decode cX5_entry 143 = .ok (.ireturn, 1) := by decide +kernel
set_option maxRecDepth 20000 in
theorem ggX5_see_X5_bad : GoodIn wsX5_see wsX5_bad := goodIn_r _ [12, 1, 28, 29, 30, 31, 32, 33, 34, 35, 36, 37, 38, 39, 40, 41, 42, 43, 44, 45, 46, 47, 48, 49, 50, 51, 52, 53, 54, 55, 56, 57, 58, 59, 60, 61, 62, 63, 64, 65, 66, 67, 68, 69, 70, 71, 72, 73] (by decide +kernel) (by decide +kernel)
set_option maxRecDepth 20000 in
theorem gX5_see_X5_bad : GoodIn wsX5_see (wsV RX5 119 RX5 yX5_bad wsX5_bad) := goodIn_app (goodIn_of _ (by decide +kernel)) ggX5_see_X5_bad
set_option maxRecDepth 20000 in
theorem ggX5_see_X5_isHead : GoodIn wsX5_see wsX5_isHead := goodIn_r _ [16, 17, 28, 29, 30, 31, 32, 33, 34, 35, 36, 37, 38, 39, 40, 41, 42, 43, 44, 45, 46, 47, 48, 49, 50, 51, 52, 53, 54, 55, 56, 57, 58, 59, 60, 61, 62, 63, 64, 65, 66, 67, 68, 69, 70, 71, 72, 73] (by decide +kernel) (by decide +kernel)
set_option maxRecDepth 20000 in
theorem gX5_see_X5_isHead : GoodIn wsX5_see (wsV RX5 129 RX5 yX5_isHead wsX5_isHead) := goodIn_app (goodIn_of _ (by decide +kernel)) ggX5_see_X5_isHead
set_option maxRecDepth 20000 in
theorem ggX5_see_X5_head : GoodIn wsX5_see wsX5_head := goodIn_r _ [21, 17, 28, 29, 30, 31, 32, 33, 34, 35, 36, 37, 38, 39, 40, 41, 42, 43, 44, 45, 46, 47, 48, 49, 50, 51, 52, 53, 54, 55, 56, 57, 58, 59, 60, 61, 62, 63, 64, 65, 66, 67, 68, 69, 70, 71, 72, 73] (by decide +kernel) (by decide +kernel)
set_option maxRecDepth 20000 in
theorem gX5_see_X5_head : GoodIn wsX5_see (wsV RX5 136 RX5 yX5_head wsX5_head) := goodIn_app (goodIn_of _ (by decide +kernel)) ggX5_see_X5_head
set_option maxRecDepth 20000 in
theorem ggX5_see_X5_comes : GoodIn wsX5_see wsX5_comes := goodIn_r _ [25, 26, 3, 27, 28, 29, 30, 31, 32, 33, 34, 35, 36, 37, 38, 39, 40, 41, 42, 43, 44, 45, 46, 47, 48, 49, 50, 51, 52, 53, 54, 55, 56, 57, 58, 59, 60, 61, 62, 63, 64, 65, 66, 67, 68, 69, 70, 71, 72, 73] (by decide +kernel) (by decide +kernel)
set_option maxRecDepth 20000 in
theorem gX5_see_X5_comes : GoodIn wsX5_see (wsV RX5 140 RX5 yX5_comes wsX5_comes) := goodIn_app (goodIn_of _ (by decide +kernel)) ggX5_see_X5_comes
theorem dX5_see_0 : decode cX5_see 0 = .ok (.aload_n 0, 1) := by decide +kernel
theorem dX5_see_1 : decode cX5_see 1 = .ok (.iconst 0, 1) := by decide +kernel
theorem dX5_see_2 : decode cX5_see 2 = .ok (.putfield 116, 3) := by decide +kernel
theorem dX5_see_5 : decode cX5_see 5 = .ok (.aload_n 0, 1) := by decide +kernel
theorem dX5_see_6 : decode cX5_see 6 = .ok (.iload_n 1, 1) := by decide +kernel
theorem dX5_see_7 : decode cX5_see 7 = .ok (.ifCond .lt 33, 3) := by decide +kernel
theorem dX5_see_10 : decode cX5_see 10 = .ok (.iload_n 2, 1) := by decide +kernel
theorem dX5_see_11 : decode cX5_see 11 = .ok (.ifCond .lt 29, 3) := by decide +kernel
theorem dX5_see_14 : decode cX5_see 14 = .ok (.iload_n 1, 1) := by decide +kernel
theorem dX5_see_15 : decode cX5_see 15 = .ok (.aload_n 0, 1) := by decide +kernel
theorem dX5_see_16 : decode cX5_see 16 = .ok (.getfield 126, 3) := by decide +kernel
theorem dX5_see_19 : decode cX5_see 19 = .ok (.if_icmp .gt 21, 3) := by decide +kernel
theorem dX5_see_22 : decode cX5_see 22 = .ok (.iload_n 2, 1) := by decide +kernel
theorem dX5_see_23 : decode cX5_see 23 = .ok (.aload_n 0, 1) := by decide +kernel
theorem dX5_see_24 : decode cX5_see 24 = .ok (.getfield 126, 3) := by decide +kernel
theorem dX5_see_27 : decode cX5_see 27 = .ok (.if_icmp .gt 13, 3) := by decide +kernel
theorem dX5_see_30 : decode cX5_see 30 = .ok (.iload_n 1, 1) := by decide +kernel
theorem dX5_see_31 : decode cX5_see 31 = .ok (.iload_n 2, 1) := by decide +kernel
theorem dX5_see_32 : decode cX5_see 32 = .ok (.iadd, 1) := by decide +kernel
theorem dX5_see_33 : decode cX5_see 33 = .ok (.aload_n 0, 1) := by decide +kernel
theorem dX5_see_34 : decode cX5_see 34 = .ok (.getfield 126, 3) := by decide +kernel
theorem dX5_see_37 : decode cX5_see 37 = .ok (.if_icmp .le 7, 3) := by decide +kernel
theorem dX5_see_40 : decode cX5_see 40 = .ok (.iconst 1, 1) := by decide +kernel
theorem dX5_see_41 : decode cX5_see 41 = .ok (.goto 4, 3) := by decide +kernel
theorem dX5_see_44 : decode cX5_see 44 = .ok (.iconst 0, 1) := by decide +kernel
theorem dX5_see_45 : decode cX5_see 45 = .ok (.iconst 1, 1) := by decide +kernel
theorem dX5_see_46 : decode cX5_see 46 = .ok (.invokevirtual 119, 3) := by decide +kernel
theorem dX5_see_49 : decode cX5_see 49 = .ok (.ifCond .eq 5, 3) := by decide +kernel
theorem dX5_see_52 : decode cX5_see 52 = .ok (.iconst 0, 1) := by decide +kernel
theorem dX5_see_53 : decode cX5_see 53 = .ok (.ireturn, 1) := by decide +kernel
theorem dX5_see_54 : decode cX5_see 54 = .ok (.aload_n 0, 1) := by decide +kernel
theorem dX5_see_55 : decode cX5_see 55 = .ok (.iconst 0, 1) := by decide +kernel
theorem dX5_see_56 : decode cX5_see 56 = .ok (.putfield 126, 3) := by decide +kernel
theorem dX5_see_59 : decode cX5_see 59 = .ok (.aload_n 0, 1) := by decide +kernel
theorem dX5_see_60 : decode cX5_see 60 = .ok (.iconst 0, 1) := by decide +kernel
theorem dX5_see_61 : decode cX5_see 61 = .ok (.iload_n 1, 1) := by decide +kernel
theorem dX5_see_62 : decode cX5_see 62 = .ok (.invokevirtual 129, 3) := by decide +kernel
theorem dX5_see_65 : decode cX5_see 65 = .ok (.ifCond .eq 12, 3) := by decide +kernel
theorem dX5_see_68 : decode cX5_see 68 = .ok (.aload_n 0, 1) := by decide +kernel
theorem dX5_see_69 : decode cX5_see 69 = .ok (.iload_n 1, 1) := by decide +kernel
theorem dX5_see_70 : decode cX5_see 70 = .ok (.iload_n 2, 1) := by decide +kernel
theorem dX5_see_71 : decode cX5_see 71 = .ok (.invokevirtual 129, 3) := by decide +kernel
theorem dX5_see_74 : decode cX5_see 74 = .ok (.ifCond .ne 5, 3) := by decide +kernel
theorem dX5_see_77 : decode cX5_see 77 = .ok (.iconst (-1), 1) := by decide +kernel
theorem dX5_see_78 : decode cX5_see 78 = .ok (.ireturn, 1) := by decide +kernel
theorem dX5_see_79 : decode cX5_see 79 = .ok (.aload_n 0, 1) := by decide +kernel
theorem dX5_see_80 : decode cX5_see 80 = .ok (.getfield 133, 3) := by decide +kernel
theorem dX5_see_83 : decode cX5_see 83 = .ok (.sipush 150, 3) := by decide +kernel
theorem dX5_see_86 : decode cX5_see 86 = .ok (.if_icmp .ne 6, 3) := by decide +kernel
theorem dX5_see_89 : decode cX5_see 89 = .ok (.bipush (-3), 2) := by decide +kernel
theorem dX5_see_91 : decode cX5_see 91 = .ok (.ireturn, 1) := by decide +kernel
theorem dX5_see_92 : decode cX5_see 92 = .ok (.aload_n 0, 1) := by decide +kernel
theorem dX5_see_93 : decode cX5_see 93 = .ok (.aload_n 0, 1) := by decide +kernel
theorem dX5_see_94 : decode cX5_see 94 = .ok (.getfield 33, 3) := by decide +kernel
theorem dX5_see_97 : decode cX5_see 97 = .ok (.bipush 12, 2) := by decide +kernel
theorem dX5_see_99 : decode cX5_see 99 = .ok (.aload_n 0, 1) := by decide +kernel
theorem dX5_see_100 : decode cX5_see 100 = .ok (.getfield 133, 3) := by decide +kernel
theorem dX5_see_103 : decode cX5_see 103 = .ok (.imul, 1) := by decide +kernel
theorem dX5_see_104 : decode cX5_see 104 = .ok (.iconst 0, 1) := by decide +kernel
theorem dX5_see_105 : decode cX5_see 105 = .ok (.iload_n 1, 1) := by decide +kernel
theorem dX5_see_106 : decode cX5_see 106 = .ok (.invokevirtual 136, 3) := by decide +kernel
theorem dX5_see_109 : decode cX5_see 109 = .ok (.aload_n 0, 1) := by decide +kernel
theorem dX5_see_110 : decode cX5_see 110 = .ok (.aload_n 0, 1) := by decide +kernel
theorem dX5_see_111 : decode cX5_see 111 = .ok (.getfield 36, 3) := by decide +kernel
theorem dX5_see_114 : decode cX5_see 114 = .ok (.bipush 12, 2) := by decide +kernel
theorem dX5_see_116 : decode cX5_see 116 = .ok (.aload_n 0, 1) := by decide +kernel
theorem dX5_see_117 : decode cX5_see 117 = .ok (.getfield 133, 3) := by decide +kernel
theorem dX5_see_120 : decode cX5_see 120 = .ok (.imul, 1) := by decide +kernel
theorem dX5_see_121 : decode cX5_see 121 = .ok (.iload_n 1, 1) := by decide +kernel
theorem dX5_see_122 : decode cX5_see 122 = .ok (.iload_n 2, 1) := by decide +kernel
theorem dX5_see_123 : decode cX5_see 123 = .ok (.invokevirtual 136, 3) := by decide +kernel
theorem dX5_see_126 : decode cX5_see 126 = .ok (.aload_n 0, 1) := by decide +kernel
theorem dX5_see_127 : decode cX5_see 127 = .ok (.getfield 39, 3) := by decide +kernel
theorem dX5_see_130 : decode cX5_see 130 = .ok (.bipush 6, 2) := by decide +kernel
theorem dX5_see_132 : decode cX5_see 132 = .ok (.aload_n 0, 1) := by decide +kernel
theorem dX5_see_133 : decode cX5_see 133 = .ok (.getfield 133, 3) := by decide +kernel
theorem dX5_see_136 : decode cX5_see 136 = .ok (.imul, 1) := by decide +kernel
theorem dX5_see_137 : decode cX5_see 137 = .ok (.iconst 1, 1) := by decide +kernel
theorem dX5_see_138 : decode cX5_see 138 = .ok (.iastore, 1) := by decide +kernel
theorem dX5_see_139 : decode cX5_see 139 = .ok (.aload_n 0, 1) := by decide +kernel
theorem dX5_see_140 : decode cX5_see 140 = .ok (.getfield 42, 3) := by decide +kernel
theorem dX5_see_143 : decode cX5_see 143 = .ok (.aload_n 0, 1) := by decide +kernel
theorem dX5_see_144 : decode cX5_see 144 = .ok (.getfield 133, 3) := by decide +kernel
theorem dX5_see_147 : decode cX5_see 147 = .ok (.iconst 1, 1) := by decide +kernel
theorem dX5_see_148 : decode cX5_see 148 = .ok (.iastore, 1) := by decide +kernel
theorem dX5_see_149 : decode cX5_see 149 = .ok (.aload_n 0, 1) := by decide +kernel
theorem dX5_see_150 : decode cX5_see 150 = .ok (.iconst 1, 1) := by decide +kernel
theorem dX5_see_151 : decode cX5_see 151 = .ok (.invokevirtual 140, 3) := by decide +kernel
theorem dX5_see_154 : decode cX5_see 154 = .ok (.ireturn, 1) := by decide +kernel
theorem dX5_comes_0 : decode cX5_comes 0 = .ok (.aload_n 0, 1) := by decide +kernel
theorem dX5_comes_1 : decode cX5_comes 1 = .ok (.getfield 45, 3) := by decide +kernel
theorem dX5_comes_4 : decode cX5_comes 4 = .ok (.aload_n 0, 1) := by decide +kernel
theorem dX5_comes_5 : decode cX5_comes 5 = .ok (.getfield 133, 3) := by decide +kernel
theorem dX5_comes_8 : decode cX5_comes 8 = .ok (.iload_n 1, 1) := by decide +kernel
theorem dX5_comes_9 : decode cX5_comes 9 = .ok (.bastore, 1) := by decide +kernel
theorem dX5_comes_10 : decode cX5_comes 10 = .ok (.aload_n 0, 1) := by decide +kernel
theorem dX5_comes_11 : decode cX5_comes 11 = .ok (.getfield 49, 3) := by decide +kernel
theorem dX5_comes_14 : decode cX5_comes 14 = .ok (.aload_n 0, 1) := by decide +kernel
theorem dX5_comes_15 : decode cX5_comes 15 = .ok (.getfield 133, 3) := by decide +kernel
theorem dX5_comes_18 : decode cX5_comes 18 = .ok (.iconst 1, 1) := by decide +kernel
theorem dX5_comes_19 : decode cX5_comes 19 = .ok (.bastore, 1) := by decide +kernel
theorem dX5_comes_20 : decode cX5_comes 20 = .ok (.aload_n 0, 1) := by decide +kernel
theorem dX5_comes_21 : decode cX5_comes 21 = .ok (.dup, 1) := by decide +kernel
theorem dX5_comes_22 : decode cX5_comes 22 = .ok (.getfield 133, 3) := by decide +kernel
theorem dX5_comes_25 : decode cX5_comes 25 = .ok (.iconst 1, 1) := by decide +kernel
theorem dX5_comes_26 : decode cX5_comes 26 = .ok (.iadd, 1) := by decide +kernel
theorem dX5_comes_27 : decode cX5_comes 27 = .ok (.putfield 133, 3) := by decide +kernel
theorem dX5_comes_30 : decode cX5_comes 30 = .ok (.aload_n 0, 1) := by decide +kernel
theorem dX5_comes_31 : decode cX5_comes 31 = .ok (.getfield 133, 3) := by decide +kernel
theorem dX5_comes_34 : decode cX5_comes 34 = .ok (.iconst 1, 1) := by decide +kernel
theorem dX5_comes_35 : decode cX5_comes 35 = .ok (.isub, 1) := by decide +kernel
theorem dX5_comes_36 : decode cX5_comes 36 = .ok (.ireturn, 1) := by decide +kernel
theorem dX5_isEntry_0 : decode cX5_isEntry 0 = .ok (.aload_n 0, 1) := by decide +kernel
theorem dX5_isEntry_1 : decode cX5_isEntry 1 = .ok (.iload_n 1, 1) := by decide +kernel
theorem dX5_isEntry_2 : decode cX5_isEntry 2 = .ok (.ifCond .lt 11, 3) := by decide +kernel
theorem dX5_isEntry_5 : decode cX5_isEntry 5 = .ok (.iload_n 1, 1) := by decide +kernel
theorem dX5_isEntry_6 : decode cX5_isEntry 6 = .ok (.aload_n 0, 1) := by decide +kernel
theorem dX5_isEntry_7 : decode cX5_isEntry 7 = .ok (.getfield 133, 3) := by decide +kernel
theorem dX5_isEntry_10 : decode cX5_isEntry 10 = .ok (.if_icmp .lt 7, 3) := by decide +kernel
theorem dX5_isEntry_13 : decode cX5_isEntry 13 = .ok (.iconst 1, 1) := by decide +kernel
theorem dX5_isEntry_14 : decode cX5_isEntry 14 = .ok (.goto 4, 3) := by decide +kernel
theorem dX5_isEntry_17 : decode cX5_isEntry 17 = .ok (.iconst 0, 1) := by decide +kernel
theorem dX5_isEntry_18 : decode cX5_isEntry 18 = .ok (.putfield 116, 3) := by decide +kernel
theorem dX5_isEntry_21 : decode cX5_isEntry 21 = .ok (.aload_n 0, 1) := by decide +kernel
theorem dX5_isEntry_22 : decode cX5_isEntry 22 = .ok (.getfield 116, 3) := by decide +kernel
theorem dX5_isEntry_25 : decode cX5_isEntry 25 = .ok (.ifCond .ne 7, 3) := by decide +kernel
theorem dX5_isEntry_28 : decode cX5_isEntry 28 = .ok (.iconst 1, 1) := by decide +kernel
theorem dX5_isEntry_29 : decode cX5_isEntry 29 = .ok (.goto 4, 3) := by decide +kernel
theorem dX5_isEntry_32 : decode cX5_isEntry 32 = .ok (.iconst 0, 1) := by decide +kernel
theorem dX5_isEntry_33 : decode cX5_isEntry 33 = .ok (.ireturn, 1) := by decide +kernel
set_option maxRecDepth 20000 in
theorem ggX5_drop_X5_isEntry : GoodIn wsX5_drop wsX5_isEntry := goodIn_r _ [6, 7, 8, 9, 10, 11, 12, 13, 14, 15, 16, 17, 18, 19, 20, 21, 22, 23, 24, 25, 26, 27, 28, 29, 30, 31, 32, 33, 34, 35, 36, 37, 38, 39, 40, 41, 42, 43, 44, 45, 46, 47, 48, 49, 50, 51, 52, 53, 54] (by decide +kernel) (by decide +kernel)
set_option maxRecDepth 20000 in
theorem gX5_drop_X5_isEntry : GoodIn wsX5_drop (wsV RX5 144 RX5 yX5_isEntry wsX5_isEntry) := goodIn_app (goodIn_of _ (by decide +kernel)) ggX5_drop_X5_isEntry
theorem dX5_drop_0 : decode cX5_drop 0 = .ok (.aload_n 0, 1) := by decide +kernel
theorem dX5_drop_1 : decode cX5_drop 1 = .ok (.iload_n 1, 1) := by decide +kernel
theorem dX5_drop_2 : decode cX5_drop 2 = .ok (.invokevirtual 144, 3) := by decide +kernel
theorem dX5_drop_5 : decode cX5_drop 5 = .ok (.ifCond .ne 5, 3) := by decide +kernel
theorem dX5_drop_8 : decode cX5_drop 8 = .ok (.iconst 0, 1) := by decide +kernel
theorem dX5_drop_9 : decode cX5_drop 9 = .ok (.ireturn, 1) := by decide +kernel
theorem dX5_drop_10 : decode cX5_drop 10 = .ok (.aload_n 0, 1) := by decide +kernel
theorem dX5_drop_11 : decode cX5_drop 11 = .ok (.getfield 49, 3) := by decide +kernel
theorem dX5_drop_14 : decode cX5_drop 14 = .ok (.iload_n 1, 1) := by decide +kernel
theorem dX5_drop_15 : decode cX5_drop 15 = .ok (.baload, 1) := by decide +kernel
theorem dX5_drop_16 : decode cX5_drop 16 = .ok (.istore_n 2, 1) := by decide +kernel
theorem dX5_drop_17 : decode cX5_drop 17 = .ok (.aload_n 0, 1) := by decide +kernel
theorem dX5_drop_18 : decode cX5_drop 18 = .ok (.getfield 49, 3) := by decide +kernel
theorem dX5_drop_21 : decode cX5_drop 21 = .ok (.iload_n 1, 1) := by decide +kernel
theorem dX5_drop_22 : decode cX5_drop 22 = .ok (.iconst 0, 1) := by decide +kernel
theorem dX5_drop_23 : decode cX5_drop 23 = .ok (.bastore, 1) := by decide +kernel
theorem dX5_drop_24 : decode cX5_drop 24 = .ok (.iload_n 2, 1) := by decide +kernel
theorem dX5_drop_25 : decode cX5_drop 25 = .ok (.ireturn, 1) := by decide +kernel
theorem dX5_compare_0 : decode cX5_compare 0 = .ok (.iconst 0, 1) := by decide +kernel
theorem dX5_compare_1 : decode cX5_compare 1 = .ok (.istore 4, 2) := by decide +kernel
theorem dX5_compare_3 : decode cX5_compare 3 = .ok (.iload 4, 2) := by decide +kernel
theorem dX5_compare_5 : decode cX5_compare 5 = .ok (.bipush 12, 2) := by decide +kernel
theorem dX5_compare_7 : decode cX5_compare 7 = .ok (.if_icmp .ge 38, 3) := by decide +kernel
theorem dX5_compare_10 : decode cX5_compare 10 = .ok (.aload_n 0, 1) := by decide +kernel
theorem dX5_compare_11 : decode cX5_compare 11 = .ok (.iload_n 1, 1) := by decide +kernel
theorem dX5_compare_12 : decode cX5_compare 12 = .ok (.iload 4, 2) := by decide +kernel
theorem dX5_compare_14 : decode cX5_compare 14 = .ok (.iadd, 1) := by decide +kernel
theorem dX5_compare_15 : decode cX5_compare 15 = .ok (.iaload, 1) := by decide +kernel
theorem dX5_compare_16 : decode cX5_compare 16 = .ok (.aload_n 2, 1) := by decide +kernel
theorem dX5_compare_17 : decode cX5_compare 17 = .ok (.iload_n 3, 1) := by decide +kernel
theorem dX5_compare_18 : decode cX5_compare 18 = .ok (.iload 4, 2) := by decide +kernel
theorem dX5_compare_20 : decode cX5_compare 20 = .ok (.iadd, 1) := by decide +kernel
theorem dX5_compare_21 : decode cX5_compare 21 = .ok (.iaload, 1) := by decide +kernel
theorem dX5_compare_22 : decode cX5_compare 22 = .ok (.if_icmp .eq 17, 3) := by decide +kernel
theorem dX5_compare_25 : decode cX5_compare 25 = .ok (.aload_n 0, 1) := by decide +kernel
theorem dX5_compare_26 : decode cX5_compare 26 = .ok (.iload_n 1, 1) := by decide +kernel
theorem dX5_compare_27 : decode cX5_compare 27 = .ok (.iload 4, 2) := by decide +kernel
theorem dX5_compare_29 : decode cX5_compare 29 = .ok (.iadd, 1) := by decide +kernel
theorem dX5_compare_30 : decode cX5_compare 30 = .ok (.iaload, 1) := by decide +kernel
theorem dX5_compare_31 : decode cX5_compare 31 = .ok (.aload_n 2, 1) := by decide +kernel
theorem dX5_compare_32 : decode cX5_compare 32 = .ok (.iload_n 3, 1) := by decide +kernel
theorem dX5_compare_33 : decode cX5_compare 33 = .ok (.iload 4, 2) := by decide +kernel
theorem dX5_compare_35 : decode cX5_compare 35 = .ok (.iadd, 1) := by decide +kernel
theorem dX5_compare_36 : decode cX5_compare 36 = .ok (.iaload, 1) := by decide +kernel
theorem dX5_compare_37 : decode cX5_compare 37 = .ok (.isub, 1) := by decide +kernel
theorem dX5_compare_38 : decode cX5_compare 38 = .ok (.ireturn, 1) := by decide +kernel
theorem dX5_compare_39 : decode cX5_compare 39 = .ok (.iinc 4 1, 3) := by decide +kernel
theorem dX5_compare_42 : decode cX5_compare 42 = .ok (.goto (-39), 3) := by decide +kernel
theorem dX5_compare_45 : decode cX5_compare 45 = .ok (.iconst 0, 1) := by decide +kernel
theorem dX5_compare_46 : decode cX5_compare 46 = .ok (.ireturn, 1) := by decide +kernel
set_option maxRecDepth 20000 in
theorem ggX5_sorts_X5_compare : GoodIn wsX5_sorts wsX5_compare := goodIn_r _ [9] (by decide +kernel) (by decide +kernel)
set_option maxRecDepth 20000 in
theorem gX5_sorts_X5_compare : GoodIn wsX5_sorts (va_wsS RX5 151 yX5_compare wsX5_compare) := goodIn_app (goodIn_of _ (by decide +kernel)) ggX5_sorts_X5_compare
theorem dX5_sorts_0 : decode cX5_sorts 0 = .ok (.aload_n 0, 1) := by decide +kernel
theorem dX5_sorts_1 : decode cX5_sorts 1 = .ok (.iconst 0, 1) := by decide +kernel
theorem dX5_sorts_2 : decode cX5_sorts 2 = .ok (.putfield 148, 3) := by decide +kernel
theorem dX5_sorts_5 : decode cX5_sorts 5 = .ok (.iconst 0, 1) := by decide +kernel
theorem dX5_sorts_6 : decode cX5_sorts 6 = .ok (.istore_n 1, 1) := by decide +kernel
theorem dX5_sorts_7 : decode cX5_sorts 7 = .ok (.iload_n 1, 1) := by decide +kernel
theorem dX5_sorts_8 : decode cX5_sorts 8 = .ok (.aload_n 0, 1) := by decide +kernel
theorem dX5_sorts_9 : decode cX5_sorts 9 = .ok (.getfield 133, 3) := by decide +kernel
theorem dX5_sorts_12 : decode cX5_sorts 12 = .ok (.if_icmp .ge 96, 3) := by decide +kernel
theorem dX5_sorts_15 : decode cX5_sorts 15 = .ok (.aload_n 0, 1) := by decide +kernel
theorem dX5_sorts_16 : decode cX5_sorts 16 = .ok (.getfield 49, 3) := by decide +kernel
theorem dX5_sorts_19 : decode cX5_sorts 19 = .ok (.iload_n 1, 1) := by decide +kernel
theorem dX5_sorts_20 : decode cX5_sorts 20 = .ok (.baload, 1) := by decide +kernel
theorem dX5_sorts_21 : decode cX5_sorts 21 = .ok (.ifCond .ne 6, 3) := by decide +kernel
theorem dX5_sorts_24 : decode cX5_sorts 24 = .ok (.goto 78, 3) := by decide +kernel
theorem dX5_sorts_27 : decode cX5_sorts 27 = .ok (.aload_n 0, 1) := by decide +kernel
theorem dX5_sorts_28 : decode cX5_sorts 28 = .ok (.getfield 148, 3) := by decide +kernel
theorem dX5_sorts_31 : decode cX5_sorts 31 = .ok (.istore_n 2, 1) := by decide +kernel
theorem dX5_sorts_32 : decode cX5_sorts 32 = .ok (.iload_n 2, 1) := by decide +kernel
theorem dX5_sorts_33 : decode cX5_sorts 33 = .ok (.ifCond .le 52, 3) := by decide +kernel
theorem dX5_sorts_36 : decode cX5_sorts 36 = .ok (.aload_n 0, 1) := by decide +kernel
theorem dX5_sorts_37 : decode cX5_sorts 37 = .ok (.getfield 33, 3) := by decide +kernel
theorem dX5_sorts_40 : decode cX5_sorts 40 = .ok (.bipush 12, 2) := by decide +kernel
theorem dX5_sorts_42 : decode cX5_sorts 42 = .ok (.aload_n 0, 1) := by decide +kernel
theorem dX5_sorts_43 : decode cX5_sorts 43 = .ok (.getfield 52, 3) := by decide +kernel
theorem dX5_sorts_46 : decode cX5_sorts 46 = .ok (.iload_n 2, 1) := by decide +kernel
theorem dX5_sorts_47 : decode cX5_sorts 47 = .ok (.iconst 1, 1) := by decide +kernel
theorem dX5_sorts_48 : decode cX5_sorts 48 = .ok (.isub, 1) := by decide +kernel
theorem dX5_sorts_49 : decode cX5_sorts 49 = .ok (.iaload, 1) := by decide +kernel
theorem dX5_sorts_50 : decode cX5_sorts 50 = .ok (.imul, 1) := by decide +kernel
theorem dX5_sorts_51 : decode cX5_sorts 51 = .ok (.aload_n 0, 1) := by decide +kernel
theorem dX5_sorts_52 : decode cX5_sorts 52 = .ok (.getfield 33, 3) := by decide +kernel
theorem dX5_sorts_55 : decode cX5_sorts 55 = .ok (.bipush 12, 2) := by decide +kernel
theorem dX5_sorts_57 : decode cX5_sorts 57 = .ok (.iload_n 1, 1) := by decide +kernel
theorem dX5_sorts_58 : decode cX5_sorts 58 = .ok (.imul, 1) := by decide +kernel
theorem dX5_sorts_59 : decode cX5_sorts 59 = .ok (.invokestatic 151, 3) := by decide +kernel
theorem dX5_sorts_62 : decode cX5_sorts 62 = .ok (.ifCond .le 23, 3) := by decide +kernel
theorem dX5_sorts_65 : decode cX5_sorts 65 = .ok (.aload_n 0, 1) := by decide +kernel
theorem dX5_sorts_66 : decode cX5_sorts 66 = .ok (.getfield 52, 3) := by decide +kernel
theorem dX5_sorts_69 : decode cX5_sorts 69 = .ok (.iload_n 2, 1) := by decide +kernel
theorem dX5_sorts_70 : decode cX5_sorts 70 = .ok (.aload_n 0, 1) := by decide +kernel
theorem dX5_sorts_71 : decode cX5_sorts 71 = .ok (.getfield 52, 3) := by decide +kernel
theorem dX5_sorts_74 : decode cX5_sorts 74 = .ok (.iload_n 2, 1) := by decide +kernel
theorem dX5_sorts_75 : decode cX5_sorts 75 = .ok (.iconst 1, 1) := by decide +kernel
theorem dX5_sorts_76 : decode cX5_sorts 76 = .ok (.isub, 1) := by decide +kernel
theorem dX5_sorts_77 : decode cX5_sorts 77 = .ok (.iaload, 1) := by decide +kernel
theorem dX5_sorts_78 : decode cX5_sorts 78 = .ok (.iastore, 1) := by decide +kernel
theorem dX5_sorts_79 : decode cX5_sorts 79 = .ok (.iinc 2 (-1), 3) := by decide +kernel
theorem dX5_sorts_82 : decode cX5_sorts 82 = .ok (.goto (-50), 3) := by decide +kernel
theorem dX5_sorts_85 : decode cX5_sorts 85 = .ok (.aload_n 0, 1) := by decide +kernel
theorem dX5_sorts_86 : decode cX5_sorts 86 = .ok (.getfield 52, 3) := by decide +kernel
theorem dX5_sorts_89 : decode cX5_sorts 89 = .ok (.iload_n 2, 1) := by decide +kernel
theorem dX5_sorts_90 : decode cX5_sorts 90 = .ok (.iload_n 1, 1) := by decide +kernel
theorem dX5_sorts_91 : decode cX5_sorts 91 = .ok (.iastore, 1) := by decide +kernel
theorem dX5_sorts_92 : decode cX5_sorts 92 = .ok (.aload_n 0, 1) := by decide +kernel
theorem dX5_sorts_93 : decode cX5_sorts 93 = .ok (.dup, 1) := by decide +kernel
theorem dX5_sorts_94 : decode cX5_sorts 94 = .ok (.getfield 148, 3) := by decide +kernel
theorem dX5_sorts_97 : decode cX5_sorts 97 = .ok (.iconst 1, 1) := by decide +kernel
theorem dX5_sorts_98 : decode cX5_sorts 98 = .ok (.iadd, 1) := by decide +kernel
theorem dX5_sorts_99 : decode cX5_sorts 99 = .ok (.putfield 148, 3) := by decide +kernel
theorem dX5_sorts_102 : decode cX5_sorts 102 = .ok (.iinc 1 1, 3) := by decide +kernel
theorem dX5_sorts_105 : decode cX5_sorts 105 = .ok (.goto (-98), 3) := by decide +kernel
theorem dX5_sorts_108 : decode cX5_sorts 108 = .ok (.return_, 1) := by decide +kernel
set_option maxRecDepth 20000 in
theorem ggX5_order_X5_sorts : GoodIn wsX5_order wsX5_sorts := goodIn_r _ [8, 2, 9, 10, 11, 3, 12, 13, 7, 14, 15, 16, 17, 18, 19, 20, 21, 22, 23, 24, 25, 26, 27, 28, 29, 30, 31, 32, 33, 34, 35, 36, 37, 38, 39, 40, 41, 42, 43, 44, 45, 46, 47, 48, 49, 50, 51, 52, 53, 54, 55, 56, 57, 58, 59, 60] (by decide +kernel) (by decide +kernel)
set_option maxRecDepth 20000 in
theorem gX5_order_X5_sorts : GoodIn wsX5_order (wsV RX5 155 RX5 yX5_sorts wsX5_sorts) := goodIn_app (goodIn_of _ (by decide +kernel)) ggX5_order_X5_sorts
theorem dX5_order_0 : decode cX5_order 0 = .ok (.aload_n 0, 1) := by decide +kernel
theorem dX5_order_1 : decode cX5_order 1 = .ok (.iconst 0, 1) := by decide +kernel
theorem dX5_order_2 : decode cX5_order 2 = .ok (.putfield 116, 3) := by decide +kernel
theorem dX5_order_5 : decode cX5_order 5 = .ok (.aload_n 0, 1) := by decide +kernel
theorem dX5_order_6 : decode cX5_order 6 = .ok (.invokevirtual 155, 3) := by decide +kernel
theorem dX5_order_9 : decode cX5_order 9 = .ok (.iload_n 1, 1) := by decide +kernel
theorem dX5_order_10 : decode cX5_order 10 = .ok (.ifCond .lt 20, 3) := by decide +kernel
theorem dX5_order_13 : decode cX5_order 13 = .ok (.iload_n 1, 1) := by decide +kernel
theorem dX5_order_14 : decode cX5_order 14 = .ok (.aload_n 0, 1) := by decide +kernel
theorem dX5_order_15 : decode cX5_order 15 = .ok (.getfield 148, 3) := by decide +kernel
theorem dX5_order_18 : decode cX5_order 18 = .ok (.if_icmp .ge 12, 3) := by decide +kernel
theorem dX5_order_21 : decode cX5_order 21 = .ok (.aload_n 0, 1) := by decide +kernel
theorem dX5_order_22 : decode cX5_order 22 = .ok (.getfield 52, 3) := by decide +kernel
theorem dX5_order_25 : decode cX5_order 25 = .ok (.iload_n 1, 1) := by decide +kernel
theorem dX5_order_26 : decode cX5_order 26 = .ok (.iaload, 1) := by decide +kernel
theorem dX5_order_27 : decode cX5_order 27 = .ok (.goto 4, 3) := by decide +kernel
theorem dX5_order_30 : decode cX5_order 30 = .ok (.iconst (-1), 1) := by decide +kernel
theorem dX5_order_31 : decode cX5_order 31 = .ok (.ireturn, 1) := by decide +kernel
set_option maxRecDepth 20000 in
theorem ggX5_leads_X5_isEntry : GoodIn wsX5_leads wsX5_isEntry := goodIn_r _ [12, 1, 13, 22, 23, 24, 25, 26, 27, 28, 29, 30, 31, 32, 33, 34, 35, 36, 37, 38, 39, 40, 41, 42, 43, 44, 45, 46, 47, 48, 49, 50, 51, 52, 53, 54, 55, 56, 57, 58, 59, 60, 61, 62, 63, 64, 65, 66, 67] (by decide +kernel) (by decide +kernel)
set_option maxRecDepth 20000 in
theorem gX5_leads_X5_isEntry : GoodIn wsX5_leads (wsV RX5 144 RX5 yX5_isEntry wsX5_isEntry) := goodIn_app (goodIn_of _ (by decide +kernel)) ggX5_leads_X5_isEntry
set_option maxRecDepth 20000 in
theorem ggX5_leads_X5_sorts : GoodIn wsX5_leads wsX5_sorts := goodIn_r _ [17, 4, 1, 18, 6, 7, 19, 20, 11, 21, 22, 23, 24, 25, 26, 27, 28, 29, 30, 31, 32, 33, 34, 35, 36, 37, 38, 39, 40, 41, 42, 43, 44, 45, 46, 47, 48, 49, 50, 51, 52, 53, 54, 55, 56, 57, 58, 59, 60, 61, 62, 63, 64, 65, 66, 67] (by decide +kernel) (by decide +kernel)
set_option maxRecDepth 20000 in
theorem gX5_leads_X5_sorts : GoodIn wsX5_leads (wsV RX5 155 RX5 yX5_sorts wsX5_sorts) := goodIn_app (goodIn_of _ (by decide +kernel)) ggX5_leads_X5_sorts
set_option maxRecDepth 20000 in
theorem ggX5_leads_X5_compare : GoodIn wsX5_leads wsX5_compare := goodIn_r _ [21] (by decide +kernel) (by decide +kernel)
set_option maxRecDepth 20000 in
theorem gX5_leads_X5_compare : GoodIn wsX5_leads (va_wsS RX5 151 yX5_compare wsX5_compare) := goodIn_app (goodIn_of _ (by decide +kernel)) ggX5_leads_X5_compare
theorem dX5_leads_0 : decode cX5_leads 0 = .ok (.aload_n 0, 1) := by decide +kernel
theorem dX5_leads_1 : decode cX5_leads 1 = .ok (.iload_n 1, 1) := by decide +kernel
theorem dX5_leads_2 : decode cX5_leads 2 = .ok (.invokevirtual 144, 3) := by decide +kernel
theorem dX5_leads_5 : decode cX5_leads 5 = .ok (.ifCond .ne 5, 3) := by decide +kernel
theorem dX5_leads_8 : decode cX5_leads 8 = .ok (.iconst 0, 1) := by decide +kernel
theorem dX5_leads_9 : decode cX5_leads 9 = .ok (.ireturn, 1) := by decide +kernel
theorem dX5_leads_10 : decode cX5_leads 10 = .ok (.aload_n 0, 1) := by decide +kernel
theorem dX5_leads_11 : decode cX5_leads 11 = .ok (.invokevirtual 155, 3) := by decide +kernel
theorem dX5_leads_14 : decode cX5_leads 14 = .ok (.iconst 0, 1) := by decide +kernel
theorem dX5_leads_15 : decode cX5_leads 15 = .ok (.istore_n 2, 1) := by decide +kernel
theorem dX5_leads_16 : decode cX5_leads 16 = .ok (.iload_n 2, 1) := by decide +kernel
theorem dX5_leads_17 : decode cX5_leads 17 = .ok (.aload_n 0, 1) := by decide +kernel
theorem dX5_leads_18 : decode cX5_leads 18 = .ok (.getfield 133, 3) := by decide +kernel
theorem dX5_leads_21 : decode cX5_leads 21 = .ok (.if_icmp .ge 16, 3) := by decide +kernel
theorem dX5_leads_24 : decode cX5_leads 24 = .ok (.aload_n 0, 1) := by decide +kernel
theorem dX5_leads_25 : decode cX5_leads 25 = .ok (.getfield 55, 3) := by decide +kernel
theorem dX5_leads_28 : decode cX5_leads 28 = .ok (.iload_n 2, 1) := by decide +kernel
theorem dX5_leads_29 : decode cX5_leads 29 = .ok (.iconst 0, 1) := by decide +kernel
theorem dX5_leads_30 : decode cX5_leads 30 = .ok (.bastore, 1) := by decide +kernel
theorem dX5_leads_31 : decode cX5_leads 31 = .ok (.iinc 2 1, 3) := by decide +kernel
theorem dX5_leads_34 : decode cX5_leads 34 = .ok (.goto (-18), 3) := by decide +kernel
theorem dX5_leads_37 : decode cX5_leads 37 = .ok (.iload_n 1, 1) := by decide +kernel
theorem dX5_leads_38 : decode cX5_leads 38 = .ok (.istore_n 2, 1) := by decide +kernel
theorem dX5_leads_39 : decode cX5_leads 39 = .ok (.aload_n 0, 1) := by decide +kernel
theorem dX5_leads_40 : decode cX5_leads 40 = .ok (.getfield 45, 3) := by decide +kernel
theorem dX5_leads_43 : decode cX5_leads 43 = .ok (.iload_n 2, 1) := by decide +kernel
theorem dX5_leads_44 : decode cX5_leads 44 = .ok (.baload, 1) := by decide +kernel
theorem dX5_leads_45 : decode cX5_leads 45 = .ok (.ifCond .eq 85, 3) := by decide +kernel
theorem dX5_leads_48 : decode cX5_leads 48 = .ok (.aload_n 0, 1) := by decide +kernel
theorem dX5_leads_49 : decode cX5_leads 49 = .ok (.getfield 55, 3) := by decide +kernel
theorem dX5_leads_52 : decode cX5_leads 52 = .ok (.iload_n 2, 1) := by decide +kernel
theorem dX5_leads_53 : decode cX5_leads 53 = .ok (.iconst 1, 1) := by decide +kernel
theorem dX5_leads_54 : decode cX5_leads 54 = .ok (.bastore, 1) := by decide +kernel
theorem dX5_leads_55 : decode cX5_leads 55 = .ok (.iconst 0, 1) := by decide +kernel
theorem dX5_leads_56 : decode cX5_leads 56 = .ok (.istore_n 3, 1) := by decide +kernel
theorem dX5_leads_57 : decode cX5_leads 57 = .ok (.iload_n 3, 1) := by decide +kernel
theorem dX5_leads_58 : decode cX5_leads 58 = .ok (.aload_n 0, 1) := by decide +kernel
theorem dX5_leads_59 : decode cX5_leads 59 = .ok (.getfield 148, 3) := by decide +kernel
theorem dX5_leads_62 : decode cX5_leads 62 = .ok (.if_icmp .ge 36, 3) := by decide +kernel
theorem dX5_leads_65 : decode cX5_leads 65 = .ok (.aload_n 0, 1) := by decide +kernel
theorem dX5_leads_66 : decode cX5_leads 66 = .ok (.getfield 36, 3) := by decide +kernel
theorem dX5_leads_69 : decode cX5_leads 69 = .ok (.bipush 12, 2) := by decide +kernel
theorem dX5_leads_71 : decode cX5_leads 71 = .ok (.iload_n 2, 1) := by decide +kernel
theorem dX5_leads_72 : decode cX5_leads 72 = .ok (.imul, 1) := by decide +kernel
theorem dX5_leads_73 : decode cX5_leads 73 = .ok (.aload_n 0, 1) := by decide +kernel
theorem dX5_leads_74 : decode cX5_leads 74 = .ok (.getfield 33, 3) := by decide +kernel
theorem dX5_leads_77 : decode cX5_leads 77 = .ok (.bipush 12, 2) := by decide +kernel
theorem dX5_leads_79 : decode cX5_leads 79 = .ok (.aload_n 0, 1) := by decide +kernel
theorem dX5_leads_80 : decode cX5_leads 80 = .ok (.getfield 52, 3) := by decide +kernel
theorem dX5_leads_83 : decode cX5_leads 83 = .ok (.iload_n 3, 1) := by decide +kernel
theorem dX5_leads_84 : decode cX5_leads 84 = .ok (.iaload, 1) := by decide +kernel
theorem dX5_leads_85 : decode cX5_leads 85 = .ok (.imul, 1) := by decide +kernel
theorem dX5_leads_86 : decode cX5_leads 86 = .ok (.invokestatic 151, 3) := by decide +kernel
theorem dX5_leads_89 : decode cX5_leads 89 = .ok (.ifCond .eq 9, 3) := by decide +kernel
theorem dX5_leads_92 : decode cX5_leads 92 = .ok (.iinc 3 1, 3) := by decide +kernel
theorem dX5_leads_95 : decode cX5_leads 95 = .ok (.goto (-38), 3) := by decide +kernel
theorem dX5_leads_98 : decode cX5_leads 98 = .ok (.iload_n 3, 1) := by decide +kernel
theorem dX5_leads_99 : decode cX5_leads 99 = .ok (.aload_n 0, 1) := by decide +kernel
theorem dX5_leads_100 : decode cX5_leads 100 = .ok (.getfield 148, 3) := by decide +kernel
theorem dX5_leads_103 : decode cX5_leads 103 = .ok (.if_icmp .ne 5, 3) := by decide +kernel
theorem dX5_leads_106 : decode cX5_leads 106 = .ok (.iconst (-1), 1) := by decide +kernel
theorem dX5_leads_107 : decode cX5_leads 107 = .ok (.ireturn, 1) := by decide +kernel
theorem dX5_leads_108 : decode cX5_leads 108 = .ok (.aload_n 0, 1) := by decide +kernel
theorem dX5_leads_109 : decode cX5_leads 109 = .ok (.getfield 52, 3) := by decide +kernel
theorem dX5_leads_112 : decode cX5_leads 112 = .ok (.iload_n 3, 1) := by decide +kernel
theorem dX5_leads_113 : decode cX5_leads 113 = .ok (.iaload, 1) := by decide +kernel
theorem dX5_leads_114 : decode cX5_leads 114 = .ok (.istore_n 2, 1) := by decide +kernel
theorem dX5_leads_115 : decode cX5_leads 115 = .ok (.aload_n 0, 1) := by decide +kernel
theorem dX5_leads_116 : decode cX5_leads 116 = .ok (.getfield 55, 3) := by decide +kernel
theorem dX5_leads_119 : decode cX5_leads 119 = .ok (.iload_n 2, 1) := by decide +kernel
theorem dX5_leads_120 : decode cX5_leads 120 = .ok (.baload, 1) := by decide +kernel
theorem dX5_leads_121 : decode cX5_leads 121 = .ok (.ifCond .eq 6, 3) := by decide +kernel
theorem dX5_leads_124 : decode cX5_leads 124 = .ok (.bipush (-2), 2) := by decide +kernel
theorem dX5_leads_126 : decode cX5_leads 126 = .ok (.ireturn, 1) := by decide +kernel
theorem dX5_leads_127 : decode cX5_leads 127 = .ok (.goto (-88), 3) := by decide +kernel
theorem dX5_leads_130 : decode cX5_leads 130 = .ok (.iload_n 2, 1) := by decide +kernel
theorem dX5_leads_131 : decode cX5_leads 131 = .ok (.ireturn, 1) := by decide +kernel
set_option maxRecDepth 20000 in
theorem ggX5_makes_X5_sorts : GoodIn wsX5_makes wsX5_sorts := goodIn_r _ [17, 2, 18, 19, 11, 3, 20, 21, 16, 22, 23, 24, 25, 26, 27, 28, 29, 30, 31, 32, 33, 34, 35, 36, 37, 38, 39, 40, 41, 42, 43, 44, 45, 46, 47, 48, 49, 50, 51, 52, 53, 54, 55, 56, 57, 58, 59, 60, 61, 62, 63, 64, 65, 66, 67, 68] (by decide +kernel) (by decide +kernel)
set_option maxRecDepth 20000 in
theorem gX5_makes_X5_sorts : GoodIn wsX5_makes (wsV RX5 155 RX5 yX5_sorts wsX5_sorts) := goodIn_app (goodIn_of _ (by decide +kernel)) ggX5_makes_X5_sorts
theorem dX5_makes_0 : decode cX5_makes 0 = .ok (.aload_n 0, 1) := by decide +kernel
theorem dX5_makes_1 : decode cX5_makes 1 = .ok (.invokevirtual 155, 3) := by decide +kernel
theorem dX5_makes_4 : decode cX5_makes 4 = .ok (.aload_n 0, 1) := by decide +kernel
theorem dX5_makes_5 : decode cX5_makes 5 = .ok (.iconst 0, 1) := by decide +kernel
theorem dX5_makes_6 : decode cX5_makes 6 = .ok (.putfield 158, 3) := by decide +kernel
theorem dX5_makes_9 : decode cX5_makes 9 = .ok (.iconst 0, 1) := by decide +kernel
theorem dX5_makes_10 : decode cX5_makes 10 = .ok (.istore_n 1, 1) := by decide +kernel
theorem dX5_makes_11 : decode cX5_makes 11 = .ok (.iconst 0, 1) := by decide +kernel
theorem dX5_makes_12 : decode cX5_makes 12 = .ok (.istore_n 2, 1) := by decide +kernel
theorem dX5_makes_13 : decode cX5_makes 13 = .ok (.iload_n 2, 1) := by decide +kernel
theorem dX5_makes_14 : decode cX5_makes 14 = .ok (.aload_n 0, 1) := by decide +kernel
theorem dX5_makes_15 : decode cX5_makes 15 = .ok (.getfield 148, 3) := by decide +kernel
theorem dX5_makes_18 : decode cX5_makes 18 = .ok (.if_icmp .ge 193, 3) := by decide +kernel
theorem dX5_makes_21 : decode cX5_makes 21 = .ok (.aload_n 0, 1) := by decide +kernel
theorem dX5_makes_22 : decode cX5_makes 22 = .ok (.getfield 52, 3) := by decide +kernel
theorem dX5_makes_25 : decode cX5_makes 25 = .ok (.iload_n 2, 1) := by decide +kernel
theorem dX5_makes_26 : decode cX5_makes 26 = .ok (.iaload, 1) := by decide +kernel
theorem dX5_makes_27 : decode cX5_makes 27 = .ok (.istore_n 3, 1) := by decide +kernel
theorem dX5_makes_28 : decode cX5_makes 28 = .ok (.iconst 0, 1) := by decide +kernel
theorem dX5_makes_29 : decode cX5_makes 29 = .ok (.istore 4, 2) := by decide +kernel
theorem dX5_makes_31 : decode cX5_makes 31 = .ok (.iload 4, 2) := by decide +kernel
theorem dX5_makes_33 : decode cX5_makes 33 = .ok (.aload_n 0, 1) := by decide +kernel
theorem dX5_makes_34 : decode cX5_makes 34 = .ok (.getfield 42, 3) := by decide +kernel
theorem dX5_makes_37 : decode cX5_makes 37 = .ok (.iload_n 3, 1) := by decide +kernel
theorem dX5_makes_38 : decode cX5_makes 38 = .ok (.iaload, 1) := by decide +kernel
theorem dX5_makes_39 : decode cX5_makes 39 = .ok (.if_icmp .ge 156, 3) := by decide +kernel
theorem dX5_makes_42 : decode cX5_makes 42 = .ok (.aload_n 0, 1) := by decide +kernel
theorem dX5_makes_43 : decode cX5_makes 43 = .ok (.getfield 39, 3) := by decide +kernel
theorem dX5_makes_46 : decode cX5_makes 46 = .ok (.bipush 6, 2) := by decide +kernel
theorem dX5_makes_48 : decode cX5_makes 48 = .ok (.iload_n 3, 1) := by decide +kernel
theorem dX5_makes_49 : decode cX5_makes 49 = .ok (.imul, 1) := by decide +kernel
theorem dX5_makes_50 : decode cX5_makes 50 = .ok (.iload 4, 2) := by decide +kernel
theorem dX5_makes_52 : decode cX5_makes 52 = .ok (.iadd, 1) := by decide +kernel
theorem dX5_makes_53 : decode cX5_makes 53 = .ok (.iaload, 1) := by decide +kernel
theorem dX5_makes_54 : decode cX5_makes 54 = .ok (.istore 5, 2) := by decide +kernel
theorem dX5_makes_56 : decode cX5_makes 56 = .ok (.aload_n 0, 1) := by decide +kernel
theorem dX5_makes_57 : decode cX5_makes 57 = .ok (.getfield 58, 3) := by decide +kernel
theorem dX5_makes_60 : decode cX5_makes 60 = .ok (.aload_n 0, 1) := by decide +kernel
theorem dX5_makes_61 : decode cX5_makes 61 = .ok (.getfield 158, 3) := by decide +kernel
theorem dX5_makes_64 : decode cX5_makes 64 = .ok (.iload_n 3, 1) := by decide +kernel
theorem dX5_makes_65 : decode cX5_makes 65 = .ok (.iastore, 1) := by decide +kernel
theorem dX5_makes_66 : decode cX5_makes 66 = .ok (.aload_n 0, 1) := by decide +kernel
theorem dX5_makes_67 : decode cX5_makes 67 = .ok (.getfield 61, 3) := by decide +kernel
theorem dX5_makes_70 : decode cX5_makes 70 = .ok (.aload_n 0, 1) := by decide +kernel
theorem dX5_makes_71 : decode cX5_makes 71 = .ok (.getfield 158, 3) := by decide +kernel
theorem dX5_makes_74 : decode cX5_makes 74 = .ok (.iload 4, 2) := by decide +kernel
theorem dX5_makes_76 : decode cX5_makes 76 = .ok (.iastore, 1) := by decide +kernel
theorem dX5_makes_77 : decode cX5_makes 77 = .ok (.aload_n 0, 1) := by decide +kernel
theorem dX5_makes_78 : decode cX5_makes 78 = .ok (.getfield 70, 3) := by decide +kernel
theorem dX5_makes_81 : decode cX5_makes 81 = .ok (.aload_n 0, 1) := by decide +kernel
theorem dX5_makes_82 : decode cX5_makes 82 = .ok (.getfield 158, 3) := by decide +kernel
theorem dX5_makes_85 : decode cX5_makes 85 = .ok (.iload 4, 2) := by decide +kernel
theorem dX5_makes_87 : decode cX5_makes 87 = .ok (.aload_n 0, 1) := by decide +kernel
theorem dX5_makes_88 : decode cX5_makes 88 = .ok (.getfield 42, 3) := by decide +kernel
theorem dX5_makes_91 : decode cX5_makes 91 = .ok (.iload_n 3, 1) := by decide +kernel
theorem dX5_makes_92 : decode cX5_makes 92 = .ok (.iaload, 1) := by decide +kernel
theorem dX5_makes_93 : decode cX5_makes 93 = .ok (.iconst 1, 1) := by decide +kernel
theorem dX5_makes_94 : decode cX5_makes 94 = .ok (.isub, 1) := by decide +kernel
theorem dX5_makes_95 : decode cX5_makes 95 = .ok (.if_icmp .ne 7, 3) := by decide +kernel
theorem dX5_makes_98 : decode cX5_makes 98 = .ok (.iconst 1, 1) := by decide +kernel
theorem dX5_makes_99 : decode cX5_makes 99 = .ok (.goto 4, 3) := by decide +kernel
theorem dX5_makes_102 : decode cX5_makes 102 = .ok (.iconst 0, 1) := by decide +kernel
theorem dX5_makes_103 : decode cX5_makes 103 = .ok (.bastore, 1) := by decide +kernel
theorem dX5_makes_104 : decode cX5_makes 104 = .ok (.aload_n 0, 1) := by decide +kernel
theorem dX5_makes_105 : decode cX5_makes 105 = .ok (.getfield 67, 3) := by decide +kernel
theorem dX5_makes_108 : decode cX5_makes 108 = .ok (.aload_n 0, 1) := by decide +kernel
theorem dX5_makes_109 : decode cX5_makes 109 = .ok (.getfield 158, 3) := by decide +kernel
theorem dX5_makes_112 : decode cX5_makes 112 = .ok (.aload_n 0, 1) := by decide +kernel
theorem dX5_makes_113 : decode cX5_makes 113 = .ok (.getfield 70, 3) := by decide +kernel
theorem dX5_makes_116 : decode cX5_makes 116 = .ok (.aload_n 0, 1) := by decide +kernel
theorem dX5_makes_117 : decode cX5_makes 117 = .ok (.getfield 158, 3) := by decide +kernel
theorem dX5_makes_120 : decode cX5_makes 120 = .ok (.baload, 1) := by decide +kernel
theorem dX5_makes_121 : decode cX5_makes 121 = .ok (.ifCond .ne 14, 3) := by decide +kernel
theorem dX5_makes_124 : decode cX5_makes 124 = .ok (.iload 4, 2) := by decide +kernel
theorem dX5_makes_126 : decode cX5_makes 126 = .ok (.ifCond .gt 9, 3) := by decide +kernel
theorem dX5_makes_129 : decode cX5_makes 129 = .ok (.iload 5, 2) := by decide +kernel
theorem dX5_makes_131 : decode cX5_makes 131 = .ok (.iconst 1, 1) := by decide +kernel
theorem dX5_makes_132 : decode cX5_makes 132 = .ok (.if_icmp .le 7, 3) := by decide +kernel
theorem dX5_makes_135 : decode cX5_makes 135 = .ok (.iconst 1, 1) := by decide +kernel
theorem dX5_makes_136 : decode cX5_makes 136 = .ok (.goto 4, 3) := by decide +kernel
theorem dX5_makes_139 : decode cX5_makes 139 = .ok (.iconst 0, 1) := by decide +kernel
theorem dX5_makes_140 : decode cX5_makes 140 = .ok (.bastore, 1) := by decide +kernel
theorem dX5_makes_141 : decode cX5_makes 141 = .ok (.aload_n 0, 1) := by decide +kernel
theorem dX5_makes_142 : decode cX5_makes 142 = .ok (.getfield 64, 3) := by decide +kernel
theorem dX5_makes_145 : decode cX5_makes 145 = .ok (.aload_n 0, 1) := by decide +kernel
theorem dX5_makes_146 : decode cX5_makes 146 = .ok (.getfield 158, 3) := by decide +kernel
theorem dX5_makes_149 : decode cX5_makes 149 = .ok (.iload 5, 2) := by decide +kernel
theorem dX5_makes_151 : decode cX5_makes 151 = .ok (.iload 4, 2) := by decide +kernel
theorem dX5_makes_153 : decode cX5_makes 153 = .ok (.ifCond .ne 23, 3) := by decide +kernel
theorem dX5_makes_156 : decode cX5_makes 156 = .ok (.aload_n 0, 1) := by decide +kernel
theorem dX5_makes_157 : decode cX5_makes 157 = .ok (.getfield 33, 3) := by decide +kernel
theorem dX5_makes_160 : decode cX5_makes 160 = .ok (.bipush 12, 2) := by decide +kernel
theorem dX5_makes_162 : decode cX5_makes 162 = .ok (.iload_n 3, 1) := by decide +kernel
theorem dX5_makes_163 : decode cX5_makes 163 = .ok (.imul, 1) := by decide +kernel
theorem dX5_makes_164 : decode cX5_makes 164 = .ok (.iaload, 1) := by decide +kernel
theorem dX5_makes_165 : decode cX5_makes 165 = .ok (.iload_n 1, 1) := by decide +kernel
theorem dX5_makes_166 : decode cX5_makes 166 = .ok (.if_icmp .eq 10, 3) := by decide +kernel
theorem dX5_makes_169 : decode cX5_makes 169 = .ok (.aload_n 0, 1) := by decide +kernel
theorem dX5_makes_170 : decode cX5_makes 170 = .ok (.getfield 16, 3) := by decide +kernel
theorem dX5_makes_173 : decode cX5_makes 173 = .ok (.goto 4, 3) := by decide +kernel
theorem dX5_makes_176 : decode cX5_makes 176 = .ok (.iconst 0, 1) := by decide +kernel
theorem dX5_makes_177 : decode cX5_makes 177 = .ok (.iadd, 1) := by decide +kernel
theorem dX5_makes_178 : decode cX5_makes 178 = .ok (.iastore, 1) := by decide +kernel
theorem dX5_makes_179 : decode cX5_makes 179 = .ok (.aload_n 0, 1) := by decide +kernel
theorem dX5_makes_180 : decode cX5_makes 180 = .ok (.dup, 1) := by decide +kernel
theorem dX5_makes_181 : decode cX5_makes 181 = .ok (.getfield 158, 3) := by decide +kernel
theorem dX5_makes_184 : decode cX5_makes 184 = .ok (.iconst 1, 1) := by decide +kernel
theorem dX5_makes_185 : decode cX5_makes 185 = .ok (.iadd, 1) := by decide +kernel
theorem dX5_makes_186 : decode cX5_makes 186 = .ok (.putfield 158, 3) := by decide +kernel
theorem dX5_makes_189 : decode cX5_makes 189 = .ok (.iinc 4 1, 3) := by decide +kernel
theorem dX5_makes_192 : decode cX5_makes 192 = .ok (.goto (-161), 3) := by decide +kernel
theorem dX5_makes_195 : decode cX5_makes 195 = .ok (.aload_n 0, 1) := by decide +kernel
theorem dX5_makes_196 : decode cX5_makes 196 = .ok (.getfield 33, 3) := by decide +kernel
theorem dX5_makes_199 : decode cX5_makes 199 = .ok (.bipush 12, 2) := by decide +kernel
theorem dX5_makes_201 : decode cX5_makes 201 = .ok (.iload_n 3, 1) := by decide +kernel
theorem dX5_makes_202 : decode cX5_makes 202 = .ok (.imul, 1) := by decide +kernel
theorem dX5_makes_203 : decode cX5_makes 203 = .ok (.iaload, 1) := by decide +kernel
theorem dX5_makes_204 : decode cX5_makes 204 = .ok (.istore_n 1, 1) := by decide +kernel
theorem dX5_makes_205 : decode cX5_makes 205 = .ok (.iinc 2 1, 3) := by decide +kernel
theorem dX5_makes_208 : decode cX5_makes 208 = .ok (.goto (-195), 3) := by decide +kernel
theorem dX5_makes_211 : decode cX5_makes 211 = .ok (.return_, 1) := by decide +kernel
