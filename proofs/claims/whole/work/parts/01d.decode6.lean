theorem dX9_make_27 : decode cX9_make 27 = .ok (.iload_n 1, 1) := by decide +kernel
theorem dX9_make_28 : decode cX9_make 28 = .ok (.ifCond .eq 38, 3) := by decide +kernel
theorem dX9_make_31 : decode cX9_make 31 = .ok (.aload_n 0, 1) := by decide +kernel
theorem dX9_make_32 : decode cX9_make 32 = .ok (.aload_n 0, 1) := by decide +kernel
theorem dX9_make_33 : decode cX9_make 33 = .ok (.getfield 34, 3) := by decide +kernel
theorem dX9_make_36 : decode cX9_make 36 = .ok (.iconst 0, 1) := by decide +kernel
theorem dX9_make_37 : decode cX9_make 37 = .ok (.laload, 1) := by decide +kernel
theorem dX9_make_38 : decode cX9_make 38 = .ok (.aload_n 0, 1) := by decide +kernel
theorem dX9_make_39 : decode cX9_make 39 = .ok (.getfield 38, 3) := by decide +kernel
theorem dX9_make_42 : decode cX9_make 42 = .ok (.iconst 0, 1) := by decide +kernel
theorem dX9_make_43 : decode cX9_make 43 = .ok (.laload, 1) := by decide +kernel
theorem dX9_make_44 : decode cX9_make 44 = .ok (.invokevirtual 149, 3) := by decide +kernel
theorem dX9_make_47 : decode cX9_make 47 = .ok (.aload_n 0, 1) := by decide +kernel
theorem dX9_make_48 : decode cX9_make 48 = .ok (.aload_n 0, 1) := by decide +kernel
theorem dX9_make_49 : decode cX9_make 49 = .ok (.getfield 34, 3) := by decide +kernel
theorem dX9_make_52 : decode cX9_make 52 = .ok (.iconst 1, 1) := by decide +kernel
theorem dX9_make_53 : decode cX9_make 53 = .ok (.laload, 1) := by decide +kernel
theorem dX9_make_54 : decode cX9_make 54 = .ok (.aload_n 0, 1) := by decide +kernel
theorem dX9_make_55 : decode cX9_make 55 = .ok (.getfield 38, 3) := by decide +kernel
theorem dX9_make_58 : decode cX9_make 58 = .ok (.iconst 1, 1) := by decide +kernel
theorem dX9_make_59 : decode cX9_make 59 = .ok (.laload, 1) := by decide +kernel
theorem dX9_make_60 : decode cX9_make 60 = .ok (.invokevirtual 149, 3) := by decide +kernel
theorem dX9_make_63 : decode cX9_make 63 = .ok (.goto 7, 3) := by decide +kernel
theorem dX9_make_66 : decode cX9_make 66 = .ok (.aload_n 0, 1) := by decide +kernel
theorem dX9_make_67 : decode cX9_make 67 = .ok (.invokevirtual 153, 3) := by decide +kernel
theorem dX9_make_70 : decode cX9_make 70 = .ok (.iconst 0, 1) := by decide +kernel
theorem dX9_make_71 : decode cX9_make 71 = .ok (.istore_n 3, 1) := by decide +kernel
theorem dX9_make_72 : decode cX9_make 72 = .ok (.iload_n 3, 1) := by decide +kernel
theorem dX9_make_73 : decode cX9_make 73 = .ok (.iload_n 2, 1) := by decide +kernel
theorem dX9_make_74 : decode cX9_make 74 = .ok (.if_icmp .ge 33, 3) := by decide +kernel
theorem dX9_make_77 : decode cX9_make 77 = .ok (.aload_n 0, 1) := by decide +kernel
theorem dX9_make_78 : decode cX9_make 78 = .ok (.iload_n 3, 1) := by decide +kernel
theorem dX9_make_79 : decode cX9_make 79 = .ok (.invokevirtual 156, 3) := by decide +kernel
theorem dX9_make_82 : decode cX9_make 82 = .ok (.iload_n 1, 1) := by decide +kernel
theorem dX9_make_83 : decode cX9_make 83 = .ok (.ifCond .ne 10, 3) := by decide +kernel
theorem dX9_make_86 : decode cX9_make 86 = .ok (.iload_n 3, 1) := by decide +kernel
theorem dX9_make_87 : decode cX9_make 87 = .ok (.iconst 1, 1) := by decide +kernel
theorem dX9_make_88 : decode cX9_make 88 = .ok (.iadd, 1) := by decide +kernel
theorem dX9_make_89 : decode cX9_make 89 = .ok (.iload_n 2, 1) := by decide +kernel
theorem dX9_make_90 : decode cX9_make 90 = .ok (.if_icmp .ge 11, 3) := by decide +kernel
theorem dX9_make_93 : decode cX9_make 93 = .ok (.aload_n 0, 1) := by decide +kernel
theorem dX9_make_94 : decode cX9_make 94 = .ok (.iload_n 3, 1) := by decide +kernel
theorem dX9_make_95 : decode cX9_make 95 = .ok (.iload_n 3, 1) := by decide +kernel
theorem dX9_make_96 : decode cX9_make 96 = .ok (.iconst 1, 1) := by decide +kernel
theorem dX9_make_97 : decode cX9_make 97 = .ok (.iadd, 1) := by decide +kernel
theorem dX9_make_98 : decode cX9_make 98 = .ok (.invokevirtual 160, 3) := by decide +kernel
theorem dX9_make_101 : decode cX9_make 101 = .ok (.iinc 3 1, 3) := by decide +kernel
theorem dX9_make_104 : decode cX9_make 104 = .ok (.goto (-32), 3) := by decide +kernel
theorem dX9_make_107 : decode cX9_make 107 = .ok (.iload_n 1, 1) := by decide +kernel
theorem dX9_make_108 : decode cX9_make 108 = .ok (.ifCond .ne 10, 3) := by decide +kernel
theorem dX9_make_111 : decode cX9_make 111 = .ok (.aload_n 0, 1) := by decide +kernel
theorem dX9_make_112 : decode cX9_make 112 = .ok (.iload_n 2, 1) := by decide +kernel
theorem dX9_make_113 : decode cX9_make 113 = .ok (.iconst 1, 1) := by decide +kernel
theorem dX9_make_114 : decode cX9_make 114 = .ok (.isub, 1) := by decide +kernel
theorem dX9_make_115 : decode cX9_make 115 = .ok (.invokevirtual 164, 3) := by decide +kernel
theorem dX9_make_118 : decode cX9_make 118 = .ok (.return_, 1) := by decide +kernel
theorem dX9_meet_0 : decode cX9_meet 0 = .ok (.aload_n 0, 1) := by decide +kernel
theorem dX9_meet_1 : decode cX9_meet 1 = .ok (.iload_n 1, 1) := by decide +kernel
theorem dX9_meet_2 : decode cX9_meet 2 = .ok (.invokevirtual 109, 3) := by decide +kernel
theorem dX9_meet_5 : decode cX9_meet 5 = .ok (.aload_n 0, 1) := by decide +kernel
theorem dX9_meet_6 : decode cX9_meet 6 = .ok (.iload_n 2, 1) := by decide +kernel
theorem dX9_meet_7 : decode cX9_meet 7 = .ok (.invokevirtual 113, 3) := by decide +kernel
theorem dX9_meet_10 : decode cX9_meet 10 = .ok (.lmul, 1) := by decide +kernel
theorem dX9_meet_11 : decode cX9_meet 11 = .ok (.aload_n 0, 1) := by decide +kernel
theorem dX9_meet_12 : decode cX9_meet 12 = .ok (.iload_n 1, 1) := by decide +kernel
theorem dX9_meet_13 : decode cX9_meet 13 = .ok (.invokevirtual 113, 3) := by decide +kernel
theorem dX9_meet_16 : decode cX9_meet 16 = .ok (.aload_n 0, 1) := by decide +kernel
theorem dX9_meet_17 : decode cX9_meet 17 = .ok (.iload_n 2, 1) := by decide +kernel
theorem dX9_meet_18 : decode cX9_meet 18 = .ok (.invokevirtual 109, 3) := by decide +kernel
theorem dX9_meet_21 : decode cX9_meet 21 = .ok (.lmul, 1) := by decide +kernel
theorem dX9_meet_22 : decode cX9_meet 22 = .ok (.lsub, 1) := by decide +kernel
theorem dX9_meet_23 : decode cX9_meet 23 = .ok (.lstore_n 3, 1) := by decide +kernel
theorem dX9_meet_24 : decode cX9_meet 24 = .ok (.aload_n 0, 1) := by decide +kernel
theorem dX9_meet_25 : decode cX9_meet 25 = .ok (.getfield 102, 3) := by decide +kernel
theorem dX9_meet_28 : decode cX9_meet 28 = .ok (.ifCond .ne 9, 3) := by decide +kernel
theorem dX9_meet_31 : decode cX9_meet 31 = .ok (.lload_n 3, 1) := by decide +kernel
theorem dX9_meet_32 : decode cX9_meet 32 = .ok (.lconst 0, 1) := by decide +kernel
theorem dX9_meet_33 : decode cX9_meet 33 = .ok (.lcmp, 1) := by decide +kernel
theorem dX9_meet_34 : decode cX9_meet 34 = .ok (.ifCond .ne 4, 3) := by decide +kernel
theorem dX9_meet_37 : decode cX9_meet 37 = .ok (.return_, 1) := by decide +kernel
theorem dX9_meet_38 : decode cX9_meet 38 = .ok (.lload_n 3, 1) := by decide +kernel
theorem dX9_meet_39 : decode cX9_meet 39 = .ok (.lconst 0, 1) := by decide +kernel
theorem dX9_meet_40 : decode cX9_meet 40 = .ok (.lcmp, 1) := by decide +kernel
theorem dX9_meet_41 : decode cX9_meet 41 = .ok (.ifCond .le 9, 3) := by decide +kernel
theorem dX9_meet_44 : decode cX9_meet 44 = .ok (.ldc2_w 140, 3) := by decide +kernel
theorem dX9_meet_47 : decode cX9_meet 47 = .ok (.goto 4, 3) := by decide +kernel
theorem dX9_meet_50 : decode cX9_meet 50 = .ok (.lconst 1, 1) := by decide +kernel
theorem dX9_meet_51 : decode cX9_meet 51 = .ok (.lstore 5, 2) := by decide +kernel
theorem dX9_meet_53 : decode cX9_meet 53 = .ok (.aload_n 0, 1) := by decide +kernel
theorem dX9_meet_54 : decode cX9_meet 54 = .ok (.iload_n 1, 1) := by decide +kernel
theorem dX9_meet_55 : decode cX9_meet 55 = .ok (.iconst 0, 1) := by decide +kernel
theorem dX9_meet_56 : decode cX9_meet 56 = .ok (.invokevirtual 126, 3) := by decide +kernel
theorem dX9_meet_59 : decode cX9_meet 59 = .ok (.lstore 7, 2) := by decide +kernel
theorem dX9_meet_61 : decode cX9_meet 61 = .ok (.aload_n 0, 1) := by decide +kernel
theorem dX9_meet_62 : decode cX9_meet 62 = .ok (.iload_n 1, 1) := by decide +kernel
theorem dX9_meet_63 : decode cX9_meet 63 = .ok (.iconst 1, 1) := by decide +kernel
theorem dX9_meet_64 : decode cX9_meet 64 = .ok (.invokevirtual 126, 3) := by decide +kernel
theorem dX9_meet_67 : decode cX9_meet 67 = .ok (.lstore 9, 2) := by decide +kernel
theorem dX9_meet_69 : decode cX9_meet 69 = .ok (.aload_n 0, 1) := by decide +kernel
theorem dX9_meet_70 : decode cX9_meet 70 = .ok (.iload_n 2, 1) := by decide +kernel
theorem dX9_meet_71 : decode cX9_meet 71 = .ok (.iconst 0, 1) := by decide +kernel
theorem dX9_meet_72 : decode cX9_meet 72 = .ok (.invokevirtual 126, 3) := by decide +kernel
theorem dX9_meet_75 : decode cX9_meet 75 = .ok (.lstore 11, 2) := by decide +kernel
theorem dX9_meet_77 : decode cX9_meet 77 = .ok (.aload_n 0, 1) := by decide +kernel
theorem dX9_meet_78 : decode cX9_meet 78 = .ok (.iload_n 2, 1) := by decide +kernel
theorem dX9_meet_79 : decode cX9_meet 79 = .ok (.iconst 1, 1) := by decide +kernel
theorem dX9_meet_80 : decode cX9_meet 80 = .ok (.invokevirtual 126, 3) := by decide +kernel
theorem dX9_meet_83 : decode cX9_meet 83 = .ok (.lstore 13, 2) := by decide +kernel
theorem dX9_meet_85 : decode cX9_meet 85 = .ok (.lload 7, 2) := by decide +kernel
theorem dX9_meet_87 : decode cX9_meet 87 = .ok (.lload 11, 2) := by decide +kernel
theorem dX9_meet_89 : decode cX9_meet 89 = .ok (.lmul, 1) := by decide +kernel
theorem dX9_meet_90 : decode cX9_meet 90 = .ok (.lload 9, 2) := by decide +kernel
theorem dX9_meet_92 : decode cX9_meet 92 = .ok (.lload 13, 2) := by decide +kernel
theorem dX9_meet_94 : decode cX9_meet 94 = .ok (.lmul, 1) := by decide +kernel
theorem dX9_meet_95 : decode cX9_meet 95 = .ok (.ladd, 1) := by decide +kernel
theorem dX9_meet_96 : decode cX9_meet 96 = .ok (.lstore 15, 2) := by decide +kernel
theorem dX9_meet_98 : decode cX9_meet 98 = .ok (.aload_n 0, 1) := by decide +kernel
theorem dX9_meet_99 : decode cX9_meet 99 = .ok (.getfield 21, 3) := by decide +kernel
theorem dX9_meet_102 : decode cX9_meet 102 = .ok (.i2l, 1) := by decide +kernel
theorem dX9_meet_103 : decode cX9_meet 103 = .ok (.aload_n 0, 1) := by decide +kernel
theorem dX9_meet_104 : decode cX9_meet 104 = .ok (.getfield 21, 3) := by decide +kernel
theorem dX9_meet_107 : decode cX9_meet 107 = .ok (.i2l, 1) := by decide +kernel
theorem dX9_meet_108 : decode cX9_meet 108 = .ok (.lmul, 1) := by decide +kernel
theorem dX9_meet_109 : decode cX9_meet 109 = .ok (.lstore 17, 2) := by decide +kernel
theorem dX9_meet_111 : decode cX9_meet 111 = .ok (.aload_n 0, 1) := by decide +kernel
theorem dX9_meet_112 : decode cX9_meet 112 = .ok (.getfield 83, 3) := by decide +kernel
theorem dX9_meet_115 : decode cX9_meet 115 = .ok (.ifCond .ne 37, 3) := by decide +kernel
theorem dX9_meet_118 : decode cX9_meet 118 = .ok (.lload 15, 2) := by decide +kernel
theorem dX9_meet_120 : decode cX9_meet 120 = .ok (.ldc2_w 142, 3) := by decide +kernel
theorem dX9_meet_123 : decode cX9_meet 123 = .ok (.lmul, 1) := by decide +kernel
theorem dX9_meet_124 : decode cX9_meet 124 = .ok (.ldc2_w 144, 3) := by decide +kernel
theorem dX9_meet_127 : decode cX9_meet 127 = .ok (.aload_n 0, 1) := by decide +kernel
theorem dX9_meet_128 : decode cX9_meet 128 = .ok (.getfield 27, 3) := by decide +kernel
theorem dX9_meet_131 : decode cX9_meet 131 = .ok (.aload_n 0, 1) := by decide +kernel
theorem dX9_meet_132 : decode cX9_meet 132 = .ok (.getfield 27, 3) := by decide +kernel
theorem dX9_meet_135 : decode cX9_meet 135 = .ok (.lmul, 1) := by decide +kernel
theorem dX9_meet_136 : decode cX9_meet 136 = .ok (.ldiv, 1) := by decide +kernel
theorem dX9_meet_137 : decode cX9_meet 137 = .ok (.ldc2_w 142, 3) := by decide +kernel
theorem dX9_meet_140 : decode cX9_meet 140 = .ok (.lsub, 1) := by decide +kernel
theorem dX9_meet_141 : decode cX9_meet 141 = .ok (.lload 17, 2) := by decide +kernel
theorem dX9_meet_143 : decode cX9_meet 143 = .ok (.lmul, 1) := by decide +kernel
theorem dX9_meet_144 : decode cX9_meet 144 = .ok (.lcmp, 1) := by decide +kernel
theorem dX9_meet_145 : decode cX9_meet 145 = .ok (.ifCond .lt 7, 3) := by decide +kernel
theorem dX9_meet_148 : decode cX9_meet 148 = .ok (.iconst 1, 1) := by decide +kernel
theorem dX9_meet_149 : decode cX9_meet 149 = .ok (.goto 4, 3) := by decide +kernel
theorem dX9_meet_152 : decode cX9_meet 152 = .ok (.iconst 0, 1) := by decide +kernel
theorem dX9_meet_153 : decode cX9_meet 153 = .ok (.istore 19, 2) := by decide +kernel
theorem dX9_meet_155 : decode cX9_meet 155 = .ok (.aload_n 0, 1) := by decide +kernel
theorem dX9_meet_156 : decode cX9_meet 156 = .ok (.iload 19, 2) := by decide +kernel
theorem dX9_meet_158 : decode cX9_meet 158 = .ok (.ifCond .eq 7, 3) := by decide +kernel
theorem dX9_meet_161 : decode cX9_meet 161 = .ok (.iconst 2, 1) := by decide +kernel
theorem dX9_meet_162 : decode cX9_meet 162 = .ok (.goto 4, 3) := by decide +kernel
theorem dX9_meet_165 : decode cX9_meet 165 = .ok (.iconst 1, 1) := by decide +kernel
theorem dX9_meet_166 : decode cX9_meet 166 = .ok (.invokevirtual 122, 3) := by decide +kernel
theorem dX9_meet_169 : decode cX9_meet 169 = .ok (.ifCond .ne 4, 3) := by decide +kernel
theorem dX9_meet_172 : decode cX9_meet 172 = .ok (.return_, 1) := by decide +kernel
theorem dX9_meet_173 : decode cX9_meet 173 = .ok (.aload_n 0, 1) := by decide +kernel
theorem dX9_meet_174 : decode cX9_meet 174 = .ok (.getfield 34, 3) := by decide +kernel
theorem dX9_meet_177 : decode cX9_meet 177 = .ok (.iload_n 1, 1) := by decide +kernel
theorem dX9_meet_178 : decode cX9_meet 178 = .ok (.iconst 1, 1) := by decide +kernel
theorem dX9_meet_179 : decode cX9_meet 179 = .ok (.iadd, 1) := by decide +kernel
theorem dX9_meet_180 : decode cX9_meet 180 = .ok (.laload, 1) := by decide +kernel
theorem dX9_meet_181 : decode cX9_meet 181 = .ok (.lstore 20, 2) := by decide +kernel
theorem dX9_meet_183 : decode cX9_meet 183 = .ok (.aload_n 0, 1) := by decide +kernel
theorem dX9_meet_184 : decode cX9_meet 184 = .ok (.getfield 38, 3) := by decide +kernel
theorem dX9_meet_187 : decode cX9_meet 187 = .ok (.iload_n 1, 1) := by decide +kernel
theorem dX9_meet_188 : decode cX9_meet 188 = .ok (.iconst 1, 1) := by decide +kernel
theorem dX9_meet_189 : decode cX9_meet 189 = .ok (.iadd, 1) := by decide +kernel
theorem dX9_meet_190 : decode cX9_meet 190 = .ok (.laload, 1) := by decide +kernel
theorem dX9_meet_191 : decode cX9_meet 191 = .ok (.lstore 22, 2) := by decide +kernel
theorem dX9_meet_193 : decode cX9_meet 193 = .ok (.aload_n 0, 1) := by decide +kernel
theorem dX9_meet_194 : decode cX9_meet 194 = .ok (.iconst 0, 1) := by decide +kernel
theorem dX9_meet_195 : decode cX9_meet 195 = .ok (.lload 20, 2) := by decide +kernel
theorem dX9_meet_197 : decode cX9_meet 197 = .ok (.lload 22, 2) := by decide +kernel
theorem dX9_meet_199 : decode cX9_meet 199 = .ok (.invokevirtual 130, 3) := by decide +kernel
theorem dX9_meet_202 : decode cX9_meet 202 = .ok (.aload_n 0, 1) := by decide +kernel
theorem dX9_meet_203 : decode cX9_meet 203 = .ok (.iconst 1, 1) := by decide +kernel
theorem dX9_meet_204 : decode cX9_meet 204 = .ok (.lload 20, 2) := by decide +kernel
theorem dX9_meet_206 : decode cX9_meet 206 = .ok (.lload 5, 2) := by decide +kernel
theorem dX9_meet_208 : decode cX9_meet 208 = .ok (.lload 7, 2) := by decide +kernel
theorem dX9_meet_210 : decode cX9_meet 210 = .ok (.lmul, 1) := by decide +kernel
theorem dX9_meet_211 : decode cX9_meet 211 = .ok (.ladd, 1) := by decide +kernel
theorem dX9_meet_212 : decode cX9_meet 212 = .ok (.lload 22, 2) := by decide +kernel
theorem dX9_meet_214 : decode cX9_meet 214 = .ok (.lload 5, 2) := by decide +kernel
theorem dX9_meet_216 : decode cX9_meet 216 = .ok (.lload 9, 2) := by decide +kernel
theorem dX9_meet_218 : decode cX9_meet 218 = .ok (.lmul, 1) := by decide +kernel
theorem dX9_meet_219 : decode cX9_meet 219 = .ok (.ladd, 1) := by decide +kernel
theorem dX9_meet_220 : decode cX9_meet 220 = .ok (.invokevirtual 130, 3) := by decide +kernel
theorem dX9_meet_223 : decode cX9_meet 223 = .ok (.iload 19, 2) := by decide +kernel
theorem dX9_meet_225 : decode cX9_meet 225 = .ok (.ifCond .eq 64, 3) := by decide +kernel
theorem dX9_meet_228 : decode cX9_meet 228 = .ok (.lload 17, 2) := by decide +kernel
theorem dX9_meet_230 : decode cX9_meet 230 = .ok (.ldc2_w 142, 3) := by decide +kernel
theorem dX9_meet_233 : decode cX9_meet 233 = .ok (.lmul, 1) := by decide +kernel
theorem dX9_meet_234 : decode cX9_meet 234 = .ok (.lload 17, 2) := by decide +kernel
theorem dX9_meet_236 : decode cX9_meet 236 = .ok (.lload 15, 2) := by decide +kernel
theorem dX9_meet_238 : decode cX9_meet 238 = .ok (.ladd, 1) := by decide +kernel
theorem dX9_meet_239 : decode cX9_meet 239 = .ok (.invokestatic 119, 3) := by decide +kernel
theorem dX9_meet_242 : decode cX9_meet 242 = .ok (.lstore 24, 2) := by decide +kernel
theorem dX9_meet_244 : decode cX9_meet 244 = .ok (.aload_n 0, 1) := by decide +kernel
theorem dX9_meet_245 : decode cX9_meet 245 = .ok (.iconst 2, 1) := by decide +kernel
theorem dX9_meet_246 : decode cX9_meet 246 = .ok (.lload 20, 2) := by decide +kernel
theorem dX9_meet_248 : decode cX9_meet 248 = .ok (.lload 5, 2) := by decide +kernel
theorem dX9_meet_250 : decode cX9_meet 250 = .ok (.lload 7, 2) := by decide +kernel
theorem dX9_meet_252 : decode cX9_meet 252 = .ok (.lload 11, 2) := by decide +kernel
theorem dX9_meet_254 : decode cX9_meet 254 = .ok (.ladd, 1) := by decide +kernel
theorem dX9_meet_255 : decode cX9_meet 255 = .ok (.lload 24, 2) := by decide +kernel
theorem dX9_meet_257 : decode cX9_meet 257 = .ok (.lmul, 1) := by decide +kernel
theorem dX9_meet_258 : decode cX9_meet 258 = .ok (.ldc2_w 142, 3) := by decide +kernel
theorem dX9_meet_261 : decode cX9_meet 261 = .ok (.invokestatic 119, 3) := by decide +kernel
theorem dX9_meet_264 : decode cX9_meet 264 = .ok (.lmul, 1) := by decide +kernel
theorem dX9_meet_265 : decode cX9_meet 265 = .ok (.ladd, 1) := by decide +kernel
theorem dX9_meet_266 : decode cX9_meet 266 = .ok (.lload 22, 2) := by decide +kernel
theorem dX9_meet_268 : decode cX9_meet 268 = .ok (.lload 5, 2) := by decide +kernel
theorem dX9_meet_270 : decode cX9_meet 270 = .ok (.lload 9, 2) := by decide +kernel
theorem dX9_meet_272 : decode cX9_meet 272 = .ok (.lload 13, 2) := by decide +kernel
theorem dX9_meet_274 : decode cX9_meet 274 = .ok (.ladd, 1) := by decide +kernel
theorem dX9_meet_275 : decode cX9_meet 275 = .ok (.lload 24, 2) := by decide +kernel
theorem dX9_meet_277 : decode cX9_meet 277 = .ok (.lmul, 1) := by decide +kernel
theorem dX9_meet_278 : decode cX9_meet 278 = .ok (.ldc2_w 142, 3) := by decide +kernel
theorem dX9_meet_281 : decode cX9_meet 281 = .ok (.invokestatic 119, 3) := by decide +kernel
theorem dX9_meet_284 : decode cX9_meet 284 = .ok (.lmul, 1) := by decide +kernel
theorem dX9_meet_285 : decode cX9_meet 285 = .ok (.ladd, 1) := by decide +kernel
theorem dX9_meet_286 : decode cX9_meet 286 = .ok (.invokevirtual 130, 3) := by decide +kernel
theorem dX9_meet_289 : decode cX9_meet 289 = .ok (.aload_n 0, 1) := by decide +kernel
theorem dX9_meet_290 : decode cX9_meet 290 = .ok (.iload 19, 2) := by decide +kernel
theorem dX9_meet_292 : decode cX9_meet 292 = .ok (.ifCond .eq 7, 3) := by decide +kernel
theorem dX9_meet_295 : decode cX9_meet 295 = .ok (.iconst 3, 1) := by decide +kernel
theorem dX9_meet_296 : decode cX9_meet 296 = .ok (.goto 4, 3) := by decide +kernel
theorem dX9_meet_299 : decode cX9_meet 299 = .ok (.iconst 2, 1) := by decide +kernel
theorem dX9_meet_300 : decode cX9_meet 300 = .ok (.lload 20, 2) := by decide +kernel
theorem dX9_meet_302 : decode cX9_meet 302 = .ok (.lload 5, 2) := by decide +kernel
theorem dX9_meet_304 : decode cX9_meet 304 = .ok (.lload 11, 2) := by decide +kernel
theorem dX9_meet_306 : decode cX9_meet 306 = .ok (.lmul, 1) := by decide +kernel
theorem dX9_meet_307 : decode cX9_meet 307 = .ok (.ladd, 1) := by decide +kernel
theorem dX9_meet_308 : decode cX9_meet 308 = .ok (.lload 22, 2) := by decide +kernel
theorem dX9_meet_310 : decode cX9_meet 310 = .ok (.lload 5, 2) := by decide +kernel
theorem dX9_meet_312 : decode cX9_meet 312 = .ok (.lload 13, 2) := by decide +kernel
theorem dX9_meet_314 : decode cX9_meet 314 = .ok (.lmul, 1) := by decide +kernel
theorem dX9_meet_315 : decode cX9_meet 315 = .ok (.ladd, 1) := by decide +kernel
theorem dX9_meet_316 : decode cX9_meet 316 = .ok (.invokevirtual 130, 3) := by decide +kernel
theorem dX9_meet_319 : decode cX9_meet 319 = .ok (.aload_n 0, 1) := by decide +kernel
theorem dX9_meet_320 : decode cX9_meet 320 = .ok (.invokevirtual 134, 3) := by decide +kernel
theorem dX9_meet_323 : decode cX9_meet 323 = .ok (.return_, 1) := by decide +kernel
theorem dX9_move_0 : decode cX9_move 0 = .ok (.iload_n 1, 1) := by decide +kernel
theorem dX9_move_1 : decode cX9_move 1 = .ok (.i2l, 1) := by decide +kernel
theorem dX9_move_2 : decode cX9_move 2 = .ok (.invokestatic 63, 3) := by decide +kernel
theorem dX9_move_5 : decode cX9_move 5 = .ok (.ifCond .ne 11, 3) := by decide +kernel
theorem dX9_move_8 : decode cX9_move 8 = .ok (.iload_n 2, 1) := by decide +kernel
theorem dX9_move_9 : decode cX9_move 9 = .ok (.i2l, 1) := by decide +kernel
theorem dX9_move_10 : decode cX9_move 10 = .ok (.invokestatic 63, 3) := by decide +kernel
theorem dX9_move_13 : decode cX9_move 13 = .ok (.ifCond .eq 6, 3) := by decide +kernel
theorem dX9_move_16 : decode cX9_move 16 = .ok (.bipush (-4), 2) := by decide +kernel
theorem dX9_move_18 : decode cX9_move 18 = .ok (.ireturn, 1) := by decide +kernel
theorem dX9_move_19 : decode cX9_move 19 = .ok (.aload_n 0, 1) := by decide +kernel
theorem dX9_move_20 : decode cX9_move 20 = .ok (.iload_n 1, 1) := by decide +kernel
theorem dX9_move_21 : decode cX9_move 21 = .ok (.iload_n 2, 1) := by decide +kernel
theorem dX9_move_22 : decode cX9_move 22 = .ok (.iconst 1, 1) := by decide +kernel
theorem dX9_move_23 : decode cX9_move 23 = .ok (.invokevirtual 67, 3) := by decide +kernel
theorem dX9_move_26 : decode cX9_move 26 = .ok (.istore_n 3, 1) := by decide +kernel
theorem dX9_move_27 : decode cX9_move 27 = .ok (.iload_n 3, 1) := by decide +kernel
theorem dX9_move_28 : decode cX9_move 28 = .ok (.ifCond .le 13, 3) := by decide +kernel
theorem dX9_move_31 : decode cX9_move 31 = .ok (.aload_n 0, 1) := by decide +kernel
theorem dX9_move_32 : decode cX9_move 32 = .ok (.aload_n 0, 1) := by decide +kernel
theorem dX9_move_33 : decode cX9_move 33 = .ok (.getfield 60, 3) := by decide +kernel
theorem dX9_move_36 : decode cX9_move 36 = .ok (.iconst 1, 1) := by decide +kernel
theorem dX9_move_37 : decode cX9_move 37 = .ok (.isub, 1) := by decide +kernel
theorem dX9_move_38 : decode cX9_move 38 = .ok (.putfield 71, 3) := by decide +kernel
theorem dX9_move_41 : decode cX9_move 41 = .ok (.iload_n 3, 1) := by decide +kernel
theorem dX9_move_42 : decode cX9_move 42 = .ok (.ireturn, 1) := by decide +kernel
theorem dX9_next_0 : decode cX9_next 0 = .ok (.aload_n 0, 1) := by decide +kernel
theorem dX9_next_1 : decode cX9_next 1 = .ok (.aload_n 0, 1) := by decide +kernel
theorem dX9_next_2 : decode cX9_next 2 = .ok (.getfield 167, 3) := by decide +kernel
theorem dX9_next_5 : decode cX9_next 5 = .ok (.iconst 1, 1) := by decide +kernel
theorem dX9_next_6 : decode cX9_next 6 = .ok (.iadd, 1) := by decide +kernel
theorem dX9_next_7 : decode cX9_next 7 = .ok (.aload_n 0, 1) := by decide +kernel
theorem dX9_next_8 : decode cX9_next 8 = .ok (.getfield 86, 3) := by decide +kernel
theorem dX9_next_11 : decode cX9_next 11 = .ok (.if_icmp .ne 7, 3) := by decide +kernel
theorem dX9_next_14 : decode cX9_next 14 = .ok (.iconst 0, 1) := by decide +kernel
theorem dX9_next_15 : decode cX9_next 15 = .ok (.goto 9, 3) := by decide +kernel
theorem dX9_next_18 : decode cX9_next 18 = .ok (.aload_n 0, 1) := by decide +kernel
theorem dX9_next_19 : decode cX9_next 19 = .ok (.getfield 167, 3) := by decide +kernel
theorem dX9_next_22 : decode cX9_next 22 = .ok (.iconst 1, 1) := by decide +kernel
theorem dX9_next_23 : decode cX9_next 23 = .ok (.iadd, 1) := by decide +kernel
theorem dX9_next_24 : decode cX9_next 24 = .ok (.putfield 167, 3) := by decide +kernel
theorem dX9_next_27 : decode cX9_next 27 = .ok (.aload_n 0, 1) := by decide +kernel
theorem dX9_next_28 : decode cX9_next 28 = .ok (.aload_n 0, 1) := by decide +kernel
theorem dX9_next_29 : decode cX9_next 29 = .ok (.getfield 170, 3) := by decide +kernel
theorem dX9_next_32 : decode cX9_next 32 = .ok (.ifCond .ne 7, 3) := by decide +kernel
theorem dX9_next_35 : decode cX9_next 35 = .ok (.iconst 1, 1) := by decide +kernel
theorem dX9_next_36 : decode cX9_next 36 = .ok (.goto 4, 3) := by decide +kernel
theorem dX9_next_39 : decode cX9_next 39 = .ok (.iconst 0, 1) := by decide +kernel
theorem dX9_next_40 : decode cX9_next 40 = .ok (.putfield 170, 3) := by decide +kernel
theorem dX9_next_43 : decode cX9_next 43 = .ok (.aload_n 0, 1) := by decide +kernel
theorem dX9_next_44 : decode cX9_next 44 = .ok (.aload_n 0, 1) := by decide +kernel
theorem dX9_next_45 : decode cX9_next 45 = .ok (.getfield 53, 3) := by decide +kernel
theorem dX9_next_48 : decode cX9_next 48 = .ok (.aload_n 0, 1) := by decide +kernel
theorem dX9_next_49 : decode cX9_next 49 = .ok (.getfield 167, 3) := by decide +kernel
theorem dX9_next_52 : decode cX9_next 52 = .ok (.iaload, 1) := by decide +kernel
theorem dX9_next_53 : decode cX9_next 53 = .ok (.i2l, 1) := by decide +kernel
theorem dX9_next_54 : decode cX9_next 54 = .ok (.putfield 174, 3) := by decide +kernel
theorem dX9_next_57 : decode cX9_next 57 = .ok (.return_, 1) := by decide +kernel
theorem dX9_pass_0 : decode cX9_pass 0 = .ok (.aload_n 0, 1) := by decide +kernel
theorem dX9_pass_1 : decode cX9_pass 1 = .ok (.getfield 146, 3) := by decide +kernel
theorem dX9_pass_4 : decode cX9_pass 4 = .ok (.ifCond .eq 35, 3) := by decide +kernel
theorem dX9_pass_7 : decode cX9_pass 7 = .ok (.aload_n 0, 1) := by decide +kernel
theorem dX9_pass_8 : decode cX9_pass 8 = .ok (.getfield 34, 3) := by decide +kernel
theorem dX9_pass_11 : decode cX9_pass 11 = .ok (.aload_n 0, 1) := by decide +kernel
theorem dX9_pass_12 : decode cX9_pass 12 = .ok (.getfield 146, 3) := by decide +kernel
theorem dX9_pass_15 : decode cX9_pass 15 = .ok (.iconst 1, 1) := by decide +kernel
theorem dX9_pass_16 : decode cX9_pass 16 = .ok (.isub, 1) := by decide +kernel
theorem dX9_pass_17 : decode cX9_pass 17 = .ok (.laload, 1) := by decide +kernel
theorem dX9_pass_18 : decode cX9_pass 18 = .ok (.lload_n 1, 1) := by decide +kernel
theorem dX9_pass_19 : decode cX9_pass 19 = .ok (.lcmp, 1) := by decide +kernel
theorem dX9_pass_20 : decode cX9_pass 20 = .ok (.ifCond .ne 19, 3) := by decide +kernel
theorem dX9_pass_23 : decode cX9_pass 23 = .ok (.aload_n 0, 1) := by decide +kernel
theorem dX9_pass_24 : decode cX9_pass 24 = .ok (.getfield 38, 3) := by decide +kernel
theorem dX9_pass_27 : decode cX9_pass 27 = .ok (.aload_n 0, 1) := by decide +kernel
theorem dX9_pass_28 : decode cX9_pass 28 = .ok (.getfield 146, 3) := by decide +kernel
theorem dX9_pass_31 : decode cX9_pass 31 = .ok (.iconst 1, 1) := by decide +kernel
theorem dX9_pass_32 : decode cX9_pass 32 = .ok (.isub, 1) := by decide +kernel
theorem dX9_pass_33 : decode cX9_pass 33 = .ok (.laload, 1) := by decide +kernel
theorem dX9_pass_34 : decode cX9_pass 34 = .ok (.lload_n 3, 1) := by decide +kernel
theorem dX9_pass_35 : decode cX9_pass 35 = .ok (.lcmp, 1) := by decide +kernel
theorem dX9_pass_36 : decode cX9_pass 36 = .ok (.ifCond .eq 9, 3) := by decide +kernel
theorem dX9_pass_39 : decode cX9_pass 39 = .ok (.aload_n 0, 1) := by decide +kernel
theorem dX9_pass_40 : decode cX9_pass 40 = .ok (.lload_n 1, 1) := by decide +kernel
theorem dX9_pass_41 : decode cX9_pass 41 = .ok (.lload_n 3, 1) := by decide +kernel
theorem dX9_pass_42 : decode cX9_pass 42 = .ok (.invokevirtual 149, 3) := by decide +kernel
theorem dX9_pass_45 : decode cX9_pass 45 = .ok (.return_, 1) := by decide +kernel
theorem dX9_pen_0 : decode cX9_pen 0 = .ok (.iload_n 1, 1) := by decide +kernel
theorem dX9_pen_1 : decode cX9_pen 1 = .ok (.iconst 1, 1) := by decide +kernel
theorem dX9_pen_2 : decode cX9_pen 2 = .ok (.if_icmp .lt 41, 3) := by decide +kernel
theorem dX9_pen_5 : decode cX9_pen 5 = .ok (.iload_n 1, 1) := by decide +kernel
theorem dX9_pen_6 : decode cX9_pen 6 = .ok (.ldc 77, 2) := by decide +kernel
theorem dX9_pen_8 : decode cX9_pen 8 = .ok (.if_icmp .gt 35, 3) := by decide +kernel
theorem dX9_pen_11 : decode cX9_pen 11 = .ok (.iload_n 2, 1) := by decide +kernel
theorem dX9_pen_12 : decode cX9_pen 12 = .ok (.ifCond .lt 31, 3) := by decide +kernel
theorem dX9_pen_15 : decode cX9_pen 15 = .ok (.iload_n 2, 1) := by decide +kernel
theorem dX9_pen_16 : decode cX9_pen 16 = .ok (.iconst 1, 1) := by decide +kernel
theorem dX9_pen_17 : decode cX9_pen 17 = .ok (.if_icmp .gt 26, 3) := by decide +kernel
theorem dX9_pen_20 : decode cX9_pen 20 = .ok (.iload_n 3, 1) := by decide +kernel
theorem dX9_pen_21 : decode cX9_pen 21 = .ok (.ifCond .lt 22, 3) := by decide +kernel
theorem dX9_pen_24 : decode cX9_pen 24 = .ok (.iload_n 3, 1) := by decide +kernel
theorem dX9_pen_25 : decode cX9_pen 25 = .ok (.iconst 1, 1) := by decide +kernel
theorem dX9_pen_26 : decode cX9_pen 26 = .ok (.if_icmp .gt 17, 3) := by decide +kernel
theorem dX9_pen_29 : decode cX9_pen 29 = .ok (.iload 4, 2) := by decide +kernel
theorem dX9_pen_31 : decode cX9_pen 31 = .ok (.ldc 78, 2) := by decide +kernel
theorem dX9_pen_33 : decode cX9_pen 33 = .ok (.if_icmp .lt 10, 3) := by decide +kernel
theorem dX9_pen_36 : decode cX9_pen 36 = .ok (.iload 4, 2) := by decide +kernel
theorem dX9_pen_38 : decode cX9_pen 38 = .ok (.ldc 79, 2) := by decide +kernel
theorem dX9_pen_40 : decode cX9_pen 40 = .ok (.if_icmp .le 5, 3) := by decide +kernel
theorem dX9_pen_43 : decode cX9_pen 43 = .ok (.iconst 0, 1) := by decide +kernel
theorem dX9_pen_44 : decode cX9_pen 44 = .ok (.ireturn, 1) := by decide +kernel
theorem dX9_pen_45 : decode cX9_pen 45 = .ok (.aload_n 0, 1) := by decide +kernel
theorem dX9_pen_46 : decode cX9_pen 46 = .ok (.iload_n 1, 1) := by decide +kernel
theorem dX9_pen_47 : decode cX9_pen 47 = .ok (.putfield 21, 3) := by decide +kernel
theorem dX9_pen_50 : decode cX9_pen 50 = .ok (.aload_n 0, 1) := by decide +kernel
theorem dX9_pen_51 : decode cX9_pen 51 = .ok (.iload_n 2, 1) := by decide +kernel
theorem dX9_pen_52 : decode cX9_pen 52 = .ok (.putfield 80, 3) := by decide +kernel
theorem dX9_pen_55 : decode cX9_pen 55 = .ok (.aload_n 0, 1) := by decide +kernel
theorem dX9_pen_56 : decode cX9_pen 56 = .ok (.iload_n 3, 1) := by decide +kernel
theorem dX9_pen_57 : decode cX9_pen 57 = .ok (.putfield 83, 3) := by decide +kernel
theorem dX9_pen_60 : decode cX9_pen 60 = .ok (.aload_n 0, 1) := by decide +kernel
theorem dX9_pen_61 : decode cX9_pen 61 = .ok (.iload 4, 2) := by decide +kernel
theorem dX9_pen_63 : decode cX9_pen 63 = .ok (.i2l, 1) := by decide +kernel
theorem dX9_pen_64 : decode cX9_pen 64 = .ok (.putfield 27, 3) := by decide +kernel
theorem dX9_pen_67 : decode cX9_pen 67 = .ok (.iconst 1, 1) := by decide +kernel
theorem dX9_pen_68 : decode cX9_pen 68 = .ok (.ireturn, 1) := by decide +kernel
theorem dX9_pieces_0 : decode cX9_pieces 0 = .ok (.aload_n 0, 1) := by decide +kernel
theorem dX9_pieces_1 : decode cX9_pieces 1 = .ok (.getfield 74, 3) := by decide +kernel
theorem dX9_pieces_4 : decode cX9_pieces 4 = .ok (.ireturn, 1) := by decide +kernel
theorem dX9_put_0 : decode cX9_put 0 = .ok (.aload_n 0, 1) := by decide +kernel
theorem dX9_put_1 : decode cX9_put 1 = .ok (.getfield 60, 3) := by decide +kernel
theorem dX9_put_4 : decode cX9_put 4 = .ok (.sipush 2000, 3) := by decide +kernel
theorem dX9_put_7 : decode cX9_put 7 = .ok (.if_icmp .ne 6, 3) := by decide +kernel
theorem dX9_put_10 : decode cX9_put 10 = .ok (.bipush (-3), 2) := by decide +kernel
theorem dX9_put_12 : decode cX9_put 12 = .ok (.ireturn, 1) := by decide +kernel
theorem dX9_put_13 : decode cX9_put 13 = .ok (.aload_n 0, 1) := by decide +kernel
theorem dX9_put_14 : decode cX9_put 14 = .ok (.getfield 7, 3) := by decide +kernel
theorem dX9_put_17 : decode cX9_put 17 = .ok (.aload_n 0, 1) := by decide +kernel
theorem dX9_put_18 : decode cX9_put 18 = .ok (.getfield 60, 3) := by decide +kernel
theorem dX9_put_21 : decode cX9_put 21 = .ok (.iload_n 1, 1) := by decide +kernel
theorem dX9_put_22 : decode cX9_put 22 = .ok (.iastore, 1) := by decide +kernel
theorem dX9_put_23 : decode cX9_put 23 = .ok (.aload_n 0, 1) := by decide +kernel
theorem dX9_put_24 : decode cX9_put 24 = .ok (.getfield 13, 3) := by decide +kernel
theorem dX9_put_27 : decode cX9_put 27 = .ok (.aload_n 0, 1) := by decide +kernel
theorem dX9_put_28 : decode cX9_put 28 = .ok (.getfield 60, 3) := by decide +kernel
theorem dX9_put_31 : decode cX9_put 31 = .ok (.iload_n 2, 1) := by decide +kernel
theorem dX9_put_32 : decode cX9_put 32 = .ok (.iastore, 1) := by decide +kernel
theorem dX9_put_33 : decode cX9_put 33 = .ok (.aload_n 0, 1) := by decide +kernel
theorem dX9_put_34 : decode cX9_put 34 = .ok (.getfield 16, 3) := by decide +kernel
theorem dX9_put_37 : decode cX9_put 37 = .ok (.aload_n 0, 1) := by decide +kernel
theorem dX9_put_38 : decode cX9_put 38 = .ok (.getfield 60, 3) := by decide +kernel
theorem dX9_put_41 : decode cX9_put 41 = .ok (.iload_n 3, 1) := by decide +kernel
theorem dX9_put_42 : decode cX9_put 42 = .ok (.i2b, 1) := by decide +kernel
theorem dX9_put_43 : decode cX9_put 43 = .ok (.bastore, 1) := by decide +kernel
theorem dX9_put_44 : decode cX9_put 44 = .ok (.aload_n 0, 1) := by decide +kernel
theorem dX9_put_45 : decode cX9_put 45 = .ok (.dup, 1) := by decide +kernel
theorem dX9_put_46 : decode cX9_put 46 = .ok (.getfield 60, 3) := by decide +kernel
theorem dX9_put_49 : decode cX9_put 49 = .ok (.iconst 1, 1) := by decide +kernel
theorem dX9_put_50 : decode cX9_put 50 = .ok (.iadd, 1) := by decide +kernel
theorem dX9_put_51 : decode cX9_put 51 = .ok (.putfield 60, 3) := by decide +kernel
theorem dX9_put_54 : decode cX9_put 54 = .ok (.aload_n 0, 1) := by decide +kernel
theorem dX9_put_55 : decode cX9_put 55 = .ok (.getfield 60, 3) := by decide +kernel
theorem dX9_put_58 : decode cX9_put 58 = .ok (.ireturn, 1) := by decide +kernel
theorem dX9_root_0 : decode cX9_root 0 = .ok (.lconst 0, 1) := by decide +kernel
theorem dX9_root_1 : decode cX9_root 1 = .ok (.lstore_n 2, 1) := by decide +kernel
theorem dX9_root_2 : decode cX9_root 2 = .ok (.ldc2_w 100, 3) := by decide +kernel
theorem dX9_root_5 : decode cX9_root 5 = .ok (.lstore 4, 2) := by decide +kernel
theorem dX9_root_7 : decode cX9_root 7 = .ok (.lload 4, 2) := by decide +kernel
theorem dX9_root_9 : decode cX9_root 9 = .ok (.lload_n 2, 1) := by decide +kernel
theorem dX9_root_10 : decode cX9_root 10 = .ok (.lsub, 1) := by decide +kernel
theorem dX9_root_11 : decode cX9_root 11 = .ok (.lconst 1, 1) := by decide +kernel
theorem dX9_root_12 : decode cX9_root 12 = .ok (.lcmp, 1) := by decide +kernel
theorem dX9_root_13 : decode cX9_root 13 = .ok (.ifCond .le 34, 3) := by decide +kernel
theorem dX9_root_16 : decode cX9_root 16 = .ok (.lload_n 2, 1) := by decide +kernel
theorem dX9_root_17 : decode cX9_root 17 = .ok (.lload 4, 2) := by decide +kernel
theorem dX9_root_19 : decode cX9_root 19 = .ok (.ladd, 1) := by decide +kernel
theorem dX9_root_20 : decode cX9_root 20 = .ok (.iconst 1, 1) := by decide +kernel
theorem dX9_root_21 : decode cX9_root 21 = .ok (.lshr, 1) := by decide +kernel
theorem dX9_root_22 : decode cX9_root 22 = .ok (.lstore 6, 2) := by decide +kernel
theorem dX9_root_24 : decode cX9_root 24 = .ok (.lload 6, 2) := by decide +kernel
theorem dX9_root_26 : decode cX9_root 26 = .ok (.lload 6, 2) := by decide +kernel
theorem dX9_root_28 : decode cX9_root 28 = .ok (.lmul, 1) := by decide +kernel
theorem dX9_root_29 : decode cX9_root 29 = .ok (.lload_n 0, 1) := by decide +kernel
theorem dX9_root_30 : decode cX9_root 30 = .ok (.lcmp, 1) := by decide +kernel
theorem dX9_root_31 : decode cX9_root 31 = .ok (.ifCond .gt 9, 3) := by decide +kernel
theorem dX9_root_34 : decode cX9_root 34 = .ok (.lload 6, 2) := by decide +kernel
theorem dX9_root_36 : decode cX9_root 36 = .ok (.lstore_n 2, 1) := by decide +kernel
theorem dX9_root_37 : decode cX9_root 37 = .ok (.goto 7, 3) := by decide +kernel
theorem dX9_root_40 : decode cX9_root 40 = .ok (.lload 6, 2) := by decide +kernel
theorem dX9_root_42 : decode cX9_root 42 = .ok (.lstore 4, 2) := by decide +kernel
theorem dX9_root_44 : decode cX9_root 44 = .ok (.goto (-37), 3) := by decide +kernel
theorem dX9_root_47 : decode cX9_root 47 = .ok (.lload_n 2, 1) := by decide +kernel
theorem dX9_root_48 : decode cX9_root 48 = .ok (.lreturn, 1) := by decide +kernel
theorem dX9_rounded_0 : decode cX9_rounded 0 = .ok (.ldc2_w 92, 3) := by decide +kernel
theorem dX9_rounded_3 : decode cX9_rounded 3 = .ok (.lload_n 0, 1) := by decide +kernel
theorem dX9_rounded_4 : decode cX9_rounded 4 = .ok (.lmul, 1) := by decide +kernel
theorem dX9_rounded_5 : decode cX9_rounded 5 = .ok (.lload_n 2, 1) := by decide +kernel
theorem dX9_rounded_6 : decode cX9_rounded 6 = .ok (.ladd, 1) := by decide +kernel
theorem dX9_rounded_7 : decode cX9_rounded 7 = .ok (.ldc2_w 92, 3) := by decide +kernel
theorem dX9_rounded_10 : decode cX9_rounded 10 = .ok (.lload_n 2, 1) := by decide +kernel
theorem dX9_rounded_11 : decode cX9_rounded 11 = .ok (.lmul, 1) := by decide +kernel
theorem dX9_rounded_12 : decode cX9_rounded 12 = .ok (.invokestatic 94, 3) := by decide +kernel
theorem dX9_rounded_15 : decode cX9_rounded 15 = .ok (.lreturn, 1) := by decide +kernel
theorem dX9_setCorner_0 : decode cX9_setCorner 0 = .ok (.lload_n 2, 1) := by decide +kernel
theorem dX9_setCorner_1 : decode cX9_setCorner 1 = .ok (.invokestatic 63, 3) := by decide +kernel
theorem dX9_setCorner_4 : decode cX9_setCorner 4 = .ok (.ifCond .ne 11, 3) := by decide +kernel
theorem dX9_setCorner_7 : decode cX9_setCorner 7 = .ok (.lload 4, 2) := by decide +kernel
theorem dX9_setCorner_9 : decode cX9_setCorner 9 = .ok (.invokestatic 63, 3) := by decide +kernel
theorem dX9_setCorner_12 : decode cX9_setCorner 12 = .ok (.ifCond .eq 23, 3) := by decide +kernel
theorem dX9_setCorner_15 : decode cX9_setCorner 15 = .ok (.aload_n 0, 1) := by decide +kernel
theorem dX9_setCorner_16 : decode cX9_setCorner 16 = .ok (.aload_n 0, 1) := by decide +kernel
theorem dX9_setCorner_17 : decode cX9_setCorner 17 = .ok (.getfield 102, 3) := by decide +kernel
theorem dX9_setCorner_20 : decode cX9_setCorner 20 = .ok (.ifCond .ne 8, 3) := by decide +kernel
theorem dX9_setCorner_23 : decode cX9_setCorner 23 = .ok (.bipush (-4), 2) := by decide +kernel
theorem dX9_setCorner_25 : decode cX9_setCorner 25 = .ok (.goto 7, 3) := by decide +kernel
theorem dX9_setCorner_28 : decode cX9_setCorner 28 = .ok (.aload_n 0, 1) := by decide +kernel
theorem dX9_setCorner_29 : decode cX9_setCorner 29 = .ok (.getfield 102, 3) := by decide +kernel
theorem dX9_setCorner_32 : decode cX9_setCorner 32 = .ok (.putfield 102, 3) := by decide +kernel
theorem dX9_setCorner_35 : decode cX9_setCorner 35 = .ok (.aload_n 0, 1) := by decide +kernel
theorem dX9_setCorner_36 : decode cX9_setCorner 36 = .ok (.getfield 102, 3) := by decide +kernel
theorem dX9_setCorner_39 : decode cX9_setCorner 39 = .ok (.ifCond .eq 4, 3) := by decide +kernel
theorem dX9_setCorner_42 : decode cX9_setCorner 42 = .ok (.return_, 1) := by decide +kernel
theorem dX9_setCorner_43 : decode cX9_setCorner 43 = .ok (.aload_n 0, 1) := by decide +kernel
theorem dX9_setCorner_44 : decode cX9_setCorner 44 = .ok (.getfield 50, 3) := by decide +kernel
theorem dX9_setCorner_47 : decode cX9_setCorner 47 = .ok (.bipush 8, 2) := by decide +kernel
theorem dX9_setCorner_49 : decode cX9_setCorner 49 = .ok (.aload_n 0, 1) := by decide +kernel
theorem dX9_setCorner_50 : decode cX9_setCorner 50 = .ok (.getfield 74, 3) := by decide +kernel
theorem dX9_setCorner_53 : decode cX9_setCorner 53 = .ok (.imul, 1) := by decide +kernel
theorem dX9_setCorner_54 : decode cX9_setCorner 54 = .ok (.iconst 2, 1) := by decide +kernel
theorem dX9_setCorner_55 : decode cX9_setCorner 55 = .ok (.iload_n 1, 1) := by decide +kernel
theorem dX9_setCorner_56 : decode cX9_setCorner 56 = .ok (.imul, 1) := by decide +kernel
theorem dX9_setCorner_57 : decode cX9_setCorner 57 = .ok (.iadd, 1) := by decide +kernel
theorem dX9_setCorner_58 : decode cX9_setCorner 58 = .ok (.lload_n 2, 1) := by decide +kernel
theorem dX9_setCorner_59 : decode cX9_setCorner 59 = .ok (.l2i, 1) := by decide +kernel
theorem dX9_setCorner_60 : decode cX9_setCorner 60 = .ok (.iastore, 1) := by decide +kernel
theorem dX9_setCorner_61 : decode cX9_setCorner 61 = .ok (.aload_n 0, 1) := by decide +kernel
theorem dX9_setCorner_62 : decode cX9_setCorner 62 = .ok (.getfield 50, 3) := by decide +kernel
theorem dX9_setCorner_65 : decode cX9_setCorner 65 = .ok (.bipush 8, 2) := by decide +kernel
theorem dX9_setCorner_67 : decode cX9_setCorner 67 = .ok (.aload_n 0, 1) := by decide +kernel
theorem dX9_setCorner_68 : decode cX9_setCorner 68 = .ok (.getfield 74, 3) := by decide +kernel
theorem dX9_setCorner_71 : decode cX9_setCorner 71 = .ok (.imul, 1) := by decide +kernel
theorem dX9_setCorner_72 : decode cX9_setCorner 72 = .ok (.iconst 2, 1) := by decide +kernel
theorem dX9_setCorner_73 : decode cX9_setCorner 73 = .ok (.iload_n 1, 1) := by decide +kernel
theorem dX9_setCorner_74 : decode cX9_setCorner 74 = .ok (.imul, 1) := by decide +kernel
theorem dX9_setCorner_75 : decode cX9_setCorner 75 = .ok (.iadd, 1) := by decide +kernel
theorem dX9_setCorner_76 : decode cX9_setCorner 76 = .ok (.iconst 1, 1) := by decide +kernel
theorem dX9_setCorner_77 : decode cX9_setCorner 77 = .ok (.iadd, 1) := by decide +kernel
theorem dX9_setCorner_78 : decode cX9_setCorner 78 = .ok (.lload 4, 2) := by decide +kernel
theorem dX9_setCorner_80 : decode cX9_setCorner 80 = .ok (.l2i, 1) := by decide +kernel
theorem dX9_setCorner_81 : decode cX9_setCorner 81 = .ok (.iastore, 1) := by decide +kernel
theorem dX9_setCorner_82 : decode cX9_setCorner 82 = .ok (.return_, 1) := by decide +kernel
theorem dX9_side_0 : decode cX9_side 0 = .ok (.aload_n 0, 1) := by decide +kernel
theorem dX9_side_1 : decode cX9_side 1 = .ok (.iconst 0, 1) := by decide +kernel
theorem dX9_side_2 : decode cX9_side 2 = .ok (.invokevirtual 122, 3) := by decide +kernel
theorem dX9_side_5 : decode cX9_side 5 = .ok (.ifCond .ne 4, 3) := by decide +kernel
theorem dX9_side_8 : decode cX9_side 8 = .ok (.return_, 1) := by decide +kernel
theorem dX9_side_9 : decode cX9_side 9 = .ok (.aload_n 0, 1) := by decide +kernel
theorem dX9_side_10 : decode cX9_side 10 = .ok (.iload_n 1, 1) := by decide +kernel
