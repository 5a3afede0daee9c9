theorem dX12_run_0 : decode cX12_run 0 = .ok (.iconst 0, 1) := by decide +kernel
theorem dX12_run_1 : decode cX12_run 1 = .ok (.istore_n 1, 1) := by decide +kernel
theorem dX12_run_2 : decode cX12_run 2 = .ok (.iload_n 1, 1) := by decide +kernel
theorem dX12_run_3 : decode cX12_run 3 = .ok (.bipush 8, 2) := by decide +kernel
theorem dX12_run_5 : decode cX12_run 5 = .ok (.if_icmp .ge 33, 3) := by decide +kernel
theorem dX12_run_8 : decode cX12_run 8 = .ok (.aload_n 0, 1) := by decide +kernel
theorem dX12_run_9 : decode cX12_run 9 = .ok (.getfield 118, 3) := by decide +kernel
theorem dX12_run_12 : decode cX12_run 12 = .ok (.iload_n 1, 1) := by decide +kernel
theorem dX12_run_13 : decode cX12_run 13 = .ok (.aload_n 0, 1) := by decide +kernel
theorem dX12_run_14 : decode cX12_run 14 = .ok (.getfield 97, 3) := by decide +kernel
theorem dX12_run_17 : decode cX12_run 17 = .ok (.iload_n 1, 1) := by decide +kernel
theorem dX12_run_18 : decode cX12_run 18 = .ok (.laload, 1) := by decide +kernel
theorem dX12_run_19 : decode cX12_run 19 = .ok (.lastore, 1) := by decide +kernel
theorem dX12_run_20 : decode cX12_run 20 = .ok (.aload_n 0, 1) := by decide +kernel
theorem dX12_run_21 : decode cX12_run 21 = .ok (.getfield 121, 3) := by decide +kernel
theorem dX12_run_24 : decode cX12_run 24 = .ok (.iload_n 1, 1) := by decide +kernel
theorem dX12_run_25 : decode cX12_run 25 = .ok (.aload_n 0, 1) := by decide +kernel
theorem dX12_run_26 : decode cX12_run 26 = .ok (.getfield 100, 3) := by decide +kernel
theorem dX12_run_29 : decode cX12_run 29 = .ok (.iload_n 1, 1) := by decide +kernel
theorem dX12_run_30 : decode cX12_run 30 = .ok (.laload, 1) := by decide +kernel
theorem dX12_run_31 : decode cX12_run 31 = .ok (.lastore, 1) := by decide +kernel
theorem dX12_run_32 : decode cX12_run 32 = .ok (.iinc 1 1, 3) := by decide +kernel
theorem dX12_run_35 : decode cX12_run 35 = .ok (.goto (-33), 3) := by decide +kernel
theorem dX12_run_38 : decode cX12_run 38 = .ok (.aload_n 0, 1) := by decide +kernel
theorem dX12_run_39 : decode cX12_run 39 = .ok (.iconst 0, 1) := by decide +kernel
theorem dX12_run_40 : decode cX12_run 40 = .ok (.invokevirtual 451, 3) := by decide +kernel
theorem dX12_run_43 : decode cX12_run 43 = .ok (.aload_n 0, 1) := by decide +kernel
theorem dX12_run_44 : decode cX12_run 44 = .ok (.iconst 1, 1) := by decide +kernel
theorem dX12_run_45 : decode cX12_run 45 = .ok (.putfield 371, 3) := by decide +kernel
theorem dX12_run_48 : decode cX12_run 48 = .ok (.aload_n 0, 1) := by decide +kernel
theorem dX12_run_49 : decode cX12_run 49 = .ok (.getfield 154, 3) := by decide +kernel
theorem dX12_run_52 : decode cX12_run 52 = .ok (.iconst 0, 1) := by decide +kernel
theorem dX12_run_53 : decode cX12_run 53 = .ok (.iaload, 1) := by decide +kernel
theorem dX12_run_54 : decode cX12_run 54 = .ok (.ireturn, 1) := by decide +kernel
theorem dX12_difference_0 : decode cX12_difference 0 = .ok (.aload_n 0, 1) := by decide +kernel
theorem dX12_difference_1 : decode cX12_difference 1 = .ok (.iload_n 1, 1) := by decide +kernel
theorem dX12_difference_2 : decode cX12_difference 2 = .ok (.invokevirtual 454, 3) := by decide +kernel
theorem dX12_difference_5 : decode cX12_difference 5 = .ok (.ifCond .eq 42, 3) := by decide +kernel
theorem dX12_difference_8 : decode cX12_difference 8 = .ok (.aload_n 0, 1) := by decide +kernel
theorem dX12_difference_9 : decode cX12_difference 9 = .ok (.iload_n 2, 1) := by decide +kernel
theorem dX12_difference_10 : decode cX12_difference 10 = .ok (.invokevirtual 464, 3) := by decide +kernel
theorem dX12_difference_13 : decode cX12_difference 13 = .ok (.ifCond .eq 34, 3) := by decide +kernel
theorem dX12_difference_16 : decode cX12_difference 16 = .ok (.iload_n 3, 1) := by decide +kernel
theorem dX12_difference_17 : decode cX12_difference 17 = .ok (.i2l, 1) := by decide +kernel
theorem dX12_difference_18 : decode cX12_difference 18 = .ok (.ldc2_w 404, 3) := by decide +kernel
theorem dX12_difference_21 : decode cX12_difference 21 = .ok (.ldc2_w 398, 3) := by decide +kernel
theorem dX12_difference_24 : decode cX12_difference 24 = .ok (.invokestatic 231, 3) := by decide +kernel
theorem dX12_difference_27 : decode cX12_difference 27 = .ok (.ifCond .eq 20, 3) := by decide +kernel
theorem dX12_difference_30 : decode cX12_difference 30 = .ok (.iload_n 3, 1) := by decide +kernel
theorem dX12_difference_31 : decode cX12_difference 31 = .ok (.ifCond .eq 16, 3) := by decide +kernel
theorem dX12_difference_34 : decode cX12_difference 34 = .ok (.iload 4, 2) := by decide +kernel
theorem dX12_difference_36 : decode cX12_difference 36 = .ok (.i2l, 1) := by decide +kernel
theorem dX12_difference_37 : decode cX12_difference 37 = .ok (.lconst 1, 1) := by decide +kernel
theorem dX12_difference_38 : decode cX12_difference 38 = .ok (.ldc2_w 398, 3) := by decide +kernel
theorem dX12_difference_41 : decode cX12_difference 41 = .ok (.invokestatic 231, 3) := by decide +kernel
theorem dX12_difference_44 : decode cX12_difference 44 = .ok (.ifCond .ne 7, 3) := by decide +kernel
theorem dX12_difference_47 : decode cX12_difference 47 = .ok (.ldc2_w 406, 3) := by decide +kernel
theorem dX12_difference_50 : decode cX12_difference 50 = .ok (.lreturn, 1) := by decide +kernel
theorem dX12_difference_51 : decode cX12_difference 51 = .ok (.iconst 0, 1) := by decide +kernel
theorem dX12_difference_52 : decode cX12_difference 52 = .ok (.istore 6, 2) := by decide +kernel
theorem dX12_difference_54 : decode cX12_difference 54 = .ok (.iload 6, 2) := by decide +kernel
theorem dX12_difference_56 : decode cX12_difference 56 = .ok (.bipush 8, 2) := by decide +kernel
theorem dX12_difference_58 : decode cX12_difference 58 = .ok (.if_icmp .ge 43, 3) := by decide +kernel
theorem dX12_difference_61 : decode cX12_difference 61 = .ok (.aload_n 0, 1) := by decide +kernel
theorem dX12_difference_62 : decode cX12_difference 62 = .ok (.getfield 118, 3) := by decide +kernel
theorem dX12_difference_65 : decode cX12_difference 65 = .ok (.bipush 8, 2) := by decide +kernel
theorem dX12_difference_67 : decode cX12_difference 67 = .ok (.iload 6, 2) := by decide +kernel
theorem dX12_difference_69 : decode cX12_difference 69 = .ok (.iadd, 1) := by decide +kernel
theorem dX12_difference_70 : decode cX12_difference 70 = .ok (.aload_n 0, 1) := by decide +kernel
theorem dX12_difference_71 : decode cX12_difference 71 = .ok (.getfield 118, 3) := by decide +kernel
theorem dX12_difference_74 : decode cX12_difference 74 = .ok (.iload 6, 2) := by decide +kernel
theorem dX12_difference_76 : decode cX12_difference 76 = .ok (.laload, 1) := by decide +kernel
theorem dX12_difference_77 : decode cX12_difference 77 = .ok (.lastore, 1) := by decide +kernel
theorem dX12_difference_78 : decode cX12_difference 78 = .ok (.aload_n 0, 1) := by decide +kernel
theorem dX12_difference_79 : decode cX12_difference 79 = .ok (.getfield 121, 3) := by decide +kernel
theorem dX12_difference_82 : decode cX12_difference 82 = .ok (.bipush 8, 2) := by decide +kernel
theorem dX12_difference_84 : decode cX12_difference 84 = .ok (.iload 6, 2) := by decide +kernel
theorem dX12_difference_86 : decode cX12_difference 86 = .ok (.iadd, 1) := by decide +kernel
theorem dX12_difference_87 : decode cX12_difference 87 = .ok (.aload_n 0, 1) := by decide +kernel
theorem dX12_difference_88 : decode cX12_difference 88 = .ok (.getfield 121, 3) := by decide +kernel
theorem dX12_difference_91 : decode cX12_difference 91 = .ok (.iload 6, 2) := by decide +kernel
theorem dX12_difference_93 : decode cX12_difference 93 = .ok (.laload, 1) := by decide +kernel
theorem dX12_difference_94 : decode cX12_difference 94 = .ok (.lastore, 1) := by decide +kernel
theorem dX12_difference_95 : decode cX12_difference 95 = .ok (.iinc 6 1, 3) := by decide +kernel
theorem dX12_difference_98 : decode cX12_difference 98 = .ok (.goto (-44), 3) := by decide +kernel
theorem dX12_difference_101 : decode cX12_difference 101 = .ok (.aload_n 0, 1) := by decide +kernel
theorem dX12_difference_102 : decode cX12_difference 102 = .ok (.iconst 0, 1) := by decide +kernel
theorem dX12_difference_103 : decode cX12_difference 103 = .ok (.putfield 384, 3) := by decide +kernel
theorem dX12_difference_106 : decode cX12_difference 106 = .ok (.aload_n 0, 1) := by decide +kernel
theorem dX12_difference_107 : decode cX12_difference 107 = .ok (.iload_n 3, 1) := by decide +kernel
theorem dX12_difference_108 : decode cX12_difference 108 = .ok (.i2l, 1) := by decide +kernel
theorem dX12_difference_109 : decode cX12_difference 109 = .ok (.iload 4, 2) := by decide +kernel
theorem dX12_difference_111 : decode cX12_difference 111 = .ok (.i2l, 1) := by decide +kernel
theorem dX12_difference_112 : decode cX12_difference 112 = .ok (.invokevirtual 400, 3) := by decide +kernel
theorem dX12_difference_115 : decode cX12_difference 115 = .ok (.aload_n 0, 1) := by decide +kernel
theorem dX12_difference_116 : decode cX12_difference 116 = .ok (.getfield 387, 3) := by decide +kernel
theorem dX12_difference_119 : decode cX12_difference 119 = .ok (.lstore 6, 2) := by decide +kernel
theorem dX12_difference_121 : decode cX12_difference 121 = .ok (.aload_n 0, 1) := by decide +kernel
theorem dX12_difference_122 : decode cX12_difference 122 = .ok (.getfield 391, 3) := by decide +kernel
theorem dX12_difference_125 : decode cX12_difference 125 = .ok (.lstore 8, 2) := by decide +kernel
theorem dX12_difference_127 : decode cX12_difference 127 = .ok (.aload_n 0, 1) := by decide +kernel
theorem dX12_difference_128 : decode cX12_difference 128 = .ok (.aload_n 0, 1) := by decide +kernel
theorem dX12_difference_129 : decode cX12_difference 129 = .ok (.getfield 118, 3) := by decide +kernel
theorem dX12_difference_132 : decode cX12_difference 132 = .ok (.iload_n 2, 1) := by decide +kernel
theorem dX12_difference_133 : decode cX12_difference 133 = .ok (.laload, 1) := by decide +kernel
theorem dX12_difference_134 : decode cX12_difference 134 = .ok (.aload_n 0, 1) := by decide +kernel
theorem dX12_difference_135 : decode cX12_difference 135 = .ok (.getfield 121, 3) := by decide +kernel
theorem dX12_difference_138 : decode cX12_difference 138 = .ok (.iload_n 2, 1) := by decide +kernel
theorem dX12_difference_139 : decode cX12_difference 139 = .ok (.laload, 1) := by decide +kernel
theorem dX12_difference_140 : decode cX12_difference 140 = .ok (.lload 6, 2) := by decide +kernel
theorem dX12_difference_142 : decode cX12_difference 142 = .ok (.lload 8, 2) := by decide +kernel
theorem dX12_difference_144 : decode cX12_difference 144 = .ok (.invokevirtual 424, 3) := by decide +kernel
theorem dX12_difference_147 : decode cX12_difference 147 = .ok (.aload_n 0, 1) := by decide +kernel
theorem dX12_difference_148 : decode cX12_difference 148 = .ok (.getfield 384, 3) := by decide +kernel
theorem dX12_difference_151 : decode cX12_difference 151 = .ok (.ifCond .eq 7, 3) := by decide +kernel
theorem dX12_difference_154 : decode cX12_difference 154 = .ok (.ldc2_w 406, 3) := by decide +kernel
theorem dX12_difference_157 : decode cX12_difference 157 = .ok (.lreturn, 1) := by decide +kernel
theorem dX12_difference_158 : decode cX12_difference 158 = .ok (.aload_n 0, 1) := by decide +kernel
theorem dX12_difference_159 : decode cX12_difference 159 = .ok (.getfield 118, 3) := by decide +kernel
theorem dX12_difference_162 : decode cX12_difference 162 = .ok (.bipush 8, 2) := by decide +kernel
theorem dX12_difference_164 : decode cX12_difference 164 = .ok (.iload_n 2, 1) := by decide +kernel
theorem dX12_difference_165 : decode cX12_difference 165 = .ok (.iadd, 1) := by decide +kernel
theorem dX12_difference_166 : decode cX12_difference 166 = .ok (.aload_n 0, 1) := by decide +kernel
theorem dX12_difference_167 : decode cX12_difference 167 = .ok (.getfield 387, 3) := by decide +kernel
theorem dX12_difference_170 : decode cX12_difference 170 = .ok (.lastore, 1) := by decide +kernel
theorem dX12_difference_171 : decode cX12_difference 171 = .ok (.aload_n 0, 1) := by decide +kernel
theorem dX12_difference_172 : decode cX12_difference 172 = .ok (.getfield 121, 3) := by decide +kernel
theorem dX12_difference_175 : decode cX12_difference 175 = .ok (.bipush 8, 2) := by decide +kernel
theorem dX12_difference_177 : decode cX12_difference 177 = .ok (.iload_n 2, 1) := by decide +kernel
theorem dX12_difference_178 : decode cX12_difference 178 = .ok (.iadd, 1) := by decide +kernel
theorem dX12_difference_179 : decode cX12_difference 179 = .ok (.aload_n 0, 1) := by decide +kernel
theorem dX12_difference_180 : decode cX12_difference 180 = .ok (.getfield 391, 3) := by decide +kernel
theorem dX12_difference_183 : decode cX12_difference 183 = .ok (.lastore, 1) := by decide +kernel
theorem dX12_difference_184 : decode cX12_difference 184 = .ok (.aload_n 0, 1) := by decide +kernel
theorem dX12_difference_185 : decode cX12_difference 185 = .ok (.iconst 1, 1) := by decide +kernel
theorem dX12_difference_186 : decode cX12_difference 186 = .ok (.invokevirtual 451, 3) := by decide +kernel
theorem dX12_difference_189 : decode cX12_difference 189 = .ok (.aload_n 0, 1) := by decide +kernel
theorem dX12_difference_190 : decode cX12_difference 190 = .ok (.getfield 154, 3) := by decide +kernel
theorem dX12_difference_193 : decode cX12_difference 193 = .ok (.iconst 1, 1) := by decide +kernel
theorem dX12_difference_194 : decode cX12_difference 194 = .ok (.iaload, 1) := by decide +kernel
theorem dX12_difference_195 : decode cX12_difference 195 = .ok (.ifCond .ne 13, 3) := by decide +kernel
theorem dX12_difference_198 : decode cX12_difference 198 = .ok (.iload_n 1, 1) := by decide +kernel
theorem dX12_difference_199 : decode cX12_difference 199 = .ok (.aload_n 0, 1) := by decide +kernel
theorem dX12_difference_200 : decode cX12_difference 200 = .ok (.getfield 145, 3) := by decide +kernel
theorem dX12_difference_203 : decode cX12_difference 203 = .ok (.iconst 1, 1) := by decide +kernel
theorem dX12_difference_204 : decode cX12_difference 204 = .ok (.iaload, 1) := by decide +kernel
theorem dX12_difference_205 : decode cX12_difference 205 = .ok (.if_icmp .lt 7, 3) := by decide +kernel
theorem dX12_difference_208 : decode cX12_difference 208 = .ok (.ldc2_w 406, 3) := by decide +kernel
theorem dX12_difference_211 : decode cX12_difference 211 = .ok (.lreturn, 1) := by decide +kernel
theorem dX12_difference_212 : decode cX12_difference 212 = .ok (.sipush 1760, 3) := by decide +kernel
theorem dX12_difference_215 : decode cX12_difference 215 = .ok (.aload_n 0, 1) := by decide +kernel
theorem dX12_difference_216 : decode cX12_difference 216 = .ok (.getfield 148, 3) := by decide +kernel
theorem dX12_difference_219 : decode cX12_difference 219 = .ok (.bipush 12, 2) := by decide +kernel
theorem dX12_difference_221 : decode cX12_difference 221 = .ok (.iload_n 1, 1) := by decide +kernel
theorem dX12_difference_222 : decode cX12_difference 222 = .ok (.iadd, 1) := by decide +kernel
theorem dX12_difference_223 : decode cX12_difference 223 = .ok (.iaload, 1) := by decide +kernel
theorem dX12_difference_224 : decode cX12_difference 224 = .ok (.iadd, 1) := by decide +kernel
theorem dX12_difference_225 : decode cX12_difference 225 = .ok (.istore 10, 2) := by decide +kernel
theorem dX12_difference_227 : decode cX12_difference 227 = .ok (.aload_n 0, 1) := by decide +kernel
theorem dX12_difference_228 : decode cX12_difference 228 = .ok (.iconst 0, 1) := by decide +kernel
theorem dX12_difference_229 : decode cX12_difference 229 = .ok (.putfield 384, 3) := by decide +kernel
theorem dX12_difference_232 : decode cX12_difference 232 = .ok (.aload_n 0, 1) := by decide +kernel
theorem dX12_difference_233 : decode cX12_difference 233 = .ok (.aload_n 0, 1) := by decide +kernel
theorem dX12_difference_234 : decode cX12_difference 234 = .ok (.getfield 124, 3) := by decide +kernel
theorem dX12_difference_237 : decode cX12_difference 237 = .ok (.iload 10, 2) := by decide +kernel
theorem dX12_difference_239 : decode cX12_difference 239 = .ok (.laload, 1) := by decide +kernel
theorem dX12_difference_240 : decode cX12_difference 240 = .ok (.aload_n 0, 1) := by decide +kernel
theorem dX12_difference_241 : decode cX12_difference 241 = .ok (.getfield 127, 3) := by decide +kernel
theorem dX12_difference_244 : decode cX12_difference 244 = .ok (.iload 10, 2) := by decide +kernel
theorem dX12_difference_246 : decode cX12_difference 246 = .ok (.laload, 1) := by decide +kernel
theorem dX12_difference_247 : decode cX12_difference 247 = .ok (.aload_n 0, 1) := by decide +kernel
theorem dX12_difference_248 : decode cX12_difference 248 = .ok (.getfield 124, 3) := by decide +kernel
theorem dX12_difference_251 : decode cX12_difference 251 = .ok (.aload_n 0, 1) := by decide +kernel
theorem dX12_difference_252 : decode cX12_difference 252 = .ok (.getfield 148, 3) := by decide +kernel
theorem dX12_difference_255 : decode cX12_difference 255 = .ok (.iload_n 1, 1) := by decide +kernel
theorem dX12_difference_256 : decode cX12_difference 256 = .ok (.iaload, 1) := by decide +kernel
theorem dX12_difference_257 : decode cX12_difference 257 = .ok (.laload, 1) := by decide +kernel
theorem dX12_difference_258 : decode cX12_difference 258 = .ok (.aload_n 0, 1) := by decide +kernel
theorem dX12_difference_259 : decode cX12_difference 259 = .ok (.getfield 127, 3) := by decide +kernel
theorem dX12_difference_262 : decode cX12_difference 262 = .ok (.aload_n 0, 1) := by decide +kernel
theorem dX12_difference_263 : decode cX12_difference 263 = .ok (.getfield 148, 3) := by decide +kernel
theorem dX12_difference_266 : decode cX12_difference 266 = .ok (.iload_n 1, 1) := by decide +kernel
theorem dX12_difference_267 : decode cX12_difference 267 = .ok (.iaload, 1) := by decide +kernel
theorem dX12_difference_268 : decode cX12_difference 268 = .ok (.laload, 1) := by decide +kernel
theorem dX12_difference_269 : decode cX12_difference 269 = .ok (.invokevirtual 408, 3) := by decide +kernel
theorem dX12_difference_272 : decode cX12_difference 272 = .ok (.aload_n 0, 1) := by decide +kernel
theorem dX12_difference_273 : decode cX12_difference 273 = .ok (.aload_n 0, 1) := by decide +kernel
theorem dX12_difference_274 : decode cX12_difference 274 = .ok (.getfield 387, 3) := by decide +kernel
theorem dX12_difference_277 : decode cX12_difference 277 = .ok (.aload_n 0, 1) := by decide +kernel
theorem dX12_difference_278 : decode cX12_difference 278 = .ok (.getfield 391, 3) := by decide +kernel
theorem dX12_difference_281 : decode cX12_difference 281 = .ok (.lload 6, 2) := by decide +kernel
theorem dX12_difference_283 : decode cX12_difference 283 = .ok (.lload 8, 2) := by decide +kernel
theorem dX12_difference_285 : decode cX12_difference 285 = .ok (.invokevirtual 430, 3) := by decide +kernel
theorem dX12_difference_288 : decode cX12_difference 288 = .ok (.aload_n 0, 1) := by decide +kernel
theorem dX12_difference_289 : decode cX12_difference 289 = .ok (.getfield 384, 3) := by decide +kernel
theorem dX12_difference_292 : decode cX12_difference 292 = .ok (.ifCond .eq 9, 3) := by decide +kernel
theorem dX12_difference_295 : decode cX12_difference 295 = .ok (.ldc2_w 406, 3) := by decide +kernel
theorem dX12_difference_298 : decode cX12_difference 298 = .ok (.goto 19, 3) := by decide +kernel
theorem dX12_difference_301 : decode cX12_difference 301 = .ok (.iload 5, 2) := by decide +kernel
theorem dX12_difference_303 : decode cX12_difference 303 = .ok (.ifCond .eq 10, 3) := by decide +kernel
theorem dX12_difference_306 : decode cX12_difference 306 = .ok (.aload_n 0, 1) := by decide +kernel
theorem dX12_difference_307 : decode cX12_difference 307 = .ok (.getfield 387, 3) := by decide +kernel
theorem dX12_difference_310 : decode cX12_difference 310 = .ok (.goto 7, 3) := by decide +kernel
theorem dX12_difference_313 : decode cX12_difference 313 = .ok (.aload_n 0, 1) := by decide +kernel
theorem dX12_difference_314 : decode cX12_difference 314 = .ok (.getfield 391, 3) := by decide +kernel
theorem dX12_difference_317 : decode cX12_difference 317 = .ok (.lreturn, 1) := by decide +kernel
theorem dX12_group_0 : decode cX12_group 0 = .ok (.aload_n 0, 1) := by decide +kernel
theorem dX12_group_1 : decode cX12_group 1 = .ok (.getfield 375, 3) := by decide +kernel
theorem dX12_group_4 : decode cX12_group 4 = .ok (.ifCond .eq 28, 3) := by decide +kernel
theorem dX12_group_7 : decode cX12_group 7 = .ok (.iload_n 1, 1) := by decide +kernel
theorem dX12_group_8 : decode cX12_group 8 = .ok (.i2l, 1) := by decide +kernel
theorem dX12_group_9 : decode cX12_group 9 = .ok (.lconst 0, 1) := by decide +kernel
theorem dX12_group_10 : decode cX12_group 10 = .ok (.aload_n 0, 1) := by decide +kernel
theorem dX12_group_11 : decode cX12_group 11 = .ok (.getfield 488, 3) := by decide +kernel
theorem dX12_group_14 : decode cX12_group 14 = .ok (.iconst 1, 1) := by decide +kernel
theorem dX12_group_15 : decode cX12_group 15 = .ok (.isub, 1) := by decide +kernel
theorem dX12_group_16 : decode cX12_group 16 = .ok (.i2l, 1) := by decide +kernel
theorem dX12_group_17 : decode cX12_group 17 = .ok (.invokestatic 231, 3) := by decide +kernel
theorem dX12_group_20 : decode cX12_group 20 = .ok (.ifCond .eq 12, 3) := by decide +kernel
theorem dX12_group_23 : decode cX12_group 23 = .ok (.aload_n 0, 1) := by decide +kernel
theorem dX12_group_24 : decode cX12_group 24 = .ok (.getfield 176, 3) := by decide +kernel
theorem dX12_group_27 : decode cX12_group 27 = .ok (.iload_n 1, 1) := by decide +kernel
theorem dX12_group_28 : decode cX12_group 28 = .ok (.iaload, 1) := by decide +kernel
theorem dX12_group_29 : decode cX12_group 29 = .ok (.goto 4, 3) := by decide +kernel
theorem dX12_group_32 : decode cX12_group 32 = .ok (.iconst (-1), 1) := by decide +kernel
theorem dX12_group_33 : decode cX12_group 33 = .ok (.ireturn, 1) := by decide +kernel
theorem dX12_worksAgain_0 : decode cX12_worksAgain 0 = .ok (.aload_n 0, 1) := by decide +kernel
theorem dX12_worksAgain_1 : decode cX12_worksAgain 1 = .ok (.getfield 497, 3) := by decide +kernel
theorem dX12_worksAgain_4 : decode cX12_worksAgain 4 = .ok (.ifCond .eq 4, 3) := by decide +kernel
theorem dX12_worksAgain_7 : decode cX12_worksAgain 7 = .ok (.return_, 1) := by decide +kernel
theorem dX12_worksAgain_8 : decode cX12_worksAgain 8 = .ok (.aload_n 0, 1) := by decide +kernel
theorem dX12_worksAgain_9 : decode cX12_worksAgain 9 = .ok (.iconst 1, 1) := by decide +kernel
theorem dX12_worksAgain_10 : decode cX12_worksAgain 10 = .ok (.putfield 497, 3) := by decide +kernel
theorem dX12_worksAgain_13 : decode cX12_worksAgain 13 = .ok (.iconst 1, 1) := by decide +kernel
theorem dX12_worksAgain_14 : decode cX12_worksAgain 14 = .ok (.istore_n 1, 1) := by decide +kernel
theorem dX12_worksAgain_15 : decode cX12_worksAgain 15 = .ok (.iload_n 1, 1) := by decide +kernel
theorem dX12_worksAgain_16 : decode cX12_worksAgain 16 = .ok (.bipush 100, 2) := by decide +kernel
theorem dX12_worksAgain_18 : decode cX12_worksAgain 18 = .ok (.if_icmp .gt 164, 3) := by decide +kernel
theorem dX12_worksAgain_21 : decode cX12_worksAgain 21 = .ok (.aload_n 0, 1) := by decide +kernel
theorem dX12_worksAgain_22 : decode cX12_worksAgain 22 = .ok (.getfield 182, 3) := by decide +kernel
theorem dX12_worksAgain_25 : decode cX12_worksAgain 25 = .ok (.bipush 11, 2) := by decide +kernel
theorem dX12_worksAgain_27 : decode cX12_worksAgain 27 = .ok (.iload_n 1, 1) := by decide +kernel
theorem dX12_worksAgain_28 : decode cX12_worksAgain 28 = .ok (.imul, 1) := by decide +kernel
theorem dX12_worksAgain_29 : decode cX12_worksAgain 29 = .ok (.iconst 1, 1) := by decide +kernel
theorem dX12_worksAgain_30 : decode cX12_worksAgain 30 = .ok (.iadd, 1) := by decide +kernel
theorem dX12_worksAgain_31 : decode cX12_worksAgain 31 = .ok (.iload_n 1, 1) := by decide +kernel
theorem dX12_worksAgain_32 : decode cX12_worksAgain 32 = .ok (.iload_n 1, 1) := by decide +kernel
theorem dX12_worksAgain_33 : decode cX12_worksAgain 33 = .ok (.iconst 1, 1) := by decide +kernel
theorem dX12_worksAgain_34 : decode cX12_worksAgain 34 = .ok (.isub, 1) := by decide +kernel
theorem dX12_worksAgain_35 : decode cX12_worksAgain 35 = .ok (.imul, 1) := by decide +kernel
theorem dX12_worksAgain_36 : decode cX12_worksAgain 36 = .ok (.iconst 2, 1) := by decide +kernel
theorem dX12_worksAgain_37 : decode cX12_worksAgain 37 = .ok (.idiv, 1) := by decide +kernel
theorem dX12_worksAgain_38 : decode cX12_worksAgain 38 = .ok (.iastore, 1) := by decide +kernel
theorem dX12_worksAgain_39 : decode cX12_worksAgain 39 = .ok (.aload_n 0, 1) := by decide +kernel
theorem dX12_worksAgain_40 : decode cX12_worksAgain 40 = .ok (.getfield 185, 3) := by decide +kernel
theorem dX12_worksAgain_43 : decode cX12_worksAgain 43 = .ok (.bipush 11, 2) := by decide +kernel
theorem dX12_worksAgain_45 : decode cX12_worksAgain 45 = .ok (.iload_n 1, 1) := by decide +kernel
theorem dX12_worksAgain_46 : decode cX12_worksAgain 46 = .ok (.imul, 1) := by decide +kernel
theorem dX12_worksAgain_47 : decode cX12_worksAgain 47 = .ok (.iconst 1, 1) := by decide +kernel
theorem dX12_worksAgain_48 : decode cX12_worksAgain 48 = .ok (.iadd, 1) := by decide +kernel
theorem dX12_worksAgain_49 : decode cX12_worksAgain 49 = .ok (.iconst (-1), 1) := by decide +kernel
theorem dX12_worksAgain_50 : decode cX12_worksAgain 50 = .ok (.iastore, 1) := by decide +kernel
theorem dX12_worksAgain_51 : decode cX12_worksAgain 51 = .ok (.iconst 2, 1) := by decide +kernel
theorem dX12_worksAgain_52 : decode cX12_worksAgain 52 = .ok (.istore_n 2, 1) := by decide +kernel
theorem dX12_worksAgain_53 : decode cX12_worksAgain 53 = .ok (.iload_n 2, 1) := by decide +kernel
theorem dX12_worksAgain_54 : decode cX12_worksAgain 54 = .ok (.bipush 10, 2) := by decide +kernel
theorem dX12_worksAgain_56 : decode cX12_worksAgain 56 = .ok (.if_icmp .gt 120, 3) := by decide +kernel
theorem dX12_worksAgain_59 : decode cX12_worksAgain 59 = .ok (.iload_n 1, 1) := by decide +kernel
theorem dX12_worksAgain_60 : decode cX12_worksAgain 60 = .ok (.iconst 1, 1) := by decide +kernel
theorem dX12_worksAgain_61 : decode cX12_worksAgain 61 = .ok (.if_icmp .ne 7, 3) := by decide +kernel
theorem dX12_worksAgain_64 : decode cX12_worksAgain 64 = .ok (.iconst 0, 1) := by decide +kernel
theorem dX12_worksAgain_65 : decode cX12_worksAgain 65 = .ok (.goto 6, 3) := by decide +kernel
theorem dX12_worksAgain_68 : decode cX12_worksAgain 68 = .ok (.ldc_w 500, 3) := by decide +kernel
theorem dX12_worksAgain_71 : decode cX12_worksAgain 71 = .ok (.istore_n 3, 1) := by decide +kernel
theorem dX12_worksAgain_72 : decode cX12_worksAgain 72 = .ok (.aload_n 0, 1) := by decide +kernel
theorem dX12_worksAgain_73 : decode cX12_worksAgain 73 = .ok (.getfield 185, 3) := by decide +kernel
theorem dX12_worksAgain_76 : decode cX12_worksAgain 76 = .ok (.bipush 11, 2) := by decide +kernel
theorem dX12_worksAgain_78 : decode cX12_worksAgain 78 = .ok (.iload_n 1, 1) := by decide +kernel
theorem dX12_worksAgain_79 : decode cX12_worksAgain 79 = .ok (.imul, 1) := by decide +kernel
theorem dX12_worksAgain_80 : decode cX12_worksAgain 80 = .ok (.iload_n 2, 1) := by decide +kernel
theorem dX12_worksAgain_81 : decode cX12_worksAgain 81 = .ok (.iadd, 1) := by decide +kernel
theorem dX12_worksAgain_82 : decode cX12_worksAgain 82 = .ok (.iconst (-1), 1) := by decide +kernel
theorem dX12_worksAgain_83 : decode cX12_worksAgain 83 = .ok (.iastore, 1) := by decide +kernel
theorem dX12_worksAgain_84 : decode cX12_worksAgain 84 = .ok (.iconst 1, 1) := by decide +kernel
theorem dX12_worksAgain_85 : decode cX12_worksAgain 85 = .ok (.istore 4, 2) := by decide +kernel
theorem dX12_worksAgain_87 : decode cX12_worksAgain 87 = .ok (.iload 4, 2) := by decide +kernel
theorem dX12_worksAgain_89 : decode cX12_worksAgain 89 = .ok (.iload_n 1, 1) := by decide +kernel
theorem dX12_worksAgain_90 : decode cX12_worksAgain 90 = .ok (.if_icmp .ge 68, 3) := by decide +kernel
theorem dX12_worksAgain_93 : decode cX12_worksAgain 93 = .ok (.iload 4, 2) := by decide +kernel
theorem dX12_worksAgain_95 : decode cX12_worksAgain 95 = .ok (.aload_n 0, 1) := by decide +kernel
theorem dX12_worksAgain_96 : decode cX12_worksAgain 96 = .ok (.getfield 182, 3) := by decide +kernel
theorem dX12_worksAgain_99 : decode cX12_worksAgain 99 = .ok (.bipush 11, 2) := by decide +kernel
theorem dX12_worksAgain_101 : decode cX12_worksAgain 101 = .ok (.iload 4, 2) := by decide +kernel
theorem dX12_worksAgain_103 : decode cX12_worksAgain 103 = .ok (.imul, 1) := by decide +kernel
theorem dX12_worksAgain_104 : decode cX12_worksAgain 104 = .ok (.iload_n 2, 1) := by decide +kernel
theorem dX12_worksAgain_105 : decode cX12_worksAgain 105 = .ok (.iadd, 1) := by decide +kernel
theorem dX12_worksAgain_106 : decode cX12_worksAgain 106 = .ok (.iaload, 1) := by decide +kernel
theorem dX12_worksAgain_107 : decode cX12_worksAgain 107 = .ok (.iadd, 1) := by decide +kernel
theorem dX12_worksAgain_108 : decode cX12_worksAgain 108 = .ok (.aload_n 0, 1) := by decide +kernel
theorem dX12_worksAgain_109 : decode cX12_worksAgain 109 = .ok (.getfield 182, 3) := by decide +kernel
theorem dX12_worksAgain_112 : decode cX12_worksAgain 112 = .ok (.bipush 11, 2) := by decide +kernel
theorem dX12_worksAgain_114 : decode cX12_worksAgain 114 = .ok (.iload_n 1, 1) := by decide +kernel
theorem dX12_worksAgain_115 : decode cX12_worksAgain 115 = .ok (.iload 4, 2) := by decide +kernel
theorem dX12_worksAgain_117 : decode cX12_worksAgain 117 = .ok (.isub, 1) := by decide +kernel
theorem dX12_worksAgain_118 : decode cX12_worksAgain 118 = .ok (.imul, 1) := by decide +kernel
theorem dX12_worksAgain_119 : decode cX12_worksAgain 119 = .ok (.iload_n 2, 1) := by decide +kernel
theorem dX12_worksAgain_120 : decode cX12_worksAgain 120 = .ok (.iadd, 1) := by decide +kernel
theorem dX12_worksAgain_121 : decode cX12_worksAgain 121 = .ok (.iconst 1, 1) := by decide +kernel
theorem dX12_worksAgain_122 : decode cX12_worksAgain 122 = .ok (.isub, 1) := by decide +kernel
theorem dX12_worksAgain_123 : decode cX12_worksAgain 123 = .ok (.iaload, 1) := by decide +kernel
theorem dX12_worksAgain_124 : decode cX12_worksAgain 124 = .ok (.iadd, 1) := by decide +kernel
theorem dX12_worksAgain_125 : decode cX12_worksAgain 125 = .ok (.istore 5, 2) := by decide +kernel
theorem dX12_worksAgain_127 : decode cX12_worksAgain 127 = .ok (.iload 5, 2) := by decide +kernel
theorem dX12_worksAgain_129 : decode cX12_worksAgain 129 = .ok (.iload_n 3, 1) := by decide +kernel
theorem dX12_worksAgain_130 : decode cX12_worksAgain 130 = .ok (.if_icmp .lt 6, 3) := by decide +kernel
theorem dX12_worksAgain_133 : decode cX12_worksAgain 133 = .ok (.goto 19, 3) := by decide +kernel
theorem dX12_worksAgain_136 : decode cX12_worksAgain 136 = .ok (.iload 5, 2) := by decide +kernel
theorem dX12_worksAgain_138 : decode cX12_worksAgain 138 = .ok (.istore_n 3, 1) := by decide +kernel
theorem dX12_worksAgain_139 : decode cX12_worksAgain 139 = .ok (.aload_n 0, 1) := by decide +kernel
theorem dX12_worksAgain_140 : decode cX12_worksAgain 140 = .ok (.getfield 185, 3) := by decide +kernel
theorem dX12_worksAgain_143 : decode cX12_worksAgain 143 = .ok (.bipush 11, 2) := by decide +kernel
theorem dX12_worksAgain_145 : decode cX12_worksAgain 145 = .ok (.iload_n 1, 1) := by decide +kernel
theorem dX12_worksAgain_146 : decode cX12_worksAgain 146 = .ok (.imul, 1) := by decide +kernel
theorem dX12_worksAgain_147 : decode cX12_worksAgain 147 = .ok (.iload_n 2, 1) := by decide +kernel
theorem dX12_worksAgain_148 : decode cX12_worksAgain 148 = .ok (.iadd, 1) := by decide +kernel
theorem dX12_worksAgain_149 : decode cX12_worksAgain 149 = .ok (.iload 4, 2) := by decide +kernel
theorem dX12_worksAgain_151 : decode cX12_worksAgain 151 = .ok (.iastore, 1) := by decide +kernel
theorem dX12_worksAgain_152 : decode cX12_worksAgain 152 = .ok (.iinc 4 1, 3) := by decide +kernel
theorem dX12_worksAgain_155 : decode cX12_worksAgain 155 = .ok (.goto (-68), 3) := by decide +kernel
theorem dX12_worksAgain_158 : decode cX12_worksAgain 158 = .ok (.aload_n 0, 1) := by decide +kernel
theorem dX12_worksAgain_159 : decode cX12_worksAgain 159 = .ok (.getfield 182, 3) := by decide +kernel
theorem dX12_worksAgain_162 : decode cX12_worksAgain 162 = .ok (.bipush 11, 2) := by decide +kernel
theorem dX12_worksAgain_164 : decode cX12_worksAgain 164 = .ok (.iload_n 1, 1) := by decide +kernel
theorem dX12_worksAgain_165 : decode cX12_worksAgain 165 = .ok (.imul, 1) := by decide +kernel
theorem dX12_worksAgain_166 : decode cX12_worksAgain 166 = .ok (.iload_n 2, 1) := by decide +kernel
theorem dX12_worksAgain_167 : decode cX12_worksAgain 167 = .ok (.iadd, 1) := by decide +kernel
theorem dX12_worksAgain_168 : decode cX12_worksAgain 168 = .ok (.iload_n 3, 1) := by decide +kernel
theorem dX12_worksAgain_169 : decode cX12_worksAgain 169 = .ok (.iastore, 1) := by decide +kernel
theorem dX12_worksAgain_170 : decode cX12_worksAgain 170 = .ok (.iinc 2 1, 3) := by decide +kernel
theorem dX12_worksAgain_173 : decode cX12_worksAgain 173 = .ok (.goto (-120), 3) := by decide +kernel
theorem dX12_worksAgain_176 : decode cX12_worksAgain 176 = .ok (.iinc 1 1, 3) := by decide +kernel
theorem dX12_worksAgain_179 : decode cX12_worksAgain 179 = .ok (.goto (-164), 3) := by decide +kernel
theorem dX12_worksAgain_182 : decode cX12_worksAgain 182 = .ok (.return_, 1) := by decide +kernel
theorem dX12_again_0 : decode cX12_again 0 = .ok (.iload_n 1, 1) := by decide +kernel
theorem dX12_again_1 : decode cX12_again 1 = .ok (.i2l, 1) := by decide +kernel
theorem dX12_again_2 : decode cX12_again 2 = .ok (.lconst 1, 1) := by decide +kernel
theorem dX12_again_3 : decode cX12_again 3 = .ok (.ldc2_w 501, 3) := by decide +kernel
theorem dX12_again_6 : decode cX12_again 6 = .ok (.invokestatic 231, 3) := by decide +kernel
theorem dX12_again_9 : decode cX12_again 9 = .ok (.ifCond .eq 15, 3) := by decide +kernel
theorem dX12_again_12 : decode cX12_again 12 = .ok (.iload_n 2, 1) := by decide +kernel
theorem dX12_again_13 : decode cX12_again 13 = .ok (.i2l, 1) := by decide +kernel
theorem dX12_again_14 : decode cX12_again 14 = .ok (.lconst 1, 1) := by decide +kernel
theorem dX12_again_15 : decode cX12_again 15 = .ok (.ldc2_w 503, 3) := by decide +kernel
theorem dX12_again_18 : decode cX12_again 18 = .ok (.invokestatic 231, 3) := by decide +kernel
theorem dX12_again_21 : decode cX12_again 21 = .ok (.ifCond .ne 5, 3) := by decide +kernel
theorem dX12_again_24 : decode cX12_again 24 = .ok (.iconst (-1), 1) := by decide +kernel
theorem dX12_again_25 : decode cX12_again 25 = .ok (.ireturn, 1) := by decide +kernel
theorem dX12_again_26 : decode cX12_again 26 = .ok (.aload_n 0, 1) := by decide +kernel
theorem dX12_again_27 : decode cX12_again 27 = .ok (.invokevirtual 505, 3) := by decide +kernel
theorem dX12_again_30 : decode cX12_again 30 = .ok (.aload_n 0, 1) := by decide +kernel
theorem dX12_again_31 : decode cX12_again 31 = .ok (.getfield 182, 3) := by decide +kernel
theorem dX12_again_34 : decode cX12_again 34 = .ok (.bipush 11, 2) := by decide +kernel
theorem dX12_again_36 : decode cX12_again 36 = .ok (.iload_n 1, 1) := by decide +kernel
theorem dX12_again_37 : decode cX12_again 37 = .ok (.imul, 1) := by decide +kernel
theorem dX12_again_38 : decode cX12_again 38 = .ok (.iload_n 2, 1) := by decide +kernel
theorem dX12_again_39 : decode cX12_again 39 = .ok (.iadd, 1) := by decide +kernel
theorem dX12_again_40 : decode cX12_again 40 = .ok (.iaload, 1) := by decide +kernel
theorem dX12_again_41 : decode cX12_again 41 = .ok (.ireturn, 1) := by decide +kernel
theorem dX12_first_0 : decode cX12_first 0 = .ok (.iload_n 1, 1) := by decide +kernel
theorem dX12_first_1 : decode cX12_first 1 = .ok (.i2l, 1) := by decide +kernel
theorem dX12_first_2 : decode cX12_first 2 = .ok (.lconst 1, 1) := by decide +kernel
theorem dX12_first_3 : decode cX12_first 3 = .ok (.ldc2_w 501, 3) := by decide +kernel
theorem dX12_first_6 : decode cX12_first 6 = .ok (.invokestatic 231, 3) := by decide +kernel
theorem dX12_first_9 : decode cX12_first 9 = .ok (.ifCond .eq 15, 3) := by decide +kernel
theorem dX12_first_12 : decode cX12_first 12 = .ok (.iload_n 2, 1) := by decide +kernel
theorem dX12_first_13 : decode cX12_first 13 = .ok (.i2l, 1) := by decide +kernel
theorem dX12_first_14 : decode cX12_first 14 = .ok (.lconst 1, 1) := by decide +kernel
theorem dX12_first_15 : decode cX12_first 15 = .ok (.ldc2_w 503, 3) := by decide +kernel
theorem dX12_first_18 : decode cX12_first 18 = .ok (.invokestatic 231, 3) := by decide +kernel
theorem dX12_first_21 : decode cX12_first 21 = .ok (.ifCond .ne 5, 3) := by decide +kernel
theorem dX12_first_24 : decode cX12_first 24 = .ok (.iconst (-1), 1) := by decide +kernel
theorem dX12_first_25 : decode cX12_first 25 = .ok (.ireturn, 1) := by decide +kernel
theorem dX12_first_26 : decode cX12_first 26 = .ok (.aload_n 0, 1) := by decide +kernel
theorem dX12_first_27 : decode cX12_first 27 = .ok (.invokevirtual 505, 3) := by decide +kernel
theorem dX12_first_30 : decode cX12_first 30 = .ok (.aload_n 0, 1) := by decide +kernel
theorem dX12_first_31 : decode cX12_first 31 = .ok (.getfield 185, 3) := by decide +kernel
theorem dX12_first_34 : decode cX12_first 34 = .ok (.bipush 11, 2) := by decide +kernel
theorem dX12_first_36 : decode cX12_first 36 = .ok (.iload_n 1, 1) := by decide +kernel
theorem dX12_first_37 : decode cX12_first 37 = .ok (.imul, 1) := by decide +kernel
theorem dX12_first_38 : decode cX12_first 38 = .ok (.iload_n 2, 1) := by decide +kernel
theorem dX12_first_39 : decode cX12_first 39 = .ok (.iadd, 1) := by decide +kernel
theorem dX12_first_40 : decode cX12_first 40 = .ok (.iaload, 1) := by decide +kernel
theorem dX12_first_41 : decode cX12_first 41 = .ok (.ireturn, 1) := by decide +kernel
theorem dX12_feed_0 : decode cX12_feed 0 = .ok (.aload_n 0, 1) := by decide +kernel
theorem dX12_feed_1 : decode cX12_feed 1 = .ok (.getfield 188, 3) := by decide +kernel
theorem dX12_feed_4 : decode cX12_feed 4 = .ok (.bipush 20, 2) := by decide +kernel
theorem dX12_feed_6 : decode cX12_feed 6 = .ok (.iadd, 1) := by decide +kernel
theorem dX12_feed_7 : decode cX12_feed 7 = .ok (.sipush 700, 3) := by decide +kernel
theorem dX12_feed_10 : decode cX12_feed 10 = .ok (.if_icmp .le 5, 3) := by decide +kernel
theorem dX12_feed_13 : decode cX12_feed 13 = .ok (.iconst (-1), 1) := by decide +kernel
theorem dX12_feed_14 : decode cX12_feed 14 = .ok (.ireturn, 1) := by decide +kernel
theorem dX12_feed_15 : decode cX12_feed 15 = .ok (.iconst 0, 1) := by decide +kernel
theorem dX12_feed_16 : decode cX12_feed 16 = .ok (.istore 6, 2) := by decide +kernel
theorem dX12_feed_18 : decode cX12_feed 18 = .ok (.iload 6, 2) := by decide +kernel
theorem dX12_feed_20 : decode cX12_feed 20 = .ok (.bipush 20, 2) := by decide +kernel
theorem dX12_feed_22 : decode cX12_feed 22 = .ok (.if_icmp .ge 92, 3) := by decide +kernel
theorem dX12_feed_25 : decode cX12_feed 25 = .ok (.iload 6, 2) := by decide +kernel
theorem dX12_feed_27 : decode cX12_feed 27 = .ok (.iconst 4, 1) := by decide +kernel
theorem dX12_feed_28 : decode cX12_feed 28 = .ok (.if_icmp .ge 7, 3) := by decide +kernel
theorem dX12_feed_31 : decode cX12_feed 31 = .ok (.iload_n 1, 1) := by decide +kernel
theorem dX12_feed_32 : decode cX12_feed 32 = .ok (.goto 39, 3) := by decide +kernel
theorem dX12_feed_35 : decode cX12_feed 35 = .ok (.iload 6, 2) := by decide +kernel
theorem dX12_feed_37 : decode cX12_feed 37 = .ok (.bipush 8, 2) := by decide +kernel
theorem dX12_feed_39 : decode cX12_feed 39 = .ok (.if_icmp .ge 7, 3) := by decide +kernel
theorem dX12_feed_42 : decode cX12_feed 42 = .ok (.iload_n 2, 1) := by decide +kernel
theorem dX12_feed_43 : decode cX12_feed 43 = .ok (.goto 28, 3) := by decide +kernel
theorem dX12_feed_46 : decode cX12_feed 46 = .ok (.iload 6, 2) := by decide +kernel
theorem dX12_feed_48 : decode cX12_feed 48 = .ok (.bipush 12, 2) := by decide +kernel
theorem dX12_feed_50 : decode cX12_feed 50 = .ok (.if_icmp .ge 7, 3) := by decide +kernel
theorem dX12_feed_53 : decode cX12_feed 53 = .ok (.iload_n 3, 1) := by decide +kernel
theorem dX12_feed_54 : decode cX12_feed 54 = .ok (.goto 17, 3) := by decide +kernel
theorem dX12_feed_57 : decode cX12_feed 57 = .ok (.iload 6, 2) := by decide +kernel
theorem dX12_feed_59 : decode cX12_feed 59 = .ok (.bipush 16, 2) := by decide +kernel
theorem dX12_feed_61 : decode cX12_feed 61 = .ok (.if_icmp .ge 8, 3) := by decide +kernel
theorem dX12_feed_64 : decode cX12_feed 64 = .ok (.iload 4, 2) := by decide +kernel
theorem dX12_feed_66 : decode cX12_feed 66 = .ok (.goto 5, 3) := by decide +kernel
theorem dX12_feed_69 : decode cX12_feed 69 = .ok (.iload 5, 2) := by decide +kernel
theorem dX12_feed_71 : decode cX12_feed 71 = .ok (.istore 7, 2) := by decide +kernel
theorem dX12_feed_73 : decode cX12_feed 73 = .ok (.aload_n 0, 1) := by decide +kernel
theorem dX12_feed_74 : decode cX12_feed 74 = .ok (.getfield 7, 3) := by decide +kernel
theorem dX12_feed_77 : decode cX12_feed 77 = .ok (.aload_n 0, 1) := by decide +kernel
theorem dX12_feed_78 : decode cX12_feed 78 = .ok (.getfield 188, 3) := by decide +kernel
theorem dX12_feed_81 : decode cX12_feed 81 = .ok (.iload 7, 2) := by decide +kernel
theorem dX12_feed_83 : decode cX12_feed 83 = .ok (.bipush 8, 2) := by decide +kernel
theorem dX12_feed_85 : decode cX12_feed 85 = .ok (.iconst 3, 1) := by decide +kernel
theorem dX12_feed_86 : decode cX12_feed 86 = .ok (.iload 6, 2) := by decide +kernel
theorem dX12_feed_88 : decode cX12_feed 88 = .ok (.iconst 4, 1) := by decide +kernel
theorem dX12_feed_89 : decode cX12_feed 89 = .ok (.irem, 1) := by decide +kernel
theorem dX12_feed_90 : decode cX12_feed 90 = .ok (.isub, 1) := by decide +kernel
theorem dX12_feed_91 : decode cX12_feed 91 = .ok (.imul, 1) := by decide +kernel
theorem dX12_feed_92 : decode cX12_feed 92 = .ok (.ishr, 1) := by decide +kernel
theorem dX12_feed_93 : decode cX12_feed 93 = .ok (.sipush 255, 3) := by decide +kernel
theorem dX12_feed_96 : decode cX12_feed 96 = .ok (.iand, 1) := by decide +kernel
theorem dX12_feed_97 : decode cX12_feed 97 = .ok (.iastore, 1) := by decide +kernel
theorem dX12_feed_98 : decode cX12_feed 98 = .ok (.aload_n 0, 1) := by decide +kernel
theorem dX12_feed_99 : decode cX12_feed 99 = .ok (.dup, 1) := by decide +kernel
theorem dX12_feed_100 : decode cX12_feed 100 = .ok (.getfield 188, 3) := by decide +kernel
theorem dX12_feed_103 : decode cX12_feed 103 = .ok (.iconst 1, 1) := by decide +kernel
theorem dX12_feed_104 : decode cX12_feed 104 = .ok (.iadd, 1) := by decide +kernel
theorem dX12_feed_105 : decode cX12_feed 105 = .ok (.putfield 188, 3) := by decide +kernel
theorem dX12_feed_108 : decode cX12_feed 108 = .ok (.iinc 6 1, 3) := by decide +kernel
theorem dX12_feed_111 : decode cX12_feed 111 = .ok (.goto (-93), 3) := by decide +kernel
theorem dX12_feed_114 : decode cX12_feed 114 = .ok (.aload_n 0, 1) := by decide +kernel
theorem dX12_feed_115 : decode cX12_feed 115 = .ok (.getfield 188, 3) := by decide +kernel
theorem dX12_feed_118 : decode cX12_feed 118 = .ok (.ireturn, 1) := by decide +kernel
theorem dX12_end_0 : decode cX12_end 0 = .ok (.iload_n 1, 1) := by decide +kernel
theorem dX12_end_1 : decode cX12_end 1 = .ok (.ifCond .lt 11, 3) := by decide +kernel
theorem dX12_end_4 : decode cX12_end 4 = .ok (.iload_n 1, 1) := by decide +kernel
theorem dX12_end_5 : decode cX12_end 5 = .ok (.aload_n 0, 1) := by decide +kernel
theorem dX12_end_6 : decode cX12_end 6 = .ok (.getfield 188, 3) := by decide +kernel
theorem dX12_end_9 : decode cX12_end 9 = .ok (.if_icmp .le 5, 3) := by decide +kernel
theorem dX12_end_12 : decode cX12_end 12 = .ok (.iconst 0, 1) := by decide +kernel
theorem dX12_end_13 : decode cX12_end 13 = .ok (.ireturn, 1) := by decide +kernel
theorem dX12_end_14 : decode cX12_end 14 = .ok (.aload_n 0, 1) := by decide +kernel
theorem dX12_end_15 : decode cX12_end 15 = .ok (.iload_n 1, 1) := by decide +kernel
theorem dX12_end_16 : decode cX12_end 16 = .ok (.putfield 188, 3) := by decide +kernel
theorem dX12_end_19 : decode cX12_end 19 = .ok (.iconst 1, 1) := by decide +kernel
theorem dX12_end_20 : decode cX12_end 20 = .ok (.ireturn, 1) := by decide +kernel
def v_q_run : List Cond := .code yX12_run cX12_run 2 (some .int) :: ([.fieldLink RX12 371 "SlopeRunnerModel" "hasRun" "Z", .fieldLink RX12 154 "SlopeRunnerModel" "state" "[I", .fieldLink RX12 118 "SlopeRunnerModel" "runAbove" "[J", .fieldLink RX12 97 "SlopeRunnerModel" "putAbove" "[J", .fieldLink RX12 121 "SlopeRunnerModel" "runBelow" "[J", .fieldLink RX12 100 "SlopeRunnerModel" "putBelow" "[J"] ++ ((wsV RX12 451 RX12 yX12_goes v_q_goes0) ++ wsX120))
theorem g_q_run_0 : GoodIn v_q_run (wsV RX12 451 RX12 yX12_goes v_q_goes0) := goodIn_sub (fun w h => List.mem_cons_of_mem _ (List.mem_append_right _ (List.mem_append_left _ h))) (by decide +kernel)
set_option maxHeartbeats 4000000 in
set_option maxRecDepth 100000 in
theorem q_run (l : Launch) (D : va_G) (y : Nat → ClassId) (sz : Nat) (ad : Nat → Nat) (zw : Nat → Nat → Int32) (σ : OS) (h5 : 0 ≤ (σ.2.2.1 24 5).toInt ∧ (σ.2.2.1 24 5).toInt ≤ 8) (h9n : 0 ≤ (σ.2.2.1 24 9).toInt ∧ (σ.2.2.1 24 9).toInt ≤ 700) (n : Nat) (ty : Nat → Option (List Bool × Bool)) (hcm : (σ.2.2.1 28 1).toInt = (n : Int)) (hn2 : n ≤ 700) (hW : WC (fun j => σ.2.2.1 85 (1200 + j)) n (σ.2.2.1 24 9).toInt ty) (hop : opc (σ.2.2.1 59) (σ.2.2.1 60) (σ.2.2.1 61)) (hB57 : bJ (σ.2.2.2 57) (-1000000000) 1000000000) (hB58 : bJ (σ.2.2.2 58) 0 1000000000) (hB62 : bI (σ.2.2.1 62) 0 1760) (hB63 : bI (σ.2.2.1 63) 0 1000) (hB25 : bI (σ.2.2.1 25) 0 16) (hB64 : bI (σ.2.2.1 64) 0 12) (hB65 : bI (σ.2.2.1 65) 0 1759) (hB26 : bI (σ.2.2.1 26) 0 9999) (hB55 : bJ (σ.2.2.2 55) (-1000000000) 1000000000) (hB56 : bJ (σ.2.2.2 56) 0 1000000000) (hB45 : bJ (σ.2.2.2 45) (-1000000000) 1000000000) (hB46 : bJ (σ.2.2.2 46) 0 1000000000) : Met l yX12_run v_q_run ({ frames := 8, cells := 0, slots := 0, locals := 220 } : Room) (va_Pc [.ref (ad 1)] (xPre D (xT y) (mwd y ad zw σ) sz)) (va_Qi (fun (r : Int32) (u : Int32 × (Nat → Int32) × (Nat → Int32) × (Nat → Int32) × (Nat → Int32) × Int32 × Int64 × Int64 × Int32 × Int64 × Int64 × (Nat → Int64) × (Nat → Int64) × (Nat → Int32) × (Nat → Int32) × (Nat → Int32) × (Nat → Int32) × (Nat → Int32) × (Nat → Int32) × (Nat → Int32) × Int32 × (Nat → Int64) × (Nat → Int64)) => (opc u.2.2.2.2.2.2.2.2.2.2.2.2.2.1 u.2.2.2.2.2.2.2.2.2.2.2.2.2.2.1 u.2.2.2.2.2.2.2.2.2.2.2.2.2.2.2.1 ∧ (u.2.2.2.2.2.2.2.2.2.2.2.2.2.2.2.2.2.2.2.2.1.toInt = 0 ∨ u.2.2.2.2.2.2.2.2.2.2.2.2.2.2.2.2.2.2.2.2.1.toInt = 1)) ∧ bJ u.2.2.2.2.2.2.2.2.2.2.2.1 (-1000000000) 1000000000 ∧ bJ u.2.2.2.2.2.2.2.2.2.2.2.2.1 0 1000000000 ∧ bI u.2.2.2.2.2.2.2.2.2.2.2.2.2.2.2.2.1 0 1760 ∧ bI u.2.2.1 0 1000 ∧ bI u.2.2.2.2.2.2.2.2.2.2.2.2.2.2.2.2.2.2.1 0 12 ∧ bI u.2.2.2.2.2.2.2.2.2.2.2.2.2.2.2.2.2.2.2.1 0 1759 ∧ bJ u.2.2.2.2.2.2.2.2.2.2.2.2.2.2.2.2.2.2.2.2.2.1 (-1000000000) 1000000000 ∧ bJ u.2.2.2.2.2.2.2.2.2.2.2.2.2.2.2.2.2.2.2.2.2.2 0 1000000000) (fun (u : Int32 × (Nat → Int32) × (Nat → Int32) × (Nat → Int32) × (Nat → Int32) × Int32 × Int64 × Int64 × Int32 × Int64 × Int64 × (Nat → Int64) × (Nat → Int64) × (Nat → Int32) × (Nat → Int32) × (Nat → Int32) × (Nat → Int32) × (Nat → Int32) × (Nat → Int32) × (Nat → Int32) × Int32 × (Nat → Int64) × (Nat → Int64)) => xB D (xT y) (va_A (mwd y ad zw σ) sz) (mwd y ad zw (tJ (tJ (sI (tI (tI (tI (tI (tI (tI (tI (tJ (tJ (sJ (sJ (sI (sJ (sJ (sI (tI (tI (tI (tI (sI σ 73 u.1) 72 u.2.1) 63 u.2.2.1) 67 u.2.2.2.1) 66 u.2.2.2.2.1) 44 u.2.2.2.2.2.1) 42 u.2.2.2.2.2.2.1) 43 u.2.2.2.2.2.2.2.1) 68 u.2.2.2.2.2.2.2.2.1) 69 u.2.2.2.2.2.2.2.2.2.1) 70 u.2.2.2.2.2.2.2.2.2.2.1) 57 u.2.2.2.2.2.2.2.2.2.2.2.1) 58 u.2.2.2.2.2.2.2.2.2.2.2.2.1) 59 u.2.2.2.2.2.2.2.2.2.2.2.2.2.1) 60 u.2.2.2.2.2.2.2.2.2.2.2.2.2.2.1) 61 u.2.2.2.2.2.2.2.2.2.2.2.2.2.2.2.1) 62 u.2.2.2.2.2.2.2.2.2.2.2.2.2.2.2.2.1) 71 u.2.2.2.2.2.2.2.2.2.2.2.2.2.2.2.2.2.1) 64 u.2.2.2.2.2.2.2.2.2.2.2.2.2.2.2.2.2.2.1) 65 u.2.2.2.2.2.2.2.2.2.2.2.2.2.2.2.2.2.2.2.1) 54 u.2.2.2.2.2.2.2.2.2.2.2.2.2.2.2.2.2.2.2.2.1) 55 u.2.2.2.2.2.2.2.2.2.2.2.2.2.2.2.2.2.2.2.2.2.1) 56 u.2.2.2.2.2.2.2.2.2.2.2.2.2.2.2.2.2.2.2.2.2.2))) (va_A (mwd y ad zw σ) sz)) 0 0 (va_A (mwd y ad zw σ) sz) := by
  refine x_meti (cc := cX12_run) (maxL := 2) (by decide) rfl (Nat.le_of_ble_eq_true rfl) ?_
  intro p e s m below meth c A H locs Q hx hb hml hown hts hr hlocks hmn hA hP hK hD hS ls hl hQ
  have hl : lv_has ls 2 [(0, .ref (ad 1))] := hl
  have kk_8 : (8 : Int32).toInt = 8 := rfl
  have kk_0 : (0 : Int32).toInt = 0 := rfl
  have fl371 := hts (.fieldLink RX12 371 "SlopeRunnerModel" "hasRun" "Z") (List.mem_of_getElem? (i := 1) rfl)
  have inX12 : ∀ w ∈ wsX120, w ∈ v_q_run := (fun w h => List.mem_cons_of_mem _ (List.mem_append_right _ (List.mem_append_right _ h)))
  have fl154 := hts (.fieldLink RX12 154 "SlopeRunnerModel" "state" "[I") (List.mem_of_getElem? (i := 2) rfl)
  have fl118 := hts (.fieldLink RX12 118 "SlopeRunnerModel" "runAbove" "[J") (List.mem_of_getElem? (i := 3) rfl)
  have fl97 := hts (.fieldLink RX12 97 "SlopeRunnerModel" "putAbove" "[J") (List.mem_of_getElem? (i := 4) rfl)
  have fl121 := hts (.fieldLink RX12 121 "SlopeRunnerModel" "runBelow" "[J") (List.mem_of_getElem? (i := 5) rfl)
  have fl100 := hts (.fieldLink RX12 100 "SlopeRunnerModel" "putBelow" "[J") (List.mem_of_getElem? (i := 6) rfl)
  have kk_1 : (1 : Int32).toInt = 1 := rfl
  refine lv_iconst (v := 0) hx hb dX12_run_0 (by decide) ?_
  refine lv_istore_n (lv' := [(1, .int 0), (0, .ref (ad 1))]) hx hb dX12_run_1 rfl hl (by decide) rfl (fun ls hl => ?_)
  have hP : va_P D vwCl (mwd y ad zw (tJ (tJ σ 55 (σ.2.2.2 55)) 56 (σ.2.2.2 56))) H := hP
  have hD : va_D A (mwd y ad zw (tJ (tJ σ 55 (σ.2.2.2 55)) 56 (σ.2.2.2 56))) := hD
  have loop : ∀ (fu : Nat) (j : Int32) (f1 : Nat → Int64) (f2 : Nat → Int64) (H : Heap) (locs : List Loc) (ls : Array Slot), (0 ≤ j.toInt) → (j.toInt ≤ 8) → (bJ f1 (-1000000000) 1000000000) → (bJ f2 0 1000000000) → (8 - j.toInt < (fu : Int)) → va_P D vwCl (mwd y ad zw (tJ (tJ σ 55 f1) 56 f2)) H → va_D A (mwd y ad zw (tJ (tJ σ 55 f1) 56 f2)) → va_S A s.heap H locs → lv_has ls 2 [(1, .int j), (0, .ref (ad 1))] → W p l e ({ frames := 8, cells := 0, slots := 0, locals := 220 } : Room) s m ([.ref (ad 1)] : List Value).toArray below meth c H locs 0 0 Q (F0 m 2 ls []) := by
    intro fu
    induction fu with
    | zero =>
      intro j f1 f2 H locs ls hj0 hj1 hf1 hf2 hm
      exact absurd hm (by omega)
    | succ fu ih_loop =>
      intro j f1 f2 H locs ls hj0 hj1 hf1 hf2 hm hP hD hS hl
      refine lv_iload_n hx hb dX12_run_2 rfl (lv_at hl 0 rfl) ?_
      refine lv_bipush (v := 8) hx hb dX12_run_3 (by decide) ?_
      refine lv_icmp_ge (tgt := 38) hx hb dX12_run_5 (by decide) (fun c_1 => ?_) (fun c_1 => ?_)
      · have kc_1 : j.toInt ≥ 8 := by have h9 := c_1; simp only [ge_iff_le, gt_iff_lt, x_lt, x_le, x_eq, ne_eq, Int32.not_lt, Int32.not_le] at h9; simp only [Int32.reduceToInt] at h9; omega
        refine lv_aload_n hx hb dX12_run_38 rfl (lv_at hl 1 rfl) ?_
        refine lv_iconst (v := 0) hx hb dX12_run_39 (by decide) ?_
        refine x_callvW (va_runV (As := [.int 0]) (rest := []) ⟨hx, hb, hml, hown, hts⟩ (q_goes0 l D y H.size ad zw (tJ (tJ σ 55 f1) 56 f2) h5 h9n n ty hcm hn2 hW hop hB57 hB58 hB62 hB63 hB25 hB64 hB65 hB26 hf1 hf2) (cwV 1 hts g_q_run_0 rfl rfl rfl (by decide +kernel) ⟨Nat.le_of_ble_eq_true rfl, Nat.le_of_ble_eq_true rfl⟩) (x_preV (q := (RX12, TX12, 85)) hK hP hD (ci := 11) (q0 := 0) rfl mwd_o0) rfl rfl hl.1 rfl (lv_room (Nat.le_of_ble_eq_true rfl)) dX12_run_40 ⟨Nat.le_of_ble_eq_true rfl, Nat.le_of_ble_eq_true rfl⟩) hP hD hS hA (fun u H locs hw hP hD hS => ?_)
        obtain ⟨n_2, f_3, f_4, f_5, f_6, n_7, j_8, j_9, n_10, j_11, j_12, f_13, f_14, f_15, f_16, f_17, f_18, f_19, f_20, f_21⟩ := u
        try dsimp only at hw
        have hP : va_P D vwCl (mwd y ad zw (tI (tI (tI (tI (tI (tI (tI (tJ (tJ (sJ (sJ (sI (sJ (sJ (sI (tI (tI (tI (tI (sI (tJ (tJ σ 55 f1) 56 f2) 73 n_2) 72 f_3) 63 f_4) 67 f_5) 66 f_6) 44 n_7) 42 j_8) 43 j_9) 68 n_10) 69 j_11) 70 j_12) 57 f_13) 58 f_14) 59 f_15) 60 f_16) 61 f_17) 62 f_18) 71 f_19) 64 f_20) 65 f_21)) H := hP
        have hD : va_D A (mwd y ad zw (tI (tI (tI (tI (tI (tI (tI (tJ (tJ (sJ (sJ (sI (sJ (sJ (sI (tI (tI (tI (tI (sI (tJ (tJ σ 55 f1) 56 f2) 73 n_2) 72 f_3) 63 f_4) 67 f_5) 66 f_6) 44 n_7) 42 j_8) 43 j_9) 68 n_10) 69 j_11) 70 j_12) 57 f_13) 58 f_14) 59 f_15) 60 f_16) 61 f_17) 62 f_18) 71 f_19) 64 f_20) 65 f_21)) := hD
        have hw : (opc f_15 f_16 f_17) ∧ bJ f_13 (-1000000000) 1000000000 ∧ bJ f_14 0 1000000000 ∧ bI f_18 0 1760 ∧ bI f_4 0 1000 ∧ bI f_20 0 12 ∧ bI f_21 0 1759 := hw
        obtain ⟨hw, hg_22, hg_23, hg_24, hg_25, hg_26, hg_27⟩ := hw
        have ho9 := hw
        refine lv_aload_n hx hb dX12_run_43 rfl (lv_at hl 1 rfl) ?_
        refine lv_iconst (v := 1) hx hb dX12_run_44 (by decide) ?_
        refine va_put (D := D) (ci := 11) (v := .int 1) (ty := .boolean) (C := RX12) (T := TX12) (N := 85) hx hb hts inX12 tyX12 tyX12_ok nmX12 hown hK hP hD hS 0 mwd_o0 rfl 54 (by decide) fl371 (fun _ h9 => h9) rfl (by decide +kernel) rfl rfl (Nat.le_of_ble_eq_true rfl) dX12_run_45 (fun H locs hP hD hS => ?_)
        have hP : va_P D vwCl (mwd y ad zw (sI (tI (tI (tI (tI (tI (tI (tI (tJ (tJ (sJ (sJ (sI (sJ (sJ (sI (tI (tI (tI (tI (sI (tJ (tJ σ 55 f1) 56 f2) 73 n_2) 72 f_3) 63 f_4) 67 f_5) 66 f_6) 44 n_7) 42 j_8) 43 j_9) 68 n_10) 69 j_11) 70 j_12) 57 f_13) 58 f_14) 59 f_15) 60 f_16) 61 f_17) 62 f_18) 71 f_19) 64 f_20) 65 f_21) 54 1)) H := x_trP hP mwd_p0_54
        have hD : va_D A (mwd y ad zw (sI (tI (tI (tI (tI (tI (tI (tI (tJ (tJ (sJ (sJ (sI (sJ (sJ (sI (tI (tI (tI (tI (sI (tJ (tJ σ 55 f1) 56 f2) 73 n_2) 72 f_3) 63 f_4) 67 f_5) 66 f_6) 44 n_7) 42 j_8) 43 j_9) 68 n_10) 69 j_11) 70 j_12) 57 f_13) 58 f_14) 59 f_15) 60 f_16) 61 f_17) 62 f_18) 71 f_19) 64 f_20) 65 f_21) 54 1)) := x_trD hD mwd_p0_54
        refine lv_aload_n hx hb dX12_run_48 rfl (lv_at hl 1 rfl) ?_
        refine va_get (D := D) (ci := 11) (v := .ref (ad 67)) (C := RX12) (T := TX12) (N := 85) hx hb hts inX12 hown hK hP 0 mwd_o0 rfl 67 (by decide) fl154 (fun _ h9 => h9) rfl dX12_run_49 ?_
        refine lv_iconst (v := 0) hx hb dX12_run_52 (by decide) ?_
        refine va_iald hx hb hK hP 47 2 mwd_a47 rfl (x_in (by decide) (by decide)) dX12_run_53 ?_
        refine lv_topi (fun i_28 ei_28 => ?_)
        have ei_28 : i_28 = f_5 (Int32.toNatClampNeg 0) := ei_28
        have hP : va_P D vwCl (mwd y ad zw (tJ (tJ (sI (tI (tI (tI (tI (tI (tI (tI (tJ (tJ (sJ (sJ (sI (sJ (sJ (sI (tI (tI (tI (tI (sI σ 73 n_2) 72 f_3) 63 f_4) 67 f_5) 66 f_6) 44 n_7) 42 j_8) 43 j_9) 68 n_10) 69 j_11) 70 j_12) 57 f_13) 58 f_14) 59 f_15) 60 f_16) 61 f_17) 62 f_18) 71 f_19) 64 f_20) 65 f_21) 54 1) 55 f1) 56 f2)) H := hP
        have hD : va_D A (mwd y ad zw (tJ (tJ (sI (tI (tI (tI (tI (tI (tI (tI (tJ (tJ (sJ (sJ (sI (sJ (sJ (sI (tI (tI (tI (tI (sI σ 73 n_2) 72 f_3) 63 f_4) 67 f_5) 66 f_6) 44 n_7) 42 j_8) 43 j_9) 68 n_10) 69 j_11) 70 j_12) 57 f_13) 58 f_14) 59 f_15) 60 f_16) 61 f_17) 62 f_18) 71 f_19) 64 f_20) 65 f_21) 54 1) 55 f1) 56 f2)) := hD
        exact x_iretW (v := i_28) (u := (n_2, f_3, f_4, f_5, f_6, n_7, j_8, j_9, n_10, j_11, j_12, f_13, f_14, f_15, f_16, f_17, f_18, f_19, f_20, f_21, 1, f1, f2)) hx hb hr hQ (by (try dsimp only); exact ⟨⟨ho9, by decide⟩, hg_22, hg_23, hg_24, hg_25, hg_26, hg_27, hf1, hf2⟩) hP hD hK hS dX12_run_54 hlocks
      · have kc_1 : j.toInt < 8 := by have h9 := c_1; simp only [ge_iff_le, gt_iff_lt, x_lt, x_le, x_eq, ne_eq, Int32.not_lt, Int32.not_le] at h9; simp only [Int32.reduceToInt] at h9; omega
        refine lv_aload_n hx hb dX12_run_8 rfl (lv_at hl 1 rfl) ?_
        refine va_get (D := D) (ci := 11) (v := .ref (ad 55)) (C := RX12) (T := TX12) (N := 85) hx hb hts inX12 hown hK hP 0 mwd_o0 rfl 55 (by decide) fl118 (fun _ h9 => h9) rfl dX12_run_9 ?_
        refine lv_iload_n hx hb dX12_run_12 rfl (lv_at hl 0 rfl) ?_
        refine lv_aload_n hx hb dX12_run_13 rfl (lv_at hl 1 rfl) ?_
        refine va_get (D := D) (ci := 11) (v := .ref (ad 45)) (C := RX12) (T := TX12) (N := 85) hx hb hts inX12 hown hK hP 0 mwd_o0 rfl 45 (by decide) fl97 (fun _ h9 => h9) rfl dX12_run_14 ?_
        refine lv_iload_n hx hb dX12_run_17 rfl (lv_at hl 0 rfl) ?_
        refine va_lald hx hb hK hP 28 3 mwd_a28 rfl (x_in (by omega) (by omega)) dX12_run_18 ?_
        refine lv_topl (fun j_29 ej_29 => ?_)
        have ej_29 : j_29 = (σ.2.2.2 45) (Int32.toNatClampNeg j) := ej_29
        have bj_29 := b_atJ hB45 ej_29
        refine va_last hx hb hK hP hD hS 35 3 mwd_a35 rfl (x_in (by omega) (by omega)) dX12_run_19 (fun H locs hP hD hS => ?_)
        obtain ⟨f_30, ef_30⟩ : ∃ z9 : Nat → Int64, z9 = (vp_updL f1 (Int32.toNatClampNeg j) j_29) := ⟨_, rfl⟩
        have hP : va_P D vwCl (mwd y ad zw (tJ (tJ (tJ σ 55 f1) 56 f2) 55 f_30)) H := by rw [ef_30]; exact x_trP hP mwd_s35
        have hD : va_D A (mwd y ad zw (tJ (tJ (tJ σ 55 f1) 56 f2) 55 f_30)) := by rw [ef_30]; exact x_trD hD mwd_s35
        have hvf_30 : bJ f_30 (-1000000000) 1000000000 := by rw [ef_30]; exact b_updJ hf1 (by omega) (by omega)
        refine lv_aload_n hx hb dX12_run_20 rfl (lv_at hl 1 rfl) ?_
        refine va_get (D := D) (ci := 11) (v := .ref (ad 56)) (C := RX12) (T := TX12) (N := 85) hx hb hts inX12 hown hK hP 0 mwd_o0 rfl 56 (by decide) fl121 (fun _ h9 => h9) rfl dX12_run_21 ?_
        refine lv_iload_n hx hb dX12_run_24 rfl (lv_at hl 0 rfl) ?_
        refine lv_aload_n hx hb dX12_run_25 rfl (lv_at hl 1 rfl) ?_
        refine va_get (D := D) (ci := 11) (v := .ref (ad 46)) (C := RX12) (T := TX12) (N := 85) hx hb hts inX12 hown hK hP 0 mwd_o0 rfl 46 (by decide) fl100 (fun _ h9 => h9) rfl dX12_run_26 ?_
        refine lv_iload_n hx hb dX12_run_29 rfl (lv_at hl 0 rfl) ?_
        refine va_lald hx hb hK hP 29 3 mwd_a29 rfl (x_in (by omega) (by omega)) dX12_run_30 ?_
        refine lv_topl (fun j_31 ej_31 => ?_)
        have ej_31 : j_31 = (σ.2.2.2 46) (Int32.toNatClampNeg j) := ej_31
        have bj_31 := b_atJ hB46 ej_31
        refine va_last hx hb hK hP hD hS 36 3 mwd_a36 rfl (x_in (by omega) (by omega)) dX12_run_31 (fun H locs hP hD hS => ?_)
        obtain ⟨f_32, ef_32⟩ : ∃ z9 : Nat → Int64, z9 = (vp_updL f2 (Int32.toNatClampNeg j) j_31) := ⟨_, rfl⟩
        have hP : va_P D vwCl (mwd y ad zw (tJ (tJ (tJ (tJ σ 55 f1) 56 f2) 55 f_30) 56 f_32)) H := by rw [ef_32]; exact x_trP hP mwd_s36
        have hD : va_D A (mwd y ad zw (tJ (tJ (tJ (tJ σ 55 f1) 56 f2) 55 f_30) 56 f_32)) := by rw [ef_32]; exact x_trD hD mwd_s36
        have hvf_32 : bJ f_32 0 1000000000 := by rw [ef_32]; exact b_updJ hf2 (by omega) (by omega)
        obtain ⟨i_33, ei_33⟩ : ∃ z9 : Int32, z9 = j + 1 := ⟨_, rfl⟩
        have vi_33 : i_33.toInt = j.toInt + 1 := by have h9 := x_add ei_33 (by omega) (by omega); omega
        refine lv_iinc (v := i_33) (lv' := [(1, .int i_33), (0, .ref (ad 1))]) hx hb dX12_run_32 hl (k := 0) rfl (by rw [ei_33]; rfl) (by decide) rfl (fun ls hl => ?_)
        refine lv_goto (tgt := 2) hx hb dX12_run_35 (by decide) ?_
        have hP : va_P D vwCl (mwd y ad zw (tJ (tJ σ 55 f_30) 56 f_32)) H := hP
        have hD : va_D A (mwd y ad zw (tJ (tJ σ 55 f_30) 56 f_32)) := hD
        exact ih_loop i_33 f_30 f_32 H locs ls (by omega) (by omega) hvf_30 hvf_32 (by omega) hP hD hS (lv_sub hl [0, 1] rfl)
  exact loop 9 0 (σ.2.2.2 55) (σ.2.2.2 56) H locs ls (by decide) (by decide) hB55 hB56 (by omega) hP hD hS (lv_sub hl [0, 1] rfl)

def v_q_difference : List Cond := .code yX12_difference cX12_difference 11 (some .long) :: ([.fieldLink RX12 384 "SlopeRunnerModel" "isStuck" "Z", .fieldLink RX12 387 "SlopeRunnerModel" "up" "J", .fieldLink RX12 391 "SlopeRunnerModel" "down" "J", .fieldLink RX12 118 "SlopeRunnerModel" "runAbove" "[J", .fieldLink RX12 121 "SlopeRunnerModel" "runBelow" "[J", .fieldLink RX12 154 "SlopeRunnerModel" "state" "[I", .fieldLink RX12 145 "SlopeRunnerModel" "results" "[I", .fieldLink RX12 148 "SlopeRunnerModel" "resultAt" "[I", .fieldLink RX12 124 "SlopeRunnerModel" "valueAbove" "[J", .fieldLink RX12 127 "SlopeRunnerModel" "valueBelow" "[J", .constantLong RX12 406 (-2000000000), .constantLong RX12 404 (-1000000000), .constantLong RX12 398 1000000000] ++ ((wsV RX12 454 RX12 yX12_isResult v_q_isResult) ++ ((wsV RX12 464 RX12 yX12_isInput v_q_isInput) ++ ((wsS RX12 231 yX12_isIn v_q_isIn) ++ ((wsV RX12 400 RX12 yX12_comes v_q_comes) ++ ((wsV RX12 424 RX12 yX12_adds v_q_adds) ++ ((wsV RX12 451 RX12 yX12_goes v_q_goes1) ++ ((wsV RX12 408 RX12 yX12_takesOff v_q_takesOff) ++ ((wsV RX12 430 RX12 yX12_divides v_q_divides) ++ wsX120)))))))))
theorem g_q_difference_0 : GoodIn v_q_difference (wsV RX12 454 RX12 yX12_isResult v_q_isResult) := goodIn_sub (fun w h => List.mem_cons_of_mem _ (List.mem_append_right _ (List.mem_append_left _ h))) (by decide +kernel)
theorem g_q_difference_1 : GoodIn v_q_difference (wsV RX12 464 RX12 yX12_isInput v_q_isInput) := goodIn_sub (fun w h => List.mem_cons_of_mem _ (List.mem_append_right _ (List.mem_append_right _ (List.mem_append_left _ h)))) (by decide +kernel)
theorem g_q_difference_2 : GoodIn v_q_difference (wsS RX12 231 yX12_isIn v_q_isIn) := goodIn_sub (fun w h => List.mem_cons_of_mem _ (List.mem_append_right _ (List.mem_append_right _ (List.mem_append_right _ (List.mem_append_left _ h))))) (by decide +kernel)
theorem g_q_difference_3 : GoodIn v_q_difference (wsV RX12 400 RX12 yX12_comes v_q_comes) := goodIn_sub (fun w h => List.mem_cons_of_mem _ (List.mem_append_right _ (List.mem_append_right _ (List.mem_append_right _ (List.mem_append_right _ (List.mem_append_left _ h)))))) (by decide +kernel)
theorem g_q_difference_4 : GoodIn v_q_difference (wsV RX12 424 RX12 yX12_adds v_q_adds) := goodIn_sub (fun w h => List.mem_cons_of_mem _ (List.mem_append_right _ (List.mem_append_right _ (List.mem_append_right _ (List.mem_append_right _ (List.mem_append_right _ (List.mem_append_left _ h))))))) (by decide +kernel)
theorem g_q_difference_5 : GoodIn v_q_difference (wsV RX12 451 RX12 yX12_goes v_q_goes1) := goodIn_sub (fun w h => List.mem_cons_of_mem _ (List.mem_append_right _ (List.mem_append_right _ (List.mem_append_right _ (List.mem_append_right _ (List.mem_append_right _ (List.mem_append_right _ (List.mem_append_left _ h)))))))) (by decide +kernel)
theorem g_q_difference_6 : GoodIn v_q_difference (wsV RX12 408 RX12 yX12_takesOff v_q_takesOff) := goodIn_sub (fun w h => List.mem_cons_of_mem _ (List.mem_append_right _ (List.mem_append_right _ (List.mem_append_right _ (List.mem_append_right _ (List.mem_append_right _ (List.mem_append_right _ (List.mem_append_right _ (List.mem_append_left _ h))))))))) (by decide +kernel)
theorem g_q_difference_7 : GoodIn v_q_difference (wsV RX12 430 RX12 yX12_divides v_q_divides) := goodIn_sub (fun w h => List.mem_cons_of_mem _ (List.mem_append_right _ (List.mem_append_right _ (List.mem_append_right _ (List.mem_append_right _ (List.mem_append_right _ (List.mem_append_right _ (List.mem_append_right _ (List.mem_append_right _ (List.mem_append_left _ h)))))))))) (by decide +kernel)
set_option maxHeartbeats 4000000 in
set_option maxRecDepth 100000 in
theorem q_difference (l : Launch) (D : va_G) (y : Nat → ClassId) (sz : Nat) (ad : Nat → Nat) (zw : Nat → Nat → Int32) (σ : OS) (k i a b q : Int32) (h5 : 0 ≤ (σ.2.2.1 24 5).toInt ∧ (σ.2.2.1 24 5).toInt ≤ 8) (h9n : 0 ≤ (σ.2.2.1 24 9).toInt ∧ (σ.2.2.1 24 9).toInt ≤ 700) (n : Nat) (ty : Nat → Option (List Bool × Bool)) (hcm : (σ.2.2.1 28 1).toInt = (n : Int)) (hn2 : n ≤ 700) (hW : WC (fun j => σ.2.2.1 85 (1200 + j)) n (σ.2.2.1 24 9).toInt ty) (hop : opc (σ.2.2.1 59) (σ.2.2.1 60) (σ.2.2.1 61)) (hB57 : bJ (σ.2.2.2 57) (-1000000000) 1000000000) (hB58 : bJ (σ.2.2.2 58) 0 1000000000) (hB62 : bI (σ.2.2.1 62) 0 1760) (hB63 : bI (σ.2.2.1 63) 0 1000) (hB25 : bI (σ.2.2.1 25) 0 16) (hB64 : bI (σ.2.2.1 64) 0 12) (hB65 : bI (σ.2.2.1 65) 0 1759) (hB26 : bI (σ.2.2.1 26) 0 9999) (hB55 : bJ (σ.2.2.2 55) (-1000000000) 1000000000) (hB56 : bJ (σ.2.2.2 56) 0 1000000000) : Met l yX12_difference v_q_difference ({ frames := 7, cells := 0, slots := 0, locals := 189 } : Room) (va_Pc [.ref (ad 1), .int k, .int i, .int a, .int b, .int q] (xPre D (xT y) (mwd y ad zw σ) sz)) (va_Ql (fun (r : Int64) (u : Int32 × (Nat → Int32) × (Nat → Int32) × (Nat → Int32) × (Nat → Int32) × Int32 × Int64 × Int64 × Int32 × Int64 × Int64 × (Nat → Int64) × (Nat → Int64) × (Nat → Int32) × (Nat → Int32) × (Nat → Int32) × (Nat → Int32) × (Nat → Int32) × (Nat → Int32) × (Nat → Int32) × (Nat → Int64) × (Nat → Int64)) => (opc u.2.2.2.2.2.2.2.2.2.2.2.2.2.1 u.2.2.2.2.2.2.2.2.2.2.2.2.2.2.1 u.2.2.2.2.2.2.2.2.2.2.2.2.2.2.2.1) ∧ bJ u.2.2.2.2.2.2.2.2.2.2.2.1 (-1000000000) 1000000000 ∧ bJ u.2.2.2.2.2.2.2.2.2.2.2.2.1 0 1000000000 ∧ bI u.2.2.2.2.2.2.2.2.2.2.2.2.2.2.2.2.1 0 1760 ∧ bI u.2.2.1 0 1000 ∧ bI u.2.2.2.2.2.2.2.2.2.2.2.2.2.2.2.2.2.2.1 0 12 ∧ bI u.2.2.2.2.2.2.2.2.2.2.2.2.2.2.2.2.2.2.2.1 0 1759 ∧ bJ u.2.2.2.2.2.2.2.2.2.2.2.2.2.2.2.2.2.2.2.2.1 (-1000000000) 1000000000 ∧ bJ u.2.2.2.2.2.2.2.2.2.2.2.2.2.2.2.2.2.2.2.2.2 0 1000000000) (fun (u : Int32 × (Nat → Int32) × (Nat → Int32) × (Nat → Int32) × (Nat → Int32) × Int32 × Int64 × Int64 × Int32 × Int64 × Int64 × (Nat → Int64) × (Nat → Int64) × (Nat → Int32) × (Nat → Int32) × (Nat → Int32) × (Nat → Int32) × (Nat → Int32) × (Nat → Int32) × (Nat → Int32) × (Nat → Int64) × (Nat → Int64)) => xB D (xT y) (va_A (mwd y ad zw σ) sz) (mwd y ad zw (tJ (tJ (tI (tI (tI (tI (tI (tI (tI (tJ (tJ (sJ (sJ (sI (sJ (sJ (sI (tI (tI (tI (tI (sI σ 73 u.1) 72 u.2.1) 63 u.2.2.1) 67 u.2.2.2.1) 66 u.2.2.2.2.1) 44 u.2.2.2.2.2.1) 42 u.2.2.2.2.2.2.1) 43 u.2.2.2.2.2.2.2.1) 68 u.2.2.2.2.2.2.2.2.1) 69 u.2.2.2.2.2.2.2.2.2.1) 70 u.2.2.2.2.2.2.2.2.2.2.1) 57 u.2.2.2.2.2.2.2.2.2.2.2.1) 58 u.2.2.2.2.2.2.2.2.2.2.2.2.1) 59 u.2.2.2.2.2.2.2.2.2.2.2.2.2.1) 60 u.2.2.2.2.2.2.2.2.2.2.2.2.2.2.1) 61 u.2.2.2.2.2.2.2.2.2.2.2.2.2.2.2.1) 62 u.2.2.2.2.2.2.2.2.2.2.2.2.2.2.2.2.1) 71 u.2.2.2.2.2.2.2.2.2.2.2.2.2.2.2.2.2.1) 64 u.2.2.2.2.2.2.2.2.2.2.2.2.2.2.2.2.2.2.1) 65 u.2.2.2.2.2.2.2.2.2.2.2.2.2.2.2.2.2.2.2.1) 55 u.2.2.2.2.2.2.2.2.2.2.2.2.2.2.2.2.2.2.2.2.1) 56 u.2.2.2.2.2.2.2.2.2.2.2.2.2.2.2.2.2.2.2.2.2))) (va_A (mwd y ad zw σ) sz)) 0 0 (va_A (mwd y ad zw σ) sz) := by
  refine x_metl (cc := cX12_difference) (maxL := 11) (by decide) rfl (Nat.le_of_ble_eq_true rfl) ?_
  intro p e s m below meth c A H locs Q hx hb hml hown hts hr hlocks hmn hA hP hK hD hS ls hl hQ
  have hl : lv_has ls 11 [(0, .ref (ad 1)), (1, .int k), (2, .int i), (3, .int a), (4, .int b), (5, .int q)] := hl
  have kk_0 : (0 : Int32).toInt = 0 := rfl
  have kl_m1000000000 : ((-1000000000) : Int64).toInt = -1000000000 := rfl
  have kl_1000000000 : (1000000000 : Int64).toInt = 1000000000 := rfl
  have kl_1 : (1 : Int64).toInt = 1 := rfl
  have kk_8 : (8 : Int32).toInt = 8 := rfl
  have fl384 := hts (.fieldLink RX12 384 "SlopeRunnerModel" "isStuck" "Z") (List.mem_of_getElem? (i := 1) rfl)
  have inX12 : ∀ w ∈ wsX120, w ∈ v_q_difference := (fun w h => List.mem_cons_of_mem _ (List.mem_append_right _ (List.mem_append_right _ (List.mem_append_right _ (List.mem_append_right _ (List.mem_append_right _ (List.mem_append_right _ (List.mem_append_right _ (List.mem_append_right _ (List.mem_append_right _ h))))))))))
  have fl387 := hts (.fieldLink RX12 387 "SlopeRunnerModel" "up" "J") (List.mem_of_getElem? (i := 2) rfl)
  have fl391 := hts (.fieldLink RX12 391 "SlopeRunnerModel" "down" "J") (List.mem_of_getElem? (i := 3) rfl)
  have fl118 := hts (.fieldLink RX12 118 "SlopeRunnerModel" "runAbove" "[J") (List.mem_of_getElem? (i := 4) rfl)
  have fl121 := hts (.fieldLink RX12 121 "SlopeRunnerModel" "runBelow" "[J") (List.mem_of_getElem? (i := 5) rfl)
  have kk_1 : (1 : Int32).toInt = 1 := rfl
  have fl154 := hts (.fieldLink RX12 154 "SlopeRunnerModel" "state" "[I") (List.mem_of_getElem? (i := 6) rfl)
  have fl145 := hts (.fieldLink RX12 145 "SlopeRunnerModel" "results" "[I") (List.mem_of_getElem? (i := 7) rfl)
  have fl148 := hts (.fieldLink RX12 148 "SlopeRunnerModel" "resultAt" "[I") (List.mem_of_getElem? (i := 8) rfl)
  have kk_12 : (12 : Int32).toInt = 12 := rfl
  have kk_1760 : (1760 : Int32).toInt = 1760 := rfl
  have fl124 := hts (.fieldLink RX12 124 "SlopeRunnerModel" "valueAbove" "[J") (List.mem_of_getElem? (i := 9) rfl)
  have fl127 := hts (.fieldLink RX12 127 "SlopeRunnerModel" "valueBelow" "[J") (List.mem_of_getElem? (i := 10) rfl)
  refine lv_aload_n hx hb dX12_difference_0 rfl (lv_at hl 0 rfl) ?_
  refine lv_iload_n hx hb dX12_difference_1 rfl (lv_at hl 1 rfl) ?_
  refine x_calliW (va_runV (As := [.int k]) (rest := []) ⟨hx, hb, hml, hown, hts⟩ (q_isResult l D y H.size ad zw σ k hB64) (cwV 1 hts g_q_difference_0 rfl rfl rfl (by decide +kernel) ⟨Nat.le_of_ble_eq_true rfl, Nat.le_of_ble_eq_true rfl⟩) (x_preV (q := (RX12, TX12, 85)) hK hP hD (ci := 11) (q0 := 0) rfl mwd_o0) rfl rfl hl.1 rfl (lv_room (Nat.le_of_ble_eq_true rfl)) dX12_difference_2 ⟨Nat.le_of_ble_eq_true rfl, Nat.le_of_ble_eq_true rfl⟩) hP hD hS hA (fun r_1 u H locs hw hP hD hS => ?_)
  try dsimp only at hw
  have hP : va_P D vwCl (mwd y ad zw σ) H := hP
  have hD : va_D A (mwd y ad zw σ) := hD
  refine lv_if_eq (tgt := 47) hx hb dX12_difference_5 (by decide) (fun c_2 => ?_) (fun c_2 => ?_)
  · have kc_2 : r_1.toInt = 0 := by have h9 := c_2; simp only [ge_iff_le, gt_iff_lt, x_lt, x_le, x_eq, ne_eq, Int32.not_lt, Int32.not_le] at h9; simp only [Int32.reduceToInt] at h9; omega
    refine lv_ldc2 (v := (-2000000000)) hx hb hown (hts (.constantLong RX12 406 (-2000000000)) (List.mem_of_getElem? (i := 11) rfl)) dX12_difference_47 ?_
    have hP : va_P D vwCl (mwd y ad zw (tJ (tJ (tI (tI (tI (tI (tI (tI (tI (tJ (tJ (sJ (sJ (sI (sJ (sJ (sI (tI (tI (tI (tI (sI σ 73 (σ.1 73)) 72 (σ.2.2.1 72)) 63 (σ.2.2.1 63)) 67 (σ.2.2.1 67)) 66 (σ.2.2.1 66)) 44 (σ.1 44)) 42 (σ.2.1 42)) 43 (σ.2.1 43)) 68 (σ.1 68)) 69 (σ.2.1 69)) 70 (σ.2.1 70)) 57 (σ.2.2.2 57)) 58 (σ.2.2.2 58)) 59 (σ.2.2.1 59)) 60 (σ.2.2.1 60)) 61 (σ.2.2.1 61)) 62 (σ.2.2.1 62)) 71 (σ.2.2.1 71)) 64 (σ.2.2.1 64)) 65 (σ.2.2.1 65)) 55 (σ.2.2.2 55)) 56 (σ.2.2.2 56))) H := hP
    have hD : va_D A (mwd y ad zw (tJ (tJ (tI (tI (tI (tI (tI (tI (tI (tJ (tJ (sJ (sJ (sI (sJ (sJ (sI (tI (tI (tI (tI (sI σ 73 (σ.1 73)) 72 (σ.2.2.1 72)) 63 (σ.2.2.1 63)) 67 (σ.2.2.1 67)) 66 (σ.2.2.1 66)) 44 (σ.1 44)) 42 (σ.2.1 42)) 43 (σ.2.1 43)) 68 (σ.1 68)) 69 (σ.2.1 69)) 70 (σ.2.1 70)) 57 (σ.2.2.2 57)) 58 (σ.2.2.2 58)) 59 (σ.2.2.1 59)) 60 (σ.2.2.1 60)) 61 (σ.2.2.1 61)) 62 (σ.2.2.1 62)) 71 (σ.2.2.1 71)) 64 (σ.2.2.1 64)) 65 (σ.2.2.1 65)) 55 (σ.2.2.2 55)) 56 (σ.2.2.2 56))) := hD
    exact x_lretW (v := (-2000000000)) (u := ((σ.1 73), (σ.2.2.1 72), (σ.2.2.1 63), (σ.2.2.1 67), (σ.2.2.1 66), (σ.1 44), (σ.2.1 42), (σ.2.1 43), (σ.1 68), (σ.2.1 69), (σ.2.1 70), (σ.2.2.2 57), (σ.2.2.2 58), (σ.2.2.1 59), (σ.2.2.1 60), (σ.2.2.1 61), (σ.2.2.1 62), (σ.2.2.1 71), (σ.2.2.1 64), (σ.2.2.1 65), (σ.2.2.2 55), (σ.2.2.2 56))) hx hb hr hQ (by (try dsimp only); exact ⟨hop, hB57, hB58, hB62, hB63, hB64, hB65, hB55, hB56⟩) hP hD hK hS dX12_difference_50 hlocks
  · have kc_2 : r_1.toInt ≠ 0 := by have h9 := c_2; simp only [ge_iff_le, gt_iff_lt, x_lt, x_le, x_eq, ne_eq, Int32.not_lt, Int32.not_le] at h9; simp only [Int32.reduceToInt] at h9; omega
    refine lv_aload_n hx hb dX12_difference_8 rfl (lv_at hl 0 rfl) ?_
    refine lv_iload_n hx hb dX12_difference_9 rfl (lv_at hl 2 rfl) ?_
    refine x_calliW (va_runV (As := [.int i]) (rest := []) ⟨hx, hb, hml, hown, hts⟩ (q_isInput l D y H.size ad zw σ i h5) (cwV 1 hts g_q_difference_1 rfl rfl rfl (by decide +kernel) ⟨Nat.le_of_ble_eq_true rfl, Nat.le_of_ble_eq_true rfl⟩) (x_preV (q := (RX12, TX12, 85)) hK hP hD (ci := 11) (q0 := 0) rfl mwd_o0) rfl rfl hl.1 rfl (lv_room (Nat.le_of_ble_eq_true rfl)) dX12_difference_10 ⟨Nat.le_of_ble_eq_true rfl, Nat.le_of_ble_eq_true rfl⟩) hP hD hS hA (fun r_3 u H locs hw hP hD hS => ?_)
    try dsimp only at hw
    have hP : va_P D vwCl (mwd y ad zw σ) H := hP
    have hD : va_D A (mwd y ad zw σ) := hD
    refine lv_if_eq (tgt := 47) hx hb dX12_difference_13 (by decide) (fun c_4 => ?_) (fun c_4 => ?_)
    · have kc_4 : r_3.toInt = 0 := by have h9 := c_4; simp only [ge_iff_le, gt_iff_lt, x_lt, x_le, x_eq, ne_eq, Int32.not_lt, Int32.not_le] at h9; simp only [Int32.reduceToInt] at h9; omega
      refine lv_ldc2 (v := (-2000000000)) hx hb hown (hts (.constantLong RX12 406 (-2000000000)) (List.mem_of_getElem? (i := 11) rfl)) dX12_difference_47 ?_
      have hP : va_P D vwCl (mwd y ad zw (tJ (tJ (tI (tI (tI (tI (tI (tI (tI (tJ (tJ (sJ (sJ (sI (sJ (sJ (sI (tI (tI (tI (tI (sI σ 73 (σ.1 73)) 72 (σ.2.2.1 72)) 63 (σ.2.2.1 63)) 67 (σ.2.2.1 67)) 66 (σ.2.2.1 66)) 44 (σ.1 44)) 42 (σ.2.1 42)) 43 (σ.2.1 43)) 68 (σ.1 68)) 69 (σ.2.1 69)) 70 (σ.2.1 70)) 57 (σ.2.2.2 57)) 58 (σ.2.2.2 58)) 59 (σ.2.2.1 59)) 60 (σ.2.2.1 60)) 61 (σ.2.2.1 61)) 62 (σ.2.2.1 62)) 71 (σ.2.2.1 71)) 64 (σ.2.2.1 64)) 65 (σ.2.2.1 65)) 55 (σ.2.2.2 55)) 56 (σ.2.2.2 56))) H := hP
      have hD : va_D A (mwd y ad zw (tJ (tJ (tI (tI (tI (tI (tI (tI (tI (tJ (tJ (sJ (sJ (sI (sJ (sJ (sI (tI (tI (tI (tI (sI σ 73 (σ.1 73)) 72 (σ.2.2.1 72)) 63 (σ.2.2.1 63)) 67 (σ.2.2.1 67)) 66 (σ.2.2.1 66)) 44 (σ.1 44)) 42 (σ.2.1 42)) 43 (σ.2.1 43)) 68 (σ.1 68)) 69 (σ.2.1 69)) 70 (σ.2.1 70)) 57 (σ.2.2.2 57)) 58 (σ.2.2.2 58)) 59 (σ.2.2.1 59)) 60 (σ.2.2.1 60)) 61 (σ.2.2.1 61)) 62 (σ.2.2.1 62)) 71 (σ.2.2.1 71)) 64 (σ.2.2.1 64)) 65 (σ.2.2.1 65)) 55 (σ.2.2.2 55)) 56 (σ.2.2.2 56))) := hD
      exact x_lretW (v := (-2000000000)) (u := ((σ.1 73), (σ.2.2.1 72), (σ.2.2.1 63), (σ.2.2.1 67), (σ.2.2.1 66), (σ.1 44), (σ.2.1 42), (σ.2.1 43), (σ.1 68), (σ.2.1 69), (σ.2.1 70), (σ.2.2.2 57), (σ.2.2.2 58), (σ.2.2.1 59), (σ.2.2.1 60), (σ.2.2.1 61), (σ.2.2.1 62), (σ.2.2.1 71), (σ.2.2.1 64), (σ.2.2.1 65), (σ.2.2.2 55), (σ.2.2.2 56))) hx hb hr hQ (by (try dsimp only); exact ⟨hop, hB57, hB58, hB62, hB63, hB64, hB65, hB55, hB56⟩) hP hD hK hS dX12_difference_50 hlocks
    · have kc_4 : r_3.toInt ≠ 0 := by have h9 := c_4; simp only [ge_iff_le, gt_iff_lt, x_lt, x_le, x_eq, ne_eq, Int32.not_lt, Int32.not_le] at h9; simp only [Int32.reduceToInt] at h9; omega
      refine lv_iload_n hx hb dX12_difference_16 rfl (lv_at hl 3 rfl) ?_
      refine lv_i2l hx hb dX12_difference_17 rfl ?_
      refine lv_topl (fun j_5 ej_5 => ?_)
      have vj_5 : j_5.toInt = a.toInt := by rw [ej_5]; exact Int32.toInt_toInt64 _
      refine lv_ldc2 (v := (-1000000000)) hx hb hown (hts (.constantLong RX12 404 (-1000000000)) (List.mem_of_getElem? (i := 12) rfl)) dX12_difference_18 ?_
      refine lv_ldc2 (v := 1000000000) hx hb hown (hts (.constantLong RX12 398 1000000000) (List.mem_of_getElem? (i := 13) rfl)) dX12_difference_21 ?_
      refine x_calliN (va_runS (As := [.long j_5, .long (-1000000000), .long 1000000000]) (rest := []) ⟨hx, hb, hml, hown, hts⟩ (q_isIn l D y H.size j_5 (-1000000000) 1000000000) (cwS 3 hts g_q_difference_2 rfl rfl rfl (by decide +kernel) ⟨Nat.le_of_ble_eq_true rfl, Nat.le_of_ble_eq_true rfl⟩) (x_preS hK (x_nilP D H) (x_nilD A)) rfl rfl hl.1 rfl (lv_room (Nat.le_of_ble_eq_true rfl)) dX12_difference_24 ⟨Nat.le_of_ble_eq_true rfl, Nat.le_of_ble_eq_true rfl⟩) hP hD hS hA (fun r_6 u H locs hw hP hD hS => ?_)
      try dsimp only at hw
      refine lv_if_eq (tgt := 47) hx hb dX12_difference_27 (by decide) (fun c_7 => ?_) (fun c_7 => ?_)
      · have kc_7 : r_6.toInt = 0 := by have h9 := c_7; simp only [ge_iff_le, gt_iff_lt, x_lt, x_le, x_eq, ne_eq, Int32.not_lt, Int32.not_le] at h9; simp only [Int32.reduceToInt] at h9; omega
        refine lv_ldc2 (v := (-2000000000)) hx hb hown (hts (.constantLong RX12 406 (-2000000000)) (List.mem_of_getElem? (i := 11) rfl)) dX12_difference_47 ?_
        have hP : va_P D vwCl (mwd y ad zw (tJ (tJ (tI (tI (tI (tI (tI (tI (tI (tJ (tJ (sJ (sJ (sI (sJ (sJ (sI (tI (tI (tI (tI (sI σ 73 (σ.1 73)) 72 (σ.2.2.1 72)) 63 (σ.2.2.1 63)) 67 (σ.2.2.1 67)) 66 (σ.2.2.1 66)) 44 (σ.1 44)) 42 (σ.2.1 42)) 43 (σ.2.1 43)) 68 (σ.1 68)) 69 (σ.2.1 69)) 70 (σ.2.1 70)) 57 (σ.2.2.2 57)) 58 (σ.2.2.2 58)) 59 (σ.2.2.1 59)) 60 (σ.2.2.1 60)) 61 (σ.2.2.1 61)) 62 (σ.2.2.1 62)) 71 (σ.2.2.1 71)) 64 (σ.2.2.1 64)) 65 (σ.2.2.1 65)) 55 (σ.2.2.2 55)) 56 (σ.2.2.2 56))) H := hP
        have hD : va_D A (mwd y ad zw (tJ (tJ (tI (tI (tI (tI (tI (tI (tI (tJ (tJ (sJ (sJ (sI (sJ (sJ (sI (tI (tI (tI (tI (sI σ 73 (σ.1 73)) 72 (σ.2.2.1 72)) 63 (σ.2.2.1 63)) 67 (σ.2.2.1 67)) 66 (σ.2.2.1 66)) 44 (σ.1 44)) 42 (σ.2.1 42)) 43 (σ.2.1 43)) 68 (σ.1 68)) 69 (σ.2.1 69)) 70 (σ.2.1 70)) 57 (σ.2.2.2 57)) 58 (σ.2.2.2 58)) 59 (σ.2.2.1 59)) 60 (σ.2.2.1 60)) 61 (σ.2.2.1 61)) 62 (σ.2.2.1 62)) 71 (σ.2.2.1 71)) 64 (σ.2.2.1 64)) 65 (σ.2.2.1 65)) 55 (σ.2.2.2 55)) 56 (σ.2.2.2 56))) := hD
        exact x_lretW (v := (-2000000000)) (u := ((σ.1 73), (σ.2.2.1 72), (σ.2.2.1 63), (σ.2.2.1 67), (σ.2.2.1 66), (σ.1 44), (σ.2.1 42), (σ.2.1 43), (σ.1 68), (σ.2.1 69), (σ.2.1 70), (σ.2.2.2 57), (σ.2.2.2 58), (σ.2.2.1 59), (σ.2.2.1 60), (σ.2.2.1 61), (σ.2.2.1 62), (σ.2.2.1 71), (σ.2.2.1 64), (σ.2.2.1 65), (σ.2.2.2 55), (σ.2.2.2 56))) hx hb hr hQ (by (try dsimp only); exact ⟨hop, hB57, hB58, hB62, hB63, hB64, hB65, hB55, hB56⟩) hP hD hK hS dX12_difference_50 hlocks
      · have kc_7 : r_6.toInt ≠ 0 := by have h9 := c_7; simp only [ge_iff_le, gt_iff_lt, x_lt, x_le, x_eq, ne_eq, Int32.not_lt, Int32.not_le] at h9; simp only [Int32.reduceToInt] at h9; omega
        refine lv_iload_n hx hb dX12_difference_30 rfl (lv_at hl 3 rfl) ?_
        refine lv_if_eq (tgt := 47) hx hb dX12_difference_31 (by decide) (fun c_8 => ?_) (fun c_8 => ?_)
        · have kc_8 : a.toInt = 0 := by have h9 := c_8; simp only [ge_iff_le, gt_iff_lt, x_lt, x_le, x_eq, ne_eq, Int32.not_lt, Int32.not_le] at h9; simp only [Int32.reduceToInt] at h9; omega
          refine lv_ldc2 (v := (-2000000000)) hx hb hown (hts (.constantLong RX12 406 (-2000000000)) (List.mem_of_getElem? (i := 11) rfl)) dX12_difference_47 ?_
          have hP : va_P D vwCl (mwd y ad zw (tJ (tJ (tI (tI (tI (tI (tI (tI (tI (tJ (tJ (sJ (sJ (sI (sJ (sJ (sI (tI (tI (tI (tI (sI σ 73 (σ.1 73)) 72 (σ.2.2.1 72)) 63 (σ.2.2.1 63)) 67 (σ.2.2.1 67)) 66 (σ.2.2.1 66)) 44 (σ.1 44)) 42 (σ.2.1 42)) 43 (σ.2.1 43)) 68 (σ.1 68)) 69 (σ.2.1 69)) 70 (σ.2.1 70)) 57 (σ.2.2.2 57)) 58 (σ.2.2.2 58)) 59 (σ.2.2.1 59)) 60 (σ.2.2.1 60)) 61 (σ.2.2.1 61)) 62 (σ.2.2.1 62)) 71 (σ.2.2.1 71)) 64 (σ.2.2.1 64)) 65 (σ.2.2.1 65)) 55 (σ.2.2.2 55)) 56 (σ.2.2.2 56))) H := hP
          have hD : va_D A (mwd y ad zw (tJ (tJ (tI (tI (tI (tI (tI (tI (tI (tJ (tJ (sJ (sJ (sI (sJ (sJ (sI (tI (tI (tI (tI (sI σ 73 (σ.1 73)) 72 (σ.2.2.1 72)) 63 (σ.2.2.1 63)) 67 (σ.2.2.1 67)) 66 (σ.2.2.1 66)) 44 (σ.1 44)) 42 (σ.2.1 42)) 43 (σ.2.1 43)) 68 (σ.1 68)) 69 (σ.2.1 69)) 70 (σ.2.1 70)) 57 (σ.2.2.2 57)) 58 (σ.2.2.2 58)) 59 (σ.2.2.1 59)) 60 (σ.2.2.1 60)) 61 (σ.2.2.1 61)) 62 (σ.2.2.1 62)) 71 (σ.2.2.1 71)) 64 (σ.2.2.1 64)) 65 (σ.2.2.1 65)) 55 (σ.2.2.2 55)) 56 (σ.2.2.2 56))) := hD
          exact x_lretW (v := (-2000000000)) (u := ((σ.1 73), (σ.2.2.1 72), (σ.2.2.1 63), (σ.2.2.1 67), (σ.2.2.1 66), (σ.1 44), (σ.2.1 42), (σ.2.1 43), (σ.1 68), (σ.2.1 69), (σ.2.1 70), (σ.2.2.2 57), (σ.2.2.2 58), (σ.2.2.1 59), (σ.2.2.1 60), (σ.2.2.1 61), (σ.2.2.1 62), (σ.2.2.1 71), (σ.2.2.1 64), (σ.2.2.1 65), (σ.2.2.2 55), (σ.2.2.2 56))) hx hb hr hQ (by (try dsimp only); exact ⟨hop, hB57, hB58, hB62, hB63, hB64, hB65, hB55, hB56⟩) hP hD hK hS dX12_difference_50 hlocks
        · have kc_8 : a.toInt ≠ 0 := by have h9 := c_8; simp only [ge_iff_le, gt_iff_lt, x_lt, x_le, x_eq, ne_eq, Int32.not_lt, Int32.not_le] at h9; simp only [Int32.reduceToInt] at h9; omega
          refine lv_iload hx hb dX12_difference_34 (lv_at hl 4 rfl) ?_
          refine lv_i2l hx hb dX12_difference_36 rfl ?_
          refine lv_topl (fun j_9 ej_9 => ?_)
          have vj_9 : j_9.toInt = b.toInt := by rw [ej_9]; exact Int32.toInt_toInt64 _
          refine lv_lconst (v := 1) hx hb dX12_difference_37 (by decide) ?_
          refine lv_ldc2 (v := 1000000000) hx hb hown (hts (.constantLong RX12 398 1000000000) (List.mem_of_getElem? (i := 13) rfl)) dX12_difference_38 ?_
          refine x_calliN (va_runS (As := [.long j_9, .long 1, .long 1000000000]) (rest := []) ⟨hx, hb, hml, hown, hts⟩ (q_isIn l D y H.size j_9 1 1000000000) (cwS 3 hts g_q_difference_2 rfl rfl rfl (by decide +kernel) ⟨Nat.le_of_ble_eq_true rfl, Nat.le_of_ble_eq_true rfl⟩) (x_preS hK (x_nilP D H) (x_nilD A)) rfl rfl hl.1 rfl (lv_room (Nat.le_of_ble_eq_true rfl)) dX12_difference_41 ⟨Nat.le_of_ble_eq_true rfl, Nat.le_of_ble_eq_true rfl⟩) hP hD hS hA (fun r_10 u H locs hw hP hD hS => ?_)
          try dsimp only at hw
          refine lv_if_ne (tgt := 51) hx hb dX12_difference_44 (by decide) (fun c_11 => ?_) (fun c_11 => ?_)
          · have kc_11 : r_10.toInt ≠ 0 := by have h9 := c_11; simp only [ge_iff_le, gt_iff_lt, x_lt, x_le, x_eq, ne_eq, Int32.not_lt, Int32.not_le] at h9; simp only [Int32.reduceToInt] at h9; omega
            refine lv_iconst (v := 0) hx hb dX12_difference_51 (by decide) ?_
            refine lv_istore (lv' := [(6, .int 0), (0, .ref (ad 1)), (1, .int k), (2, .int i), (3, .int a), (4, .int b), (5, .int q)]) hx hb dX12_difference_52 hl (by decide) rfl (fun ls hl => ?_)
            have hP : va_P D vwCl (mwd y ad zw (tJ (tJ σ 55 (σ.2.2.2 55)) 56 (σ.2.2.2 56))) H := hP
            have hD : va_D A (mwd y ad zw (tJ (tJ σ 55 (σ.2.2.2 55)) 56 (σ.2.2.2 56))) := hD
            have loop : ∀ (fu : Nat) (j : Int32) (f1 : Nat → Int64) (f2 : Nat → Int64) (H : Heap) (locs : List Loc) (ls : Array Slot), (0 ≤ j.toInt) → (j.toInt ≤ 8) → (bJ f1 (-1000000000) 1000000000) → (bJ f2 0 1000000000) → (8 - j.toInt < (fu : Int)) → va_P D vwCl (mwd y ad zw (tJ (tJ σ 55 f1) 56 f2)) H → va_D A (mwd y ad zw (tJ (tJ σ 55 f1) 56 f2)) → va_S A s.heap H locs → lv_has ls 11 [(6, .int j), (5, .int q), (4, .int b), (3, .int a), (2, .int i), (1, .int k), (0, .ref (ad 1))] → W p l e ({ frames := 7, cells := 0, slots := 0, locals := 189 } : Room) s m ([.ref (ad 1), .int k, .int i, .int a, .int b, .int q] : List Value).toArray below meth c H locs 0 0 Q (F0 m 54 ls []) := by
              intro fu
              induction fu with
              | zero =>
                intro j f1 f2 H locs ls hj0 hj1 hf1 hf2 hm
                exact absurd hm (by omega)
              | succ fu ih_loop =>
                intro j f1 f2 H locs ls hj0 hj1 hf1 hf2 hm hP hD hS hl
                refine lv_iload hx hb dX12_difference_54 (lv_at hl 0 rfl) ?_
                refine lv_bipush (v := 8) hx hb dX12_difference_56 (by decide) ?_
                refine lv_icmp_ge (tgt := 101) hx hb dX12_difference_58 (by decide) (fun c_12 => ?_) (fun c_12 => ?_)
                · have kc_12 : j.toInt ≥ 8 := by have h9 := c_12; simp only [ge_iff_le, gt_iff_lt, x_lt, x_le, x_eq, ne_eq, Int32.not_lt, Int32.not_le] at h9; simp only [Int32.reduceToInt] at h9; omega
                  refine lv_aload_n hx hb dX12_difference_101 rfl (lv_at hl 6 rfl) ?_
                  refine lv_iconst (v := 0) hx hb dX12_difference_102 (by decide) ?_
                  refine va_put (D := D) (ci := 11) (v := .int 0) (ty := .boolean) (C := RX12) (T := TX12) (N := 85) hx hb hts inX12 tyX12 tyX12_ok nmX12 hown hK hP hD hS 0 mwd_o0 rfl 44 (by decide) fl384 (fun _ h9 => h9) rfl (by decide +kernel) rfl rfl (Nat.le_of_ble_eq_true rfl) dX12_difference_103 (fun H locs hP hD hS => ?_)
                  have hP : va_P D vwCl (mwd y ad zw (sI (tJ (tJ σ 55 f1) 56 f2) 44 0)) H := x_trP hP mwd_p0_44
                  have hD : va_D A (mwd y ad zw (sI (tJ (tJ σ 55 f1) 56 f2) 44 0)) := x_trD hD mwd_p0_44
                  refine lv_aload_n hx hb dX12_difference_106 rfl (lv_at hl 6 rfl) ?_
                  refine lv_iload_n hx hb dX12_difference_107 rfl (lv_at hl 3 rfl) ?_
                  refine lv_i2l hx hb dX12_difference_108 rfl ?_
                  refine lv_topl (fun j_13 ej_13 => ?_)
                  have vj_13 : j_13.toInt = a.toInt := by rw [ej_13]; exact Int32.toInt_toInt64 _
                  refine lv_iload hx hb dX12_difference_109 (lv_at hl 2 rfl) ?_
                  refine lv_i2l hx hb dX12_difference_111 rfl ?_
                  refine lv_topl (fun j_14 ej_14 => ?_)
                  have vj_14 : j_14.toInt = b.toInt := by rw [ej_14]; exact Int32.toInt_toInt64 _
                  refine x_callvW (va_runV (As := [.long j_13, .long j_14]) (rest := []) ⟨hx, hb, hml, hown, hts⟩ (q_comes l D y H.size ad zw (sI (tJ (tJ σ 55 f1) 56 f2) 44 0) j_13 j_14 (by first | omega | decide) (by first | omega | decide) (by first | omega | decide) (by first | omega | decide)) (cwV 2 hts g_q_difference_3 rfl rfl rfl (by decide +kernel) ⟨Nat.le_of_ble_eq_true rfl, Nat.le_of_ble_eq_true rfl⟩) (x_preV (q := (RX12, TX12, 85)) hK hP hD (ci := 11) (q0 := 0) rfl mwd_o0) rfl rfl hl.1 rfl (lv_room (Nat.le_of_ble_eq_true rfl)) dX12_difference_112 ⟨Nat.le_of_ble_eq_true rfl, Nat.le_of_ble_eq_true rfl⟩) hP hD hS hA (fun u H locs hw hP hD hS => ?_)
                  obtain ⟨n_15, j_16, j_17⟩ := u
                  try dsimp only at hw
                  have hP : va_P D vwCl (mwd y ad zw (sJ (sJ (sI (sI (tJ (tJ σ 55 f1) 56 f2) 44 0) 44 n_15) 42 j_16) 43 j_17)) H := hP
                  have hD : va_D A (mwd y ad zw (sJ (sJ (sI (sI (tJ (tJ σ 55 f1) 56 f2) 44 0) 44 n_15) 42 j_16) 43 j_17)) := hD
                  have hw : -1000000000 ≤ j_16.toInt ∧ j_16.toInt ≤ 1000000000 ∧ 0 ≤ j_17.toInt ∧ j_17.toInt ≤ 1000000000 := hw
                  have hud1 := hw
                  refine lv_aload_n hx hb dX12_difference_115 rfl (lv_at hl 6 rfl) ?_
                  refine va_get (D := D) (ci := 11) (v := .long j_16) (C := RX12) (T := TX12) (N := 85) hx hb hts inX12 hown hK hP 0 mwd_o0 rfl 42 (by decide) fl387 (fun _ h9 => h9) rfl dX12_difference_116 ?_
                  refine lv_lstore (lv' := [(6, .long j_16), (5, .int q), (4, .int b), (3, .int a), (2, .int i), (1, .int k), (0, .ref (ad 1))]) hx hb dX12_difference_119 hl (by decide) rfl (fun ls hl => ?_)
                  refine lv_aload_n hx hb dX12_difference_121 rfl (lv_at hl 6 rfl) ?_
                  refine va_get (D := D) (ci := 11) (v := .long j_17) (C := RX12) (T := TX12) (N := 85) hx hb hts inX12 hown hK hP 0 mwd_o0 rfl 43 (by decide) fl391 (fun _ h9 => h9) rfl dX12_difference_122 ?_
                  refine lv_lstore (lv' := [(8, .long j_17), (6, .long j_16), (5, .int q), (4, .int b), (3, .int a), (2, .int i), (1, .int k), (0, .ref (ad 1))]) hx hb dX12_difference_125 hl (by decide) rfl (fun ls hl => ?_)
                  refine lv_aload_n hx hb dX12_difference_127 rfl (lv_at hl 7 rfl) ?_
                  refine lv_aload_n hx hb dX12_difference_128 rfl (lv_at hl 7 rfl) ?_
                  refine va_get (D := D) (ci := 11) (v := .ref (ad 55)) (C := RX12) (T := TX12) (N := 85) hx hb hts inX12 hown hK hP 0 mwd_o0 rfl 55 (by decide) fl118 (fun _ h9 => h9) rfl dX12_difference_129 ?_
                  refine lv_iload_n hx hb dX12_difference_132 rfl (lv_at hl 5 rfl) ?_
                  refine va_lald hx hb hK hP 35 3 mwd_a35 rfl (x_in (by omega) (by omega)) dX12_difference_133 ?_
                  refine lv_topl (fun j_18 ej_18 => ?_)
                  have ej_18 : j_18 = f1 (Int32.toNatClampNeg i) := ej_18
                  have bj_18 := b_atJ hf1 ej_18
                  refine lv_aload_n hx hb dX12_difference_134 rfl (lv_at hl 7 rfl) ?_
                  refine va_get (D := D) (ci := 11) (v := .ref (ad 56)) (C := RX12) (T := TX12) (N := 85) hx hb hts inX12 hown hK hP 0 mwd_o0 rfl 56 (by decide) fl121 (fun _ h9 => h9) rfl dX12_difference_135 ?_
                  refine lv_iload_n hx hb dX12_difference_138 rfl (lv_at hl 5 rfl) ?_
                  refine va_lald hx hb hK hP 36 3 mwd_a36 rfl (x_in (by omega) (by omega)) dX12_difference_139 ?_
                  refine lv_topl (fun j_19 ej_19 => ?_)
                  have ej_19 : j_19 = f2 (Int32.toNatClampNeg i) := ej_19
                  have bj_19 := b_atJ hf2 ej_19
                  refine lv_lload hx hb dX12_difference_140 (lv_at hl 1 rfl) ?_
                  refine lv_lload hx hb dX12_difference_142 (lv_at hl 0 rfl) ?_
                  refine x_callvW (va_runV (As := [.long j_18, .long j_19, .long j_16, .long j_17]) (rest := []) ⟨hx, hb, hml, hown, hts⟩ (q_adds l D y H.size ad zw (sJ (sJ (sI (sI (tJ (tJ σ 55 f1) 56 f2) 44 0) 44 n_15) 42 j_16) 43 j_17) j_18 j_19 j_16 j_17 (by first | omega | decide) (by first | omega | decide) (by first | omega | decide) (by first | omega | decide) (by first | omega | decide) (by first | omega | decide) (by first | omega | decide) (by first | omega | decide)) (cwV 4 hts g_q_difference_4 rfl rfl rfl (by decide +kernel) ⟨Nat.le_of_ble_eq_true rfl, Nat.le_of_ble_eq_true rfl⟩) (x_preV (q := (RX12, TX12, 85)) hK hP hD (ci := 11) (q0 := 0) rfl mwd_o0) rfl rfl hl.1 rfl (lv_room (Nat.le_of_ble_eq_true rfl)) dX12_difference_144 ⟨Nat.le_of_ble_eq_true rfl, Nat.le_of_ble_eq_true rfl⟩) hP hD hS hA (fun u H locs hw hP hD hS => ?_)
                  obtain ⟨n_20, j_21, j_22⟩ := u
                  try dsimp only at hw
                  have hP : va_P D vwCl (mwd y ad zw (sJ (sJ (sI (sJ (sJ (sI (sI (tJ (tJ σ 55 f1) 56 f2) 44 0) 44 n_15) 42 j_16) 43 j_17) 44 n_20) 42 j_21) 43 j_22)) H := hP
                  have hD : va_D A (mwd y ad zw (sJ (sJ (sI (sJ (sJ (sI (sI (tJ (tJ σ 55 f1) 56 f2) 44 0) 44 n_15) 42 j_16) 43 j_17) 44 n_20) 42 j_21) 43 j_22)) := hD
                  have hw : -1000000000 ≤ j_21.toInt ∧ j_21.toInt ≤ 1000000000 ∧ 0 ≤ j_22.toInt ∧ j_22.toInt ≤ 1000000000 := hw
                  have hud2 := hw
                  refine lv_aload_n hx hb dX12_difference_147 rfl (lv_at hl 7 rfl) ?_
                  refine va_get (D := D) (ci := 11) (v := .int n_20) (C := RX12) (T := TX12) (N := 85) hx hb hts inX12 hown hK hP 0 mwd_o0 rfl 44 (by decide) fl384 (fun _ h9 => h9) rfl dX12_difference_148 ?_
                  refine lv_if_eq (tgt := 158) hx hb dX12_difference_151 (by decide) (fun c_23 => ?_) (fun c_23 => ?_)
                  · have kc_23 : n_20.toInt = 0 := by have h9 := c_23; simp only [ge_iff_le, gt_iff_lt, x_lt, x_le, x_eq, ne_eq, Int32.not_lt, Int32.not_le] at h9; simp only [Int32.reduceToInt] at h9; omega
                    refine lv_aload_n hx hb dX12_difference_158 rfl (lv_at hl 7 rfl) ?_
                    refine va_get (D := D) (ci := 11) (v := .ref (ad 55)) (C := RX12) (T := TX12) (N := 85) hx hb hts inX12 hown hK hP 0 mwd_o0 rfl 55 (by decide) fl118 (fun _ h9 => h9) rfl dX12_difference_159 ?_
                    refine lv_bipush (v := 8) hx hb dX12_difference_162 (by decide) ?_
                    refine lv_iload_n hx hb dX12_difference_164 rfl (lv_at hl 5 rfl) ?_
                    refine lv_iadd hx hb dX12_difference_165 ?_
                    refine lv_topi (fun i_24 ei_24 => ?_)
                    have vi_24 : i_24.toInt = 8 + i.toInt := by have h9 := x_add ei_24 (by omega) (by omega); omega
                    refine lv_aload_n hx hb dX12_difference_166 rfl (lv_at hl 7 rfl) ?_
                    refine va_get (D := D) (ci := 11) (v := .long j_21) (C := RX12) (T := TX12) (N := 85) hx hb hts inX12 hown hK hP 0 mwd_o0 rfl 42 (by decide) fl387 (fun _ h9 => h9) rfl dX12_difference_167 ?_
                    refine va_last hx hb hK hP hD hS 35 3 mwd_a35 rfl (x_in (by omega) (by omega)) dX12_difference_170 (fun H locs hP hD hS => ?_)
                    obtain ⟨f_25, ef_25⟩ : ∃ z9 : Nat → Int64, z9 = (vp_updL f1 (Int32.toNatClampNeg i_24) j_21) := ⟨_, rfl⟩
                    have hP : va_P D vwCl (mwd y ad zw (tJ (sJ (sJ (sI (sJ (sJ (sI (sI (tJ (tJ σ 55 f1) 56 f2) 44 0) 44 n_15) 42 j_16) 43 j_17) 44 n_20) 42 j_21) 43 j_22) 55 f_25)) H := by rw [ef_25]; exact x_trP hP mwd_s35
                    have hD : va_D A (mwd y ad zw (tJ (sJ (sJ (sI (sJ (sJ (sI (sI (tJ (tJ σ 55 f1) 56 f2) 44 0) 44 n_15) 42 j_16) 43 j_17) 44 n_20) 42 j_21) 43 j_22) 55 f_25)) := by rw [ef_25]; exact x_trD hD mwd_s35
                    have hvf_25 : bJ f_25 (-1000000000) 1000000000 := by rw [ef_25]; exact b_updJ hf1 (by omega) (by omega)
                    refine lv_aload_n hx hb dX12_difference_171 rfl (lv_at hl 7 rfl) ?_
                    refine va_get (D := D) (ci := 11) (v := .ref (ad 56)) (C := RX12) (T := TX12) (N := 85) hx hb hts inX12 hown hK hP 0 mwd_o0 rfl 56 (by decide) fl121 (fun _ h9 => h9) rfl dX12_difference_172 ?_
                    refine lv_bipush (v := 8) hx hb dX12_difference_175 (by decide) ?_
                    refine lv_iload_n hx hb dX12_difference_177 rfl (lv_at hl 5 rfl) ?_
                    refine lv_iadd hx hb dX12_difference_178 ?_
                    refine lv_topi (fun i_26 ei_26 => ?_)
                    have vi_26 : i_26.toInt = 8 + i.toInt := by have h9 := x_add ei_26 (by omega) (by omega); omega
                    refine lv_aload_n hx hb dX12_difference_179 rfl (lv_at hl 7 rfl) ?_
                    refine va_get (D := D) (ci := 11) (v := .long j_22) (C := RX12) (T := TX12) (N := 85) hx hb hts inX12 hown hK hP 0 mwd_o0 rfl 43 (by decide) fl391 (fun _ h9 => h9) rfl dX12_difference_180 ?_
                    refine va_last hx hb hK hP hD hS 36 3 mwd_a36 rfl (x_in (by omega) (by omega)) dX12_difference_183 (fun H locs hP hD hS => ?_)
                    obtain ⟨f_27, ef_27⟩ : ∃ z9 : Nat → Int64, z9 = (vp_updL f2 (Int32.toNatClampNeg i_26) j_22) := ⟨_, rfl⟩
                    have hP : va_P D vwCl (mwd y ad zw (tJ (tJ (sJ (sJ (sI (sJ (sJ (sI (sI (tJ (tJ σ 55 f1) 56 f2) 44 0) 44 n_15) 42 j_16) 43 j_17) 44 n_20) 42 j_21) 43 j_22) 55 f_25) 56 f_27)) H := by rw [ef_27]; exact x_trP hP mwd_s36
                    have hD : va_D A (mwd y ad zw (tJ (tJ (sJ (sJ (sI (sJ (sJ (sI (sI (tJ (tJ σ 55 f1) 56 f2) 44 0) 44 n_15) 42 j_16) 43 j_17) 44 n_20) 42 j_21) 43 j_22) 55 f_25) 56 f_27)) := by rw [ef_27]; exact x_trD hD mwd_s36
                    have hvf_27 : bJ f_27 0 1000000000 := by rw [ef_27]; exact b_updJ hf2 (by omega) (by omega)
                    refine lv_aload_n hx hb dX12_difference_184 rfl (lv_at hl 7 rfl) ?_
                    refine lv_iconst (v := 1) hx hb dX12_difference_185 (by decide) ?_
                    refine x_callvW (va_runV (As := [.int 1]) (rest := []) ⟨hx, hb, hml, hown, hts⟩ (q_goes1 l D y H.size ad zw (tJ (tJ (sJ (sJ (sI (sJ (sJ (sI (sI (tJ (tJ σ 55 f1) 56 f2) 44 0) 44 n_15) 42 j_16) 43 j_17) 44 n_20) 42 j_21) 43 j_22) 55 f_25) 56 f_27) h5 h9n n ty hcm hn2 hW hop hB57 hB58 hB62 hB63 hB25 hB64 hB65 hB26 hvf_25 hvf_27) (cwV 1 hts g_q_difference_5 rfl rfl rfl (by decide +kernel) ⟨Nat.le_of_ble_eq_true rfl, Nat.le_of_ble_eq_true rfl⟩) (x_preV (q := (RX12, TX12, 85)) hK hP hD (ci := 11) (q0 := 0) rfl mwd_o0) rfl rfl hl.1 rfl (lv_room (Nat.le_of_ble_eq_true rfl)) dX12_difference_186 ⟨Nat.le_of_ble_eq_true rfl, Nat.le_of_ble_eq_true rfl⟩) hP hD hS hA (fun u H locs hw hP hD hS => ?_)
                    obtain ⟨n_28, f_29, f_30, f_31, f_32, n_33, j_34, j_35, n_36, j_37, j_38, f_39, f_40, f_41, f_42, f_43, f_44, f_45, f_46, f_47⟩ := u
                    try dsimp only at hw
                    have hP : va_P D vwCl (mwd y ad zw (tI (tI (tI (tI (tI (tI (tI (tJ (tJ (sJ (sJ (sI (sJ (sJ (sI (tI (tI (tI (tI (sI (tJ (tJ (sJ (sJ (sI (sJ (sJ (sI (sI (tJ (tJ σ 55 f1) 56 f2) 44 0) 44 n_15) 42 j_16) 43 j_17) 44 n_20) 42 j_21) 43 j_22) 55 f_25) 56 f_27) 73 n_28) 72 f_29) 63 f_30) 67 f_31) 66 f_32) 44 n_33) 42 j_34) 43 j_35) 68 n_36) 69 j_37) 70 j_38) 57 f_39) 58 f_40) 59 f_41) 60 f_42) 61 f_43) 62 f_44) 71 f_45) 64 f_46) 65 f_47)) H := hP
                    have hD : va_D A (mwd y ad zw (tI (tI (tI (tI (tI (tI (tI (tJ (tJ (sJ (sJ (sI (sJ (sJ (sI (tI (tI (tI (tI (sI (tJ (tJ (sJ (sJ (sI (sJ (sJ (sI (sI (tJ (tJ σ 55 f1) 56 f2) 44 0) 44 n_15) 42 j_16) 43 j_17) 44 n_20) 42 j_21) 43 j_22) 55 f_25) 56 f_27) 73 n_28) 72 f_29) 63 f_30) 67 f_31) 66 f_32) 44 n_33) 42 j_34) 43 j_35) 68 n_36) 69 j_37) 70 j_38) 57 f_39) 58 f_40) 59 f_41) 60 f_42) 61 f_43) 62 f_44) 71 f_45) 64 f_46) 65 f_47)) := hD
                    have hw : (opc f_41 f_42 f_43) ∧ bJ f_39 (-1000000000) 1000000000 ∧ bJ f_40 0 1000000000 ∧ bI f_44 0 1760 ∧ bI f_30 0 1000 ∧ bI f_46 0 12 ∧ bI f_47 0 1759 := hw
                    obtain ⟨hw, hg_48, hg_49, hg_50, hg_51, hg_52, hg_53⟩ := hw
                    have ho9 := hw
                    refine lv_aload_n hx hb dX12_difference_189 rfl (lv_at hl 7 rfl) ?_
                    refine va_get (D := D) (ci := 11) (v := .ref (ad 67)) (C := RX12) (T := TX12) (N := 85) hx hb hts inX12 hown hK hP 0 mwd_o0 rfl 67 (by decide) fl154 (fun _ h9 => h9) rfl dX12_difference_190 ?_
                    refine lv_iconst (v := 1) hx hb dX12_difference_193 (by decide) ?_
                    refine va_iald hx hb hK hP 47 2 mwd_a47 rfl (x_in (by decide) (by decide)) dX12_difference_194 ?_
                    refine lv_topi (fun i_54 ei_54 => ?_)
                    have ei_54 : i_54 = f_31 (Int32.toNatClampNeg 1) := ei_54
                    refine lv_if_ne (tgt := 208) hx hb dX12_difference_195 (by decide) (fun c_55 => ?_) (fun c_55 => ?_)
                    · have kc_55 : i_54.toInt ≠ 0 := by have h9 := c_55; simp only [ge_iff_le, gt_iff_lt, x_lt, x_le, x_eq, ne_eq, Int32.not_lt, Int32.not_le] at h9; simp only [Int32.reduceToInt] at h9; omega
                      refine lv_ldc2 (v := (-2000000000)) hx hb hown (hts (.constantLong RX12 406 (-2000000000)) (List.mem_of_getElem? (i := 11) rfl)) dX12_difference_208 ?_
                      have hP : va_P D vwCl (mwd y ad zw (tJ (tJ (tI (tI (tI (tI (tI (tI (tI (tJ (tJ (sJ (sJ (sI (sJ (sJ (sI (tI (tI (tI (tI (sI σ 73 n_28) 72 f_29) 63 f_30) 67 f_31) 66 f_32) 44 n_33) 42 j_34) 43 j_35) 68 n_36) 69 j_37) 70 j_38) 57 f_39) 58 f_40) 59 f_41) 60 f_42) 61 f_43) 62 f_44) 71 f_45) 64 f_46) 65 f_47) 55 f_25) 56 f_27)) H := hP
                      have hD : va_D A (mwd y ad zw (tJ (tJ (tI (tI (tI (tI (tI (tI (tI (tJ (tJ (sJ (sJ (sI (sJ (sJ (sI (tI (tI (tI (tI (sI σ 73 n_28) 72 f_29) 63 f_30) 67 f_31) 66 f_32) 44 n_33) 42 j_34) 43 j_35) 68 n_36) 69 j_37) 70 j_38) 57 f_39) 58 f_40) 59 f_41) 60 f_42) 61 f_43) 62 f_44) 71 f_45) 64 f_46) 65 f_47) 55 f_25) 56 f_27)) := hD
                      exact x_lretW (v := (-2000000000)) (u := (n_28, f_29, f_30, f_31, f_32, n_33, j_34, j_35, n_36, j_37, j_38, f_39, f_40, f_41, f_42, f_43, f_44, f_45, f_46, f_47, f_25, f_27)) hx hb hr hQ (by (try dsimp only); exact ⟨ho9, hg_48, hg_49, hg_50, hg_51, hg_52, hg_53, hvf_25, hvf_27⟩) hP hD hK hS dX12_difference_211 hlocks
                    · have kc_55 : i_54.toInt = 0 := by have h9 := c_55; simp only [ge_iff_le, gt_iff_lt, x_lt, x_le, x_eq, ne_eq, Int32.not_lt, Int32.not_le] at h9; simp only [Int32.reduceToInt] at h9; omega
                      refine lv_iload_n hx hb dX12_difference_198 rfl (lv_at hl 6 rfl) ?_
                      refine lv_aload_n hx hb dX12_difference_199 rfl (lv_at hl 7 rfl) ?_
                      refine va_get (D := D) (ci := 11) (v := .ref (ad 64)) (C := RX12) (T := TX12) (N := 85) hx hb hts inX12 hown hK hP 0 mwd_o0 rfl 64 (by decide) fl145 (fun _ h9 => h9) rfl dX12_difference_200 ?_
                      refine lv_iconst (v := 1) hx hb dX12_difference_203 (by decide) ?_
                      refine va_iald hx hb hK hP 44 2 mwd_a44 rfl (x_in (by decide) (by decide)) dX12_difference_204 ?_
                      refine lv_topi (fun i_56 ei_56 => ?_)
                      have ei_56 : i_56 = f_46 (Int32.toNatClampNeg 1) := ei_56
                      have bi_56 := b_at hg_52 ei_56
                      refine lv_icmp_lt (tgt := 212) hx hb dX12_difference_205 (by decide) (fun c_57 => ?_) (fun c_57 => ?_)
                      · have kc_57 : k.toInt < i_56.toInt := by have h9 := c_57; simp only [ge_iff_le, gt_iff_lt, x_lt, x_le, x_eq, ne_eq, Int32.not_lt, Int32.not_le] at h9; omega
                        refine lv_sipush (v := 1760) hx hb dX12_difference_212 (by decide) ?_
                        refine lv_aload_n hx hb dX12_difference_215 rfl (lv_at hl 7 rfl) ?_
                        refine va_get (D := D) (ci := 11) (v := .ref (ad 65)) (C := RX12) (T := TX12) (N := 85) hx hb hts inX12 hown hK hP 0 mwd_o0 rfl 65 (by decide) fl148 (fun _ h9 => h9) rfl dX12_difference_216 ?_
                        refine lv_bipush (v := 12) hx hb dX12_difference_219 (by decide) ?_
                        refine lv_iload_n hx hb dX12_difference_221 rfl (lv_at hl 6 rfl) ?_
                        refine lv_iadd hx hb dX12_difference_222 ?_
                        refine lv_topi (fun i_58 ei_58 => ?_)
                        have vi_58 : i_58.toInt = 12 + k.toInt := by have h9 := x_add ei_58 (by omega) (by omega); omega
                        refine va_iald hx hb hK hP 45 2 mwd_a45 rfl (x_in (by omega) (by omega)) dX12_difference_223 ?_
                        refine lv_topi (fun i_59 ei_59 => ?_)
                        have ei_59 : i_59 = f_47 (Int32.toNatClampNeg i_58) := ei_59
                        have bi_59 := b_at hg_53 ei_59
                        refine lv_iadd hx hb dX12_difference_224 ?_
                        refine lv_topi (fun i_60 ei_60 => ?_)
                        have vi_60 : i_60.toInt = 1760 + i_59.toInt := by have h9 := x_add ei_60 (by omega) (by omega); omega
                        refine lv_istore (lv' := [(10, .int i_60), (8, .long j_17), (6, .long j_16), (5, .int q), (4, .int b), (3, .int a), (2, .int i), (1, .int k), (0, .ref (ad 1))]) hx hb dX12_difference_225 hl (by decide) rfl (fun ls hl => ?_)
                        refine lv_aload_n hx hb dX12_difference_227 rfl (lv_at hl 8 rfl) ?_
                        refine lv_iconst (v := 0) hx hb dX12_difference_228 (by decide) ?_
                        refine va_put (D := D) (ci := 11) (v := .int 0) (ty := .boolean) (C := RX12) (T := TX12) (N := 85) hx hb hts inX12 tyX12 tyX12_ok nmX12 hown hK hP hD hS 0 mwd_o0 rfl 44 (by decide) fl384 (fun _ h9 => h9) rfl (by decide +kernel) rfl rfl (Nat.le_of_ble_eq_true rfl) dX12_difference_229 (fun H locs hP hD hS => ?_)
                        have hP : va_P D vwCl (mwd y ad zw (sI (tI (tI (tI (tI (tI (tI (tI (tJ (tJ (sJ (sJ (sI (sJ (sJ (sI (tI (tI (tI (tI (sI (tJ (tJ (sJ (sJ (sI (sJ (sJ (sI (sI (tJ (tJ σ 55 f1) 56 f2) 44 0) 44 n_15) 42 j_16) 43 j_17) 44 n_20) 42 j_21) 43 j_22) 55 f_25) 56 f_27) 73 n_28) 72 f_29) 63 f_30) 67 f_31) 66 f_32) 44 n_33) 42 j_34) 43 j_35) 68 n_36) 69 j_37) 70 j_38) 57 f_39) 58 f_40) 59 f_41) 60 f_42) 61 f_43) 62 f_44) 71 f_45) 64 f_46) 65 f_47) 44 0)) H := x_trP hP mwd_p0_44
                        have hD : va_D A (mwd y ad zw (sI (tI (tI (tI (tI (tI (tI (tI (tJ (tJ (sJ (sJ (sI (sJ (sJ (sI (tI (tI (tI (tI (sI (tJ (tJ (sJ (sJ (sI (sJ (sJ (sI (sI (tJ (tJ σ 55 f1) 56 f2) 44 0) 44 n_15) 42 j_16) 43 j_17) 44 n_20) 42 j_21) 43 j_22) 55 f_25) 56 f_27) 73 n_28) 72 f_29) 63 f_30) 67 f_31) 66 f_32) 44 n_33) 42 j_34) 43 j_35) 68 n_36) 69 j_37) 70 j_38) 57 f_39) 58 f_40) 59 f_41) 60 f_42) 61 f_43) 62 f_44) 71 f_45) 64 f_46) 65 f_47) 44 0)) := x_trD hD mwd_p0_44
                        refine lv_aload_n hx hb dX12_difference_232 rfl (lv_at hl 8 rfl) ?_
                        refine lv_aload_n hx hb dX12_difference_233 rfl (lv_at hl 8 rfl) ?_
                        refine va_get (D := D) (ci := 11) (v := .ref (ad 57)) (C := RX12) (T := TX12) (N := 85) hx hb hts inX12 hown hK hP 0 mwd_o0 rfl 57 (by decide) fl124 (fun _ h9 => h9) rfl dX12_difference_234 ?_
                        refine lv_iload hx hb dX12_difference_237 (lv_at hl 0 rfl) ?_
                        refine va_lald hx hb hK hP 37 3 mwd_a37 rfl (x_in (by omega) (by omega)) dX12_difference_239 ?_
                        refine lv_topl (fun j_61 ej_61 => ?_)
                        have ej_61 : j_61 = f_39 (Int32.toNatClampNeg i_60) := ej_61
                        have bj_61 := b_atJ hg_48 ej_61
                        refine lv_aload_n hx hb dX12_difference_240 rfl (lv_at hl 8 rfl) ?_
                        refine va_get (D := D) (ci := 11) (v := .ref (ad 58)) (C := RX12) (T := TX12) (N := 85) hx hb hts inX12 hown hK hP 0 mwd_o0 rfl 58 (by decide) fl127 (fun _ h9 => h9) rfl dX12_difference_241 ?_
                        refine lv_iload hx hb dX12_difference_244 (lv_at hl 0 rfl) ?_
                        refine va_lald hx hb hK hP 38 3 mwd_a38 rfl (x_in (by omega) (by omega)) dX12_difference_246 ?_
                        refine lv_topl (fun j_62 ej_62 => ?_)
                        have ej_62 : j_62 = f_40 (Int32.toNatClampNeg i_60) := ej_62
                        have bj_62 := b_atJ hg_49 ej_62
                        refine lv_aload_n hx hb dX12_difference_247 rfl (lv_at hl 8 rfl) ?_
                        refine va_get (D := D) (ci := 11) (v := .ref (ad 57)) (C := RX12) (T := TX12) (N := 85) hx hb hts inX12 hown hK hP 0 mwd_o0 rfl 57 (by decide) fl124 (fun _ h9 => h9) rfl dX12_difference_248 ?_
                        refine lv_aload_n hx hb dX12_difference_251 rfl (lv_at hl 8 rfl) ?_
                        refine va_get (D := D) (ci := 11) (v := .ref (ad 65)) (C := RX12) (T := TX12) (N := 85) hx hb hts inX12 hown hK hP 0 mwd_o0 rfl 65 (by decide) fl148 (fun _ h9 => h9) rfl dX12_difference_252 ?_
                        refine lv_iload_n hx hb dX12_difference_255 rfl (lv_at hl 7 rfl) ?_
                        refine va_iald hx hb hK hP 45 2 mwd_a45 rfl (x_in (by omega) (by omega)) dX12_difference_256 ?_
                        refine lv_topi (fun i_63 ei_63 => ?_)
                        have ei_63 : i_63 = f_47 (Int32.toNatClampNeg k) := ei_63
                        have bi_63 := b_at hg_53 ei_63
                        refine va_lald hx hb hK hP 37 3 mwd_a37 rfl (x_in (by omega) (by omega)) dX12_difference_257 ?_
                        refine lv_topl (fun j_64 ej_64 => ?_)
                        have ej_64 : j_64 = f_39 (Int32.toNatClampNeg i_63) := ej_64
                        have bj_64 := b_atJ hg_48 ej_64
                        refine lv_aload_n hx hb dX12_difference_258 rfl (lv_at hl 8 rfl) ?_
                        refine va_get (D := D) (ci := 11) (v := .ref (ad 58)) (C := RX12) (T := TX12) (N := 85) hx hb hts inX12 hown hK hP 0 mwd_o0 rfl 58 (by decide) fl127 (fun _ h9 => h9) rfl dX12_difference_259 ?_
                        refine lv_aload_n hx hb dX12_difference_262 rfl (lv_at hl 8 rfl) ?_
                        refine va_get (D := D) (ci := 11) (v := .ref (ad 65)) (C := RX12) (T := TX12) (N := 85) hx hb hts inX12 hown hK hP 0 mwd_o0 rfl 65 (by decide) fl148 (fun _ h9 => h9) rfl dX12_difference_263 ?_
                        refine lv_iload_n hx hb dX12_difference_266 rfl (lv_at hl 7 rfl) ?_
                        refine va_iald hx hb hK hP 45 2 mwd_a45 rfl (x_in (by omega) (by omega)) dX12_difference_267 ?_
                        refine lv_topi (fun i_65 ei_65 => ?_)
                        have ei_65 : i_65 = f_47 (Int32.toNatClampNeg k) := ei_65
                        have bi_65 := b_at hg_53 ei_65
                        refine va_lald hx hb hK hP 38 3 mwd_a38 rfl (x_in (by omega) (by omega)) dX12_difference_268 ?_
                        refine lv_topl (fun j_66 ej_66 => ?_)
                        have ej_66 : j_66 = f_40 (Int32.toNatClampNeg i_65) := ej_66
                        have bj_66 := b_atJ hg_49 ej_66
                        refine x_callvW (va_runV (As := [.long j_61, .long j_62, .long j_64, .long j_66]) (rest := []) ⟨hx, hb, hml, hown, hts⟩ (q_takesOff l D y H.size ad zw (sI (tI (tI (tI (tI (tI (tI (tI (tJ (tJ (sJ (sJ (sI (sJ (sJ (sI (tI (tI (tI (tI (sI (tJ (tJ (sJ (sJ (sI (sJ (sJ (sI (sI (tJ (tJ σ 55 f1) 56 f2) 44 0) 44 n_15) 42 j_16) 43 j_17) 44 n_20) 42 j_21) 43 j_22) 55 f_25) 56 f_27) 73 n_28) 72 f_29) 63 f_30) 67 f_31) 66 f_32) 44 n_33) 42 j_34) 43 j_35) 68 n_36) 69 j_37) 70 j_38) 57 f_39) 58 f_40) 59 f_41) 60 f_42) 61 f_43) 62 f_44) 71 f_45) 64 f_46) 65 f_47) 44 0) j_61 j_62 j_64 j_66 (by first | omega | decide) (by first | omega | decide) (by first | omega | decide) (by first | omega | decide) (by first | omega | decide) (by first | omega | decide) (by first | omega | decide) (by first | omega | decide)) (cwV 4 hts g_q_difference_6 rfl rfl rfl (by decide +kernel) ⟨Nat.le_of_ble_eq_true rfl, Nat.le_of_ble_eq_true rfl⟩) (x_preV (q := (RX12, TX12, 85)) hK hP hD (ci := 11) (q0 := 0) rfl mwd_o0) rfl rfl hl.1 rfl (lv_room (Nat.le_of_ble_eq_true rfl)) dX12_difference_269 ⟨Nat.le_of_ble_eq_true rfl, Nat.le_of_ble_eq_true rfl⟩) hP hD hS hA (fun u H locs hw hP hD hS => ?_)
                        obtain ⟨n_67, j_68, j_69⟩ := u
                        try dsimp only at hw
                        have hP : va_P D vwCl (mwd y ad zw (sJ (sJ (sI (sI (tI (tI (tI (tI (tI (tI (tI (tJ (tJ (sJ (sJ (sI (sJ (sJ (sI (tI (tI (tI (tI (sI (tJ (tJ (sJ (sJ (sI (sJ (sJ (sI (sI (tJ (tJ σ 55 f1) 56 f2) 44 0) 44 n_15) 42 j_16) 43 j_17) 44 n_20) 42 j_21) 43 j_22) 55 f_25) 56 f_27) 73 n_28) 72 f_29) 63 f_30) 67 f_31) 66 f_32) 44 n_33) 42 j_34) 43 j_35) 68 n_36) 69 j_37) 70 j_38) 57 f_39) 58 f_40) 59 f_41) 60 f_42) 61 f_43) 62 f_44) 71 f_45) 64 f_46) 65 f_47) 44 0) 44 n_67) 42 j_68) 43 j_69)) H := hP
                        have hD : va_D A (mwd y ad zw (sJ (sJ (sI (sI (tI (tI (tI (tI (tI (tI (tI (tJ (tJ (sJ (sJ (sI (sJ (sJ (sI (tI (tI (tI (tI (sI (tJ (tJ (sJ (sJ (sI (sJ (sJ (sI (sI (tJ (tJ σ 55 f1) 56 f2) 44 0) 44 n_15) 42 j_16) 43 j_17) 44 n_20) 42 j_21) 43 j_22) 55 f_25) 56 f_27) 73 n_28) 72 f_29) 63 f_30) 67 f_31) 66 f_32) 44 n_33) 42 j_34) 43 j_35) 68 n_36) 69 j_37) 70 j_38) 57 f_39) 58 f_40) 59 f_41) 60 f_42) 61 f_43) 62 f_44) 71 f_45) 64 f_46) 65 f_47) 44 0) 44 n_67) 42 j_68) 43 j_69)) := hD
                        have hw : -1000000000 ≤ j_68.toInt ∧ j_68.toInt ≤ 1000000000 ∧ 0 ≤ j_69.toInt ∧ j_69.toInt ≤ 1000000000 := hw
                        have hud3 := hw
                        refine lv_aload_n hx hb dX12_difference_272 rfl (lv_at hl 8 rfl) ?_
                        refine lv_aload_n hx hb dX12_difference_273 rfl (lv_at hl 8 rfl) ?_
                        refine va_get (D := D) (ci := 11) (v := .long j_68) (C := RX12) (T := TX12) (N := 85) hx hb hts inX12 hown hK hP 0 mwd_o0 rfl 42 (by decide) fl387 (fun _ h9 => h9) rfl dX12_difference_274 ?_
                        refine lv_aload_n hx hb dX12_difference_277 rfl (lv_at hl 8 rfl) ?_
                        refine va_get (D := D) (ci := 11) (v := .long j_69) (C := RX12) (T := TX12) (N := 85) hx hb hts inX12 hown hK hP 0 mwd_o0 rfl 43 (by decide) fl391 (fun _ h9 => h9) rfl dX12_difference_278 ?_
                        refine lv_lload hx hb dX12_difference_281 (lv_at hl 2 rfl) ?_
                        refine lv_lload hx hb dX12_difference_283 (lv_at hl 1 rfl) ?_
                        refine x_callvW (va_runV (As := [.long j_68, .long j_69, .long j_16, .long j_17]) (rest := []) ⟨hx, hb, hml, hown, hts⟩ (q_divides l D y H.size ad zw (sJ (sJ (sI (sI (tI (tI (tI (tI (tI (tI (tI (tJ (tJ (sJ (sJ (sI (sJ (sJ (sI (tI (tI (tI (tI (sI (tJ (tJ (sJ (sJ (sI (sJ (sJ (sI (sI (tJ (tJ σ 55 f1) 56 f2) 44 0) 44 n_15) 42 j_16) 43 j_17) 44 n_20) 42 j_21) 43 j_22) 55 f_25) 56 f_27) 73 n_28) 72 f_29) 63 f_30) 67 f_31) 66 f_32) 44 n_33) 42 j_34) 43 j_35) 68 n_36) 69 j_37) 70 j_38) 57 f_39) 58 f_40) 59 f_41) 60 f_42) 61 f_43) 62 f_44) 71 f_45) 64 f_46) 65 f_47) 44 0) 44 n_67) 42 j_68) 43 j_69) j_68 j_69 j_16 j_17 (by first | omega | decide) (by first | omega | decide) (by first | omega | decide) (by first | omega | decide) (by first | omega | decide) (by first | omega | decide) (by first | omega | decide) (by first | omega | decide)) (cwV 4 hts g_q_difference_7 rfl rfl rfl (by decide +kernel) ⟨Nat.le_of_ble_eq_true rfl, Nat.le_of_ble_eq_true rfl⟩) (x_preV (q := (RX12, TX12, 85)) hK hP hD (ci := 11) (q0 := 0) rfl mwd_o0) rfl rfl hl.1 rfl (lv_room (Nat.le_of_ble_eq_true rfl)) dX12_difference_285 ⟨Nat.le_of_ble_eq_true rfl, Nat.le_of_ble_eq_true rfl⟩) hP hD hS hA (fun u H locs hw hP hD hS => ?_)
                        obtain ⟨n_70, j_71, j_72⟩ := u
                        try dsimp only at hw
                        have hP : va_P D vwCl (mwd y ad zw (sJ (sJ (sI (sJ (sJ (sI (sI (tI (tI (tI (tI (tI (tI (tI (tJ (tJ (sJ (sJ (sI (sJ (sJ (sI (tI (tI (tI (tI (sI (tJ (tJ (sJ (sJ (sI (sJ (sJ (sI (sI (tJ (tJ σ 55 f1) 56 f2) 44 0) 44 n_15) 42 j_16) 43 j_17) 44 n_20) 42 j_21) 43 j_22) 55 f_25) 56 f_27) 73 n_28) 72 f_29) 63 f_30) 67 f_31) 66 f_32) 44 n_33) 42 j_34) 43 j_35) 68 n_36) 69 j_37) 70 j_38) 57 f_39) 58 f_40) 59 f_41) 60 f_42) 61 f_43) 62 f_44) 71 f_45) 64 f_46) 65 f_47) 44 0) 44 n_67) 42 j_68) 43 j_69) 44 n_70) 42 j_71) 43 j_72)) H := hP
                        have hD : va_D A (mwd y ad zw (sJ (sJ (sI (sJ (sJ (sI (sI (tI (tI (tI (tI (tI (tI (tI (tJ (tJ (sJ (sJ (sI (sJ (sJ (sI (tI (tI (tI (tI (sI (tJ (tJ (sJ (sJ (sI (sJ (sJ (sI (sI (tJ (tJ σ 55 f1) 56 f2) 44 0) 44 n_15) 42 j_16) 43 j_17) 44 n_20) 42 j_21) 43 j_22) 55 f_25) 56 f_27) 73 n_28) 72 f_29) 63 f_30) 67 f_31) 66 f_32) 44 n_33) 42 j_34) 43 j_35) 68 n_36) 69 j_37) 70 j_38) 57 f_39) 58 f_40) 59 f_41) 60 f_42) 61 f_43) 62 f_44) 71 f_45) 64 f_46) 65 f_47) 44 0) 44 n_67) 42 j_68) 43 j_69) 44 n_70) 42 j_71) 43 j_72)) := hD
                        have hw : -1000000000 ≤ j_71.toInt ∧ j_71.toInt ≤ 1000000000 ∧ 0 ≤ j_72.toInt ∧ j_72.toInt ≤ 1000000000 := hw
                        have hud4 := hw
                        refine lv_aload_n hx hb dX12_difference_288 rfl (lv_at hl 8 rfl) ?_
                        refine va_get (D := D) (ci := 11) (v := .int n_70) (C := RX12) (T := TX12) (N := 85) hx hb hts inX12 hown hK hP 0 mwd_o0 rfl 44 (by decide) fl384 (fun _ h9 => h9) rfl dX12_difference_289 ?_
                        refine lv_if_eq (tgt := 301) hx hb dX12_difference_292 (by decide) (fun c_73 => ?_) (fun c_73 => ?_)
                        · have kc_73 : n_70.toInt = 0 := by have h9 := c_73; simp only [ge_iff_le, gt_iff_lt, x_lt, x_le, x_eq, ne_eq, Int32.not_lt, Int32.not_le] at h9; simp only [Int32.reduceToInt] at h9; omega
                          refine lv_iload hx hb dX12_difference_301 (lv_at hl 3 rfl) ?_
                          refine lv_if_eq (tgt := 313) hx hb dX12_difference_303 (by decide) (fun c_74 => ?_) (fun c_74 => ?_)
                          · have kc_74 : q.toInt = 0 := by have h9 := c_74; simp only [ge_iff_le, gt_iff_lt, x_lt, x_le, x_eq, ne_eq, Int32.not_lt, Int32.not_le] at h9; simp only [Int32.reduceToInt] at h9; omega
                            refine lv_aload_n hx hb dX12_difference_313 rfl (lv_at hl 8 rfl) ?_
                            refine va_get (D := D) (ci := 11) (v := .long j_72) (C := RX12) (T := TX12) (N := 85) hx hb hts inX12 hown hK hP 0 mwd_o0 rfl 43 (by decide) fl391 (fun _ h9 => h9) rfl dX12_difference_314 ?_
                            have hP : va_P D vwCl (mwd y ad zw (tJ (tJ (tI (tI (tI (tI (tI (tI (tI (tJ (tJ (sJ (sJ (sI (sJ (sJ (sI (tI (tI (tI (tI (sI σ 73 n_28) 72 f_29) 63 f_30) 67 f_31) 66 f_32) 44 n_70) 42 j_71) 43 j_72) 68 n_36) 69 j_37) 70 j_38) 57 f_39) 58 f_40) 59 f_41) 60 f_42) 61 f_43) 62 f_44) 71 f_45) 64 f_46) 65 f_47) 55 f_25) 56 f_27)) H := hP
                            have hD : va_D A (mwd y ad zw (tJ (tJ (tI (tI (tI (tI (tI (tI (tI (tJ (tJ (sJ (sJ (sI (sJ (sJ (sI (tI (tI (tI (tI (sI σ 73 n_28) 72 f_29) 63 f_30) 67 f_31) 66 f_32) 44 n_70) 42 j_71) 43 j_72) 68 n_36) 69 j_37) 70 j_38) 57 f_39) 58 f_40) 59 f_41) 60 f_42) 61 f_43) 62 f_44) 71 f_45) 64 f_46) 65 f_47) 55 f_25) 56 f_27)) := hD
                            exact x_lretW (v := j_72) (u := (n_28, f_29, f_30, f_31, f_32, n_70, j_71, j_72, n_36, j_37, j_38, f_39, f_40, f_41, f_42, f_43, f_44, f_45, f_46, f_47, f_25, f_27)) hx hb hr hQ (by (try dsimp only); exact ⟨ho9, hg_48, hg_49, hg_50, hg_51, hg_52, hg_53, hvf_25, hvf_27⟩) hP hD hK hS dX12_difference_317 hlocks
                          · have kc_74 : q.toInt ≠ 0 := by have h9 := c_74; simp only [ge_iff_le, gt_iff_lt, x_lt, x_le, x_eq, ne_eq, Int32.not_lt, Int32.not_le] at h9; simp only [Int32.reduceToInt] at h9; omega
                            refine lv_aload_n hx hb dX12_difference_306 rfl (lv_at hl 8 rfl) ?_
                            refine va_get (D := D) (ci := 11) (v := .long j_71) (C := RX12) (T := TX12) (N := 85) hx hb hts inX12 hown hK hP 0 mwd_o0 rfl 42 (by decide) fl387 (fun _ h9 => h9) rfl dX12_difference_307 ?_
                            refine lv_goto (tgt := 317) hx hb dX12_difference_310 (by decide) ?_
                            have hP : va_P D vwCl (mwd y ad zw (tJ (tJ (tI (tI (tI (tI (tI (tI (tI (tJ (tJ (sJ (sJ (sI (sJ (sJ (sI (tI (tI (tI (tI (sI σ 73 n_28) 72 f_29) 63 f_30) 67 f_31) 66 f_32) 44 n_70) 42 j_71) 43 j_72) 68 n_36) 69 j_37) 70 j_38) 57 f_39) 58 f_40) 59 f_41) 60 f_42) 61 f_43) 62 f_44) 71 f_45) 64 f_46) 65 f_47) 55 f_25) 56 f_27)) H := hP
                            have hD : va_D A (mwd y ad zw (tJ (tJ (tI (tI (tI (tI (tI (tI (tI (tJ (tJ (sJ (sJ (sI (sJ (sJ (sI (tI (tI (tI (tI (sI σ 73 n_28) 72 f_29) 63 f_30) 67 f_31) 66 f_32) 44 n_70) 42 j_71) 43 j_72) 68 n_36) 69 j_37) 70 j_38) 57 f_39) 58 f_40) 59 f_41) 60 f_42) 61 f_43) 62 f_44) 71 f_45) 64 f_46) 65 f_47) 55 f_25) 56 f_27)) := hD
                            exact x_lretW (v := j_71) (u := (n_28, f_29, f_30, f_31, f_32, n_70, j_71, j_72, n_36, j_37, j_38, f_39, f_40, f_41, f_42, f_43, f_44, f_45, f_46, f_47, f_25, f_27)) hx hb hr hQ (by (try dsimp only); exact ⟨ho9, hg_48, hg_49, hg_50, hg_51, hg_52, hg_53, hvf_25, hvf_27⟩) hP hD hK hS dX12_difference_317 hlocks
                        · have kc_73 : n_70.toInt ≠ 0 := by have h9 := c_73; simp only [ge_iff_le, gt_iff_lt, x_lt, x_le, x_eq, ne_eq, Int32.not_lt, Int32.not_le] at h9; simp only [Int32.reduceToInt] at h9; omega
                          refine lv_ldc2 (v := (-2000000000)) hx hb hown (hts (.constantLong RX12 406 (-2000000000)) (List.mem_of_getElem? (i := 11) rfl)) dX12_difference_295 ?_
                          refine lv_goto (tgt := 317) hx hb dX12_difference_298 (by decide) ?_
                          have hP : va_P D vwCl (mwd y ad zw (tJ (tJ (tI (tI (tI (tI (tI (tI (tI (tJ (tJ (sJ (sJ (sI (sJ (sJ (sI (tI (tI (tI (tI (sI σ 73 n_28) 72 f_29) 63 f_30) 67 f_31) 66 f_32) 44 n_70) 42 j_71) 43 j_72) 68 n_36) 69 j_37) 70 j_38) 57 f_39) 58 f_40) 59 f_41) 60 f_42) 61 f_43) 62 f_44) 71 f_45) 64 f_46) 65 f_47) 55 f_25) 56 f_27)) H := hP
                          have hD : va_D A (mwd y ad zw (tJ (tJ (tI (tI (tI (tI (tI (tI (tI (tJ (tJ (sJ (sJ (sI (sJ (sJ (sI (tI (tI (tI (tI (sI σ 73 n_28) 72 f_29) 63 f_30) 67 f_31) 66 f_32) 44 n_70) 42 j_71) 43 j_72) 68 n_36) 69 j_37) 70 j_38) 57 f_39) 58 f_40) 59 f_41) 60 f_42) 61 f_43) 62 f_44) 71 f_45) 64 f_46) 65 f_47) 55 f_25) 56 f_27)) := hD
                          exact x_lretW (v := (-2000000000)) (u := (n_28, f_29, f_30, f_31, f_32, n_70, j_71, j_72, n_36, j_37, j_38, f_39, f_40, f_41, f_42, f_43, f_44, f_45, f_46, f_47, f_25, f_27)) hx hb hr hQ (by (try dsimp only); exact ⟨ho9, hg_48, hg_49, hg_50, hg_51, hg_52, hg_53, hvf_25, hvf_27⟩) hP hD hK hS dX12_difference_317 hlocks
                      · have kc_57 : k.toInt ≥ i_56.toInt := by have h9 := c_57; simp only [ge_iff_le, gt_iff_lt, x_lt, x_le, x_eq, ne_eq, Int32.not_lt, Int32.not_le] at h9; omega
                        refine lv_ldc2 (v := (-2000000000)) hx hb hown (hts (.constantLong RX12 406 (-2000000000)) (List.mem_of_getElem? (i := 11) rfl)) dX12_difference_208 ?_
                        have hP : va_P D vwCl (mwd y ad zw (tJ (tJ (tI (tI (tI (tI (tI (tI (tI (tJ (tJ (sJ (sJ (sI (sJ (sJ (sI (tI (tI (tI (tI (sI σ 73 n_28) 72 f_29) 63 f_30) 67 f_31) 66 f_32) 44 n_33) 42 j_34) 43 j_35) 68 n_36) 69 j_37) 70 j_38) 57 f_39) 58 f_40) 59 f_41) 60 f_42) 61 f_43) 62 f_44) 71 f_45) 64 f_46) 65 f_47) 55 f_25) 56 f_27)) H := hP
                        have hD : va_D A (mwd y ad zw (tJ (tJ (tI (tI (tI (tI (tI (tI (tI (tJ (tJ (sJ (sJ (sI (sJ (sJ (sI (tI (tI (tI (tI (sI σ 73 n_28) 72 f_29) 63 f_30) 67 f_31) 66 f_32) 44 n_33) 42 j_34) 43 j_35) 68 n_36) 69 j_37) 70 j_38) 57 f_39) 58 f_40) 59 f_41) 60 f_42) 61 f_43) 62 f_44) 71 f_45) 64 f_46) 65 f_47) 55 f_25) 56 f_27)) := hD
                        exact x_lretW (v := (-2000000000)) (u := (n_28, f_29, f_30, f_31, f_32, n_33, j_34, j_35, n_36, j_37, j_38, f_39, f_40, f_41, f_42, f_43, f_44, f_45, f_46, f_47, f_25, f_27)) hx hb hr hQ (by (try dsimp only); exact ⟨ho9, hg_48, hg_49, hg_50, hg_51, hg_52, hg_53, hvf_25, hvf_27⟩) hP hD hK hS dX12_difference_211 hlocks
                  · have kc_23 : n_20.toInt ≠ 0 := by have h9 := c_23; simp only [ge_iff_le, gt_iff_lt, x_lt, x_le, x_eq, ne_eq, Int32.not_lt, Int32.not_le] at h9; simp only [Int32.reduceToInt] at h9; omega
                    refine lv_ldc2 (v := (-2000000000)) hx hb hown (hts (.constantLong RX12 406 (-2000000000)) (List.mem_of_getElem? (i := 11) rfl)) dX12_difference_154 ?_
                    have hP : va_P D vwCl (mwd y ad zw (tJ (tJ (tI (tI (tI (tI (tI (tI (tI (tJ (tJ (sJ (sJ (sI (sJ (sJ (sI (tI (tI (tI (tI (sI σ 73 (σ.1 73)) 72 (σ.2.2.1 72)) 63 (σ.2.2.1 63)) 67 (σ.2.2.1 67)) 66 (σ.2.2.1 66)) 44 n_20) 42 j_21) 43 j_22) 68 (σ.1 68)) 69 (σ.2.1 69)) 70 (σ.2.1 70)) 57 (σ.2.2.2 57)) 58 (σ.2.2.2 58)) 59 (σ.2.2.1 59)) 60 (σ.2.2.1 60)) 61 (σ.2.2.1 61)) 62 (σ.2.2.1 62)) 71 (σ.2.2.1 71)) 64 (σ.2.2.1 64)) 65 (σ.2.2.1 65)) 55 f1) 56 f2)) H := hP
                    have hD : va_D A (mwd y ad zw (tJ (tJ (tI (tI (tI (tI (tI (tI (tI (tJ (tJ (sJ (sJ (sI (sJ (sJ (sI (tI (tI (tI (tI (sI σ 73 (σ.1 73)) 72 (σ.2.2.1 72)) 63 (σ.2.2.1 63)) 67 (σ.2.2.1 67)) 66 (σ.2.2.1 66)) 44 n_20) 42 j_21) 43 j_22) 68 (σ.1 68)) 69 (σ.2.1 69)) 70 (σ.2.1 70)) 57 (σ.2.2.2 57)) 58 (σ.2.2.2 58)) 59 (σ.2.2.1 59)) 60 (σ.2.2.1 60)) 61 (σ.2.2.1 61)) 62 (σ.2.2.1 62)) 71 (σ.2.2.1 71)) 64 (σ.2.2.1 64)) 65 (σ.2.2.1 65)) 55 f1) 56 f2)) := hD
                    exact x_lretW (v := (-2000000000)) (u := ((σ.1 73), (σ.2.2.1 72), (σ.2.2.1 63), (σ.2.2.1 67), (σ.2.2.1 66), n_20, j_21, j_22, (σ.1 68), (σ.2.1 69), (σ.2.1 70), (σ.2.2.2 57), (σ.2.2.2 58), (σ.2.2.1 59), (σ.2.2.1 60), (σ.2.2.1 61), (σ.2.2.1 62), (σ.2.2.1 71), (σ.2.2.1 64), (σ.2.2.1 65), f1, f2)) hx hb hr hQ (by (try dsimp only); exact ⟨hop, hB57, hB58, hB62, hB63, hB64, hB65, hf1, hf2⟩) hP hD hK hS dX12_difference_157 hlocks
                · have kc_12 : j.toInt < 8 := by have h9 := c_12; simp only [ge_iff_le, gt_iff_lt, x_lt, x_le, x_eq, ne_eq, Int32.not_lt, Int32.not_le] at h9; simp only [Int32.reduceToInt] at h9; omega
                  refine lv_aload_n hx hb dX12_difference_61 rfl (lv_at hl 6 rfl) ?_
                  refine va_get (D := D) (ci := 11) (v := .ref (ad 55)) (C := RX12) (T := TX12) (N := 85) hx hb hts inX12 hown hK hP 0 mwd_o0 rfl 55 (by decide) fl118 (fun _ h9 => h9) rfl dX12_difference_62 ?_
                  refine lv_bipush (v := 8) hx hb dX12_difference_65 (by decide) ?_
                  refine lv_iload hx hb dX12_difference_67 (lv_at hl 0 rfl) ?_
                  refine lv_iadd hx hb dX12_difference_69 ?_
                  refine lv_topi (fun i_75 ei_75 => ?_)
                  have vi_75 : i_75.toInt = 8 + j.toInt := by have h9 := x_add ei_75 (by omega) (by omega); omega
                  refine lv_aload_n hx hb dX12_difference_70 rfl (lv_at hl 6 rfl) ?_
                  refine va_get (D := D) (ci := 11) (v := .ref (ad 55)) (C := RX12) (T := TX12) (N := 85) hx hb hts inX12 hown hK hP 0 mwd_o0 rfl 55 (by decide) fl118 (fun _ h9 => h9) rfl dX12_difference_71 ?_
                  refine lv_iload hx hb dX12_difference_74 (lv_at hl 0 rfl) ?_
                  refine va_lald hx hb hK hP 35 3 mwd_a35 rfl (x_in (by omega) (by omega)) dX12_difference_76 ?_
                  refine lv_topl (fun j_76 ej_76 => ?_)
                  have ej_76 : j_76 = f1 (Int32.toNatClampNeg j) := ej_76
                  have bj_76 := b_atJ hf1 ej_76
                  refine va_last hx hb hK hP hD hS 35 3 mwd_a35 rfl (x_in (by omega) (by omega)) dX12_difference_77 (fun H locs hP hD hS => ?_)
                  obtain ⟨f_77, ef_77⟩ : ∃ z9 : Nat → Int64, z9 = (vp_updL f1 (Int32.toNatClampNeg i_75) j_76) := ⟨_, rfl⟩
                  have hP : va_P D vwCl (mwd y ad zw (tJ (tJ (tJ σ 55 f1) 56 f2) 55 f_77)) H := by rw [ef_77]; exact x_trP hP mwd_s35
                  have hD : va_D A (mwd y ad zw (tJ (tJ (tJ σ 55 f1) 56 f2) 55 f_77)) := by rw [ef_77]; exact x_trD hD mwd_s35
                  have hvf_77 : bJ f_77 (-1000000000) 1000000000 := by rw [ef_77]; exact b_updJ hf1 (by omega) (by omega)
                  refine lv_aload_n hx hb dX12_difference_78 rfl (lv_at hl 6 rfl) ?_
                  refine va_get (D := D) (ci := 11) (v := .ref (ad 56)) (C := RX12) (T := TX12) (N := 85) hx hb hts inX12 hown hK hP 0 mwd_o0 rfl 56 (by decide) fl121 (fun _ h9 => h9) rfl dX12_difference_79 ?_
                  refine lv_bipush (v := 8) hx hb dX12_difference_82 (by decide) ?_
                  refine lv_iload hx hb dX12_difference_84 (lv_at hl 0 rfl) ?_
                  refine lv_iadd hx hb dX12_difference_86 ?_
                  refine lv_topi (fun i_78 ei_78 => ?_)
                  have vi_78 : i_78.toInt = 8 + j.toInt := by have h9 := x_add ei_78 (by omega) (by omega); omega
                  refine lv_aload_n hx hb dX12_difference_87 rfl (lv_at hl 6 rfl) ?_
                  refine va_get (D := D) (ci := 11) (v := .ref (ad 56)) (C := RX12) (T := TX12) (N := 85) hx hb hts inX12 hown hK hP 0 mwd_o0 rfl 56 (by decide) fl121 (fun _ h9 => h9) rfl dX12_difference_88 ?_
                  refine lv_iload hx hb dX12_difference_91 (lv_at hl 0 rfl) ?_
                  refine va_lald hx hb hK hP 36 3 mwd_a36 rfl (x_in (by omega) (by omega)) dX12_difference_93 ?_
                  refine lv_topl (fun j_79 ej_79 => ?_)
                  have ej_79 : j_79 = f2 (Int32.toNatClampNeg j) := ej_79
                  have bj_79 := b_atJ hf2 ej_79
                  refine va_last hx hb hK hP hD hS 36 3 mwd_a36 rfl (x_in (by omega) (by omega)) dX12_difference_94 (fun H locs hP hD hS => ?_)
                  obtain ⟨f_80, ef_80⟩ : ∃ z9 : Nat → Int64, z9 = (vp_updL f2 (Int32.toNatClampNeg i_78) j_79) := ⟨_, rfl⟩
                  have hP : va_P D vwCl (mwd y ad zw (tJ (tJ (tJ (tJ σ 55 f1) 56 f2) 55 f_77) 56 f_80)) H := by rw [ef_80]; exact x_trP hP mwd_s36
                  have hD : va_D A (mwd y ad zw (tJ (tJ (tJ (tJ σ 55 f1) 56 f2) 55 f_77) 56 f_80)) := by rw [ef_80]; exact x_trD hD mwd_s36
                  have hvf_80 : bJ f_80 0 1000000000 := by rw [ef_80]; exact b_updJ hf2 (by omega) (by omega)
                  obtain ⟨i_81, ei_81⟩ : ∃ z9 : Int32, z9 = j + 1 := ⟨_, rfl⟩
                  have vi_81 : i_81.toInt = j.toInt + 1 := by have h9 := x_add ei_81 (by omega) (by omega); omega
                  refine lv_iinc (v := i_81) (lv' := [(6, .int i_81), (5, .int q), (4, .int b), (3, .int a), (2, .int i), (1, .int k), (0, .ref (ad 1))]) hx hb dX12_difference_95 hl (k := 0) rfl (by rw [ei_81]; rfl) (by decide) rfl (fun ls hl => ?_)
                  refine lv_goto (tgt := 54) hx hb dX12_difference_98 (by decide) ?_
                  have hP : va_P D vwCl (mwd y ad zw (tJ (tJ σ 55 f_77) 56 f_80)) H := hP
                  have hD : va_D A (mwd y ad zw (tJ (tJ σ 55 f_77) 56 f_80)) := hD
                  exact ih_loop i_81 f_77 f_80 H locs ls (by omega) (by omega) hvf_77 hvf_80 (by omega) hP hD hS (lv_sub hl [0, 1, 2, 3, 4, 5, 6] rfl)
            exact loop 9 0 (σ.2.2.2 55) (σ.2.2.2 56) H locs ls (by decide) (by decide) hB55 hB56 (by omega) hP hD hS (lv_sub hl [0, 6, 5, 4, 3, 2, 1] rfl)
          · have kc_11 : r_10.toInt = 0 := by have h9 := c_11; simp only [ge_iff_le, gt_iff_lt, x_lt, x_le, x_eq, ne_eq, Int32.not_lt, Int32.not_le] at h9; simp only [Int32.reduceToInt] at h9; omega
            refine lv_ldc2 (v := (-2000000000)) hx hb hown (hts (.constantLong RX12 406 (-2000000000)) (List.mem_of_getElem? (i := 11) rfl)) dX12_difference_47 ?_
            have hP : va_P D vwCl (mwd y ad zw (tJ (tJ (tI (tI (tI (tI (tI (tI (tI (tJ (tJ (sJ (sJ (sI (sJ (sJ (sI (tI (tI (tI (tI (sI σ 73 (σ.1 73)) 72 (σ.2.2.1 72)) 63 (σ.2.2.1 63)) 67 (σ.2.2.1 67)) 66 (σ.2.2.1 66)) 44 (σ.1 44)) 42 (σ.2.1 42)) 43 (σ.2.1 43)) 68 (σ.1 68)) 69 (σ.2.1 69)) 70 (σ.2.1 70)) 57 (σ.2.2.2 57)) 58 (σ.2.2.2 58)) 59 (σ.2.2.1 59)) 60 (σ.2.2.1 60)) 61 (σ.2.2.1 61)) 62 (σ.2.2.1 62)) 71 (σ.2.2.1 71)) 64 (σ.2.2.1 64)) 65 (σ.2.2.1 65)) 55 (σ.2.2.2 55)) 56 (σ.2.2.2 56))) H := hP
            have hD : va_D A (mwd y ad zw (tJ (tJ (tI (tI (tI (tI (tI (tI (tI (tJ (tJ (sJ (sJ (sI (sJ (sJ (sI (tI (tI (tI (tI (sI σ 73 (σ.1 73)) 72 (σ.2.2.1 72)) 63 (σ.2.2.1 63)) 67 (σ.2.2.1 67)) 66 (σ.2.2.1 66)) 44 (σ.1 44)) 42 (σ.2.1 42)) 43 (σ.2.1 43)) 68 (σ.1 68)) 69 (σ.2.1 69)) 70 (σ.2.1 70)) 57 (σ.2.2.2 57)) 58 (σ.2.2.2 58)) 59 (σ.2.2.1 59)) 60 (σ.2.2.1 60)) 61 (σ.2.2.1 61)) 62 (σ.2.2.1 62)) 71 (σ.2.2.1 71)) 64 (σ.2.2.1 64)) 65 (σ.2.2.1 65)) 55 (σ.2.2.2 55)) 56 (σ.2.2.2 56))) := hD
            exact x_lretW (v := (-2000000000)) (u := ((σ.1 73), (σ.2.2.1 72), (σ.2.2.1 63), (σ.2.2.1 67), (σ.2.2.1 66), (σ.1 44), (σ.2.1 42), (σ.2.1 43), (σ.1 68), (σ.2.1 69), (σ.2.1 70), (σ.2.2.2 57), (σ.2.2.2 58), (σ.2.2.1 59), (σ.2.2.1 60), (σ.2.2.1 61), (σ.2.2.1 62), (σ.2.2.1 71), (σ.2.2.1 64), (σ.2.2.1 65), (σ.2.2.2 55), (σ.2.2.2 56))) hx hb hr hQ (by (try dsimp only); exact ⟨hop, hB57, hB58, hB62, hB63, hB64, hB65, hB55, hB56⟩) hP hD hK hS dX12_difference_50 hlocks

def v_q_group : List Cond := .code yX12_group cX12_group 2 (some .int) :: ([.fieldLink RX12 375 "SlopeRunnerModel" "hasGroups" "Z", .fieldLink RX12 488 "SlopeRunnerModel" "groupInputs" "I", .fieldLink RX12 176 "SlopeRunnerModel" "groupOf" "[I"] ++ ((wsS RX12 231 yX12_isIn v_q_isIn) ++ wsX120))
theorem g_q_group_0 : GoodIn v_q_group (wsS RX12 231 yX12_isIn v_q_isIn) := goodIn_sub (fun w h => List.mem_cons_of_mem _ (List.mem_append_right _ (List.mem_append_left _ h))) (by decide +kernel)
set_option maxHeartbeats 4000000 in
set_option maxRecDepth 100000 in
theorem q_group (l : Launch) (D : va_G) (y : Nat → ClassId) (sz : Nat) (ad : Nat → Nat) (zw : Nat → Nat → Int32) (σ : OS) (k : Int32) (hg0 : 0 ≤ (σ.1 79).toInt) (hg1 : (σ.1 79).toInt ≤ 8) : Met l yX12_group v_q_group ({ frames := 1, cells := 0, slots := 0, locals := 25 } : Room) (va_Pc [.ref (ad 1), .int k] (xPre D (xT y) (mwd y ad zw σ) sz)) (va_Qi (fun (r : Int32) (_ : Unit) => True) (fun (u : Unit) => xB D (xT y) (va_A (mwd y ad zw σ) sz) (mwd y ad zw σ)) (va_A (mwd y ad zw σ) sz)) 0 0 (va_A (mwd y ad zw σ) sz) := by
  refine x_meti (cc := cX12_group) (maxL := 2) (by decide) rfl (Nat.le_of_ble_eq_true rfl) ?_
  intro p e s m below meth c A H locs Q hx hb hml hown hts hr hlocks hmn hA hP hK hD hS ls hl hQ
  have hl : lv_has ls 2 [(0, .ref (ad 1)), (1, .int k)] := hl
  have fl375 := hts (.fieldLink RX12 375 "SlopeRunnerModel" "hasGroups" "Z") (List.mem_of_getElem? (i := 1) rfl)
  have inX12 : ∀ w ∈ wsX120, w ∈ v_q_group := (fun w h => List.mem_cons_of_mem _ (List.mem_append_right _ (List.mem_append_right _ h)))
  have kk_0 : (0 : Int32).toInt = 0 := rfl
  have kk_m1 : ((-1) : Int32).toInt = -1 := rfl
  have fl488 := hts (.fieldLink RX12 488 "SlopeRunnerModel" "groupInputs" "I") (List.mem_of_getElem? (i := 2) rfl)
  have kk_1 : (1 : Int32).toInt = 1 := rfl
  have kl_0 : (0 : Int64).toInt = 0 := rfl
  have fl176 := hts (.fieldLink RX12 176 "SlopeRunnerModel" "groupOf" "[I") (List.mem_of_getElem? (i := 3) rfl)
  refine lv_aload_n hx hb dX12_group_0 rfl (lv_at hl 0 rfl) ?_
  refine va_get (D := D) (ci := 11) (v := .int (σ.1 78)) (C := RX12) (T := TX12) (N := 85) hx hb hts inX12 hown hK hP 0 mwd_o0 rfl 78 (by decide) fl375 (fun _ h9 => h9) rfl dX12_group_1 ?_
  refine lv_if_eq (tgt := 32) hx hb dX12_group_4 (by decide) (fun c_1 => ?_) (fun c_1 => ?_)
  · have kc_1 : (σ.1 78).toInt = 0 := by have h9 := c_1; simp only [ge_iff_le, gt_iff_lt, x_lt, x_le, x_eq, ne_eq, Int32.not_lt, Int32.not_le] at h9; simp only [Int32.reduceToInt] at h9; omega
    refine lv_iconst (v := (-1)) hx hb dX12_group_32 (by decide) ?_
    exact x_iretW (v := (-1)) (u := ()) hx hb hr hQ trivial hP hD hK hS dX12_group_33 hlocks
  · have kc_1 : (σ.1 78).toInt ≠ 0 := by have h9 := c_1; simp only [ge_iff_le, gt_iff_lt, x_lt, x_le, x_eq, ne_eq, Int32.not_lt, Int32.not_le] at h9; simp only [Int32.reduceToInt] at h9; omega
    refine lv_iload_n hx hb dX12_group_7 rfl (lv_at hl 1 rfl) ?_
    refine lv_i2l hx hb dX12_group_8 rfl ?_
    refine lv_topl (fun j_2 ej_2 => ?_)
    have vj_2 : j_2.toInt = k.toInt := by rw [ej_2]; exact Int32.toInt_toInt64 _
    refine lv_lconst (v := 0) hx hb dX12_group_9 (by decide) ?_
    refine lv_aload_n hx hb dX12_group_10 rfl (lv_at hl 0 rfl) ?_
    refine va_get (D := D) (ci := 11) (v := .int (σ.1 79)) (C := RX12) (T := TX12) (N := 85) hx hb hts inX12 hown hK hP 0 mwd_o0 rfl 79 (by decide) fl488 (fun _ h9 => h9) rfl dX12_group_11 ?_
    refine lv_iconst (v := 1) hx hb dX12_group_14 (by decide) ?_
    refine lv_isub hx hb dX12_group_15 ?_
    refine lv_topi (fun i_3 ei_3 => ?_)
    have vi_3 : i_3.toInt = (σ.1 79).toInt - 1 := by have h9 := x_sub ei_3 (by omega) (by omega); omega
    refine lv_i2l hx hb dX12_group_16 rfl ?_
    refine lv_topl (fun j_4 ej_4 => ?_)
    have vj_4 : j_4.toInt = i_3.toInt := by rw [ej_4]; exact Int32.toInt_toInt64 _
    refine x_calliN (va_runS (As := [.long j_2, .long 0, .long j_4]) (rest := []) ⟨hx, hb, hml, hown, hts⟩ (q_isIn l D y H.size j_2 0 j_4) (cwS 3 hts g_q_group_0 rfl rfl rfl (by decide +kernel) ⟨Nat.le_of_ble_eq_true rfl, Nat.le_of_ble_eq_true rfl⟩) (x_preS hK (x_nilP D H) (x_nilD A)) rfl rfl hl.1 rfl (lv_room (Nat.le_of_ble_eq_true rfl)) dX12_group_17 ⟨Nat.le_of_ble_eq_true rfl, Nat.le_of_ble_eq_true rfl⟩) hP hD hS hA (fun r_5 u H locs hw hP hD hS => ?_)
    try dsimp only at hw
    refine lv_if_eq (tgt := 32) hx hb dX12_group_20 (by decide) (fun c_6 => ?_) (fun c_6 => ?_)
    · have kc_6 : r_5.toInt = 0 := by have h9 := c_6; simp only [ge_iff_le, gt_iff_lt, x_lt, x_le, x_eq, ne_eq, Int32.not_lt, Int32.not_le] at h9; simp only [Int32.reduceToInt] at h9; omega
      refine lv_iconst (v := (-1)) hx hb dX12_group_32 (by decide) ?_
      exact x_iretW (v := (-1)) (u := ()) hx hb hr hQ trivial hP hD hK hS dX12_group_33 hlocks
    · have kc_6 : r_5.toInt ≠ 0 := by have h9 := c_6; simp only [ge_iff_le, gt_iff_lt, x_lt, x_le, x_eq, ne_eq, Int32.not_lt, Int32.not_le] at h9; simp only [Int32.reduceToInt] at h9; omega
      refine lv_aload_n hx hb dX12_group_23 rfl (lv_at hl 0 rfl) ?_
      refine va_get (D := D) (ci := 11) (v := .ref (ad 80)) (C := RX12) (T := TX12) (N := 85) hx hb hts inX12 hown hK hP 0 mwd_o0 rfl 80 (by decide) fl176 (fun _ h9 => h9) rfl dX12_group_24 ?_
      refine lv_iload_n hx hb dX12_group_27 rfl (lv_at hl 1 rfl) ?_
      refine va_iald hx hb hK hP 54 2 mwd_a54 rfl (x_in (by omega) (by omega)) dX12_group_28 ?_
      refine lv_topi (fun i_7 ei_7 => ?_)
      have ei_7 : i_7 = (σ.2.2.1 80) (Int32.toNatClampNeg k) := ei_7
      refine lv_goto (tgt := 33) hx hb dX12_group_29 (by decide) ?_
      exact x_iretW (v := i_7) (u := ()) hx hb hr hQ trivial hP hD hK hS dX12_group_33 hlocks

def v_q_worksAgain : List Cond := .code yX12_worksAgain cX12_worksAgain 6 none :: ([.fieldLink RX12 497 "SlopeRunnerModel" "hasAgain" "Z", .fieldLink RX12 182 "SlopeRunnerModel" "again" "[I", .fieldLink RX12 185 "SlopeRunnerModel" "firstKept" "[I", .constant RX12 500 1000000] ++ wsX120)
set_option maxHeartbeats 4000000 in
set_option maxRecDepth 100000 in
theorem q_worksAgain (l : Launch) (D : va_G) (y : Nat → ClassId) (sz : Nat) (ad : Nat → Nat) (zw : Nat → Nat → Int32) (σ : OS)  : Met l yX12_worksAgain v_q_worksAgain ({ frames := 0, cells := 0, slots := 0, locals := 0 } : Room) (va_Pc [.ref (ad 1)] (xPre D (xT y) (mwd y ad zw σ) sz)) (va_Qv (fun (u : Int32 × (Nat → Int32) × (Nat → Int32)) => True) (fun (u : Int32 × (Nat → Int32) × (Nat → Int32)) => xB D (xT y) (va_A (mwd y ad zw σ) sz) (mwd y ad zw (tI (tI (sI σ 82 u.1) 83 u.2.1) 84 u.2.2))) (va_A (mwd y ad zw σ) sz)) 0 0 (va_A (mwd y ad zw σ) sz) := by
  refine x_metv (cc := cX12_worksAgain) (maxL := 6) (by decide) rfl (Nat.le_of_ble_eq_true rfl) ?_
  intro p e s m below meth c A H locs Q hx hb hml hown hts hr hlocks hmn hA hP hK hD hS ls hl hQ
  have hl : lv_has ls 6 [(0, .ref (ad 1))] := hl
  have fl497 := hts (.fieldLink RX12 497 "SlopeRunnerModel" "hasAgain" "Z") (List.mem_of_getElem? (i := 1) rfl)
  have inX12 : ∀ w ∈ wsX120, w ∈ v_q_worksAgain := (fun w h => List.mem_cons_of_mem _ (List.mem_append_right _ h))
  have kk_0 : (0 : Int32).toInt = 0 := rfl
  have kk_100 : (100 : Int32).toInt = 100 := rfl
  have fl182 := hts (.fieldLink RX12 182 "SlopeRunnerModel" "again" "[I") (List.mem_of_getElem? (i := 2) rfl)
  have kk_11 : (11 : Int32).toInt = 11 := rfl
  have kk_1 : (1 : Int32).toInt = 1 := rfl
  have fl185 := hts (.fieldLink RX12 185 "SlopeRunnerModel" "firstKept" "[I") (List.mem_of_getElem? (i := 3) rfl)
  have kk_10 : (10 : Int32).toInt = 10 := rfl
  refine lv_aload_n hx hb dX12_worksAgain_0 rfl (lv_at hl 0 rfl) ?_
  refine va_get (D := D) (ci := 11) (v := .int (σ.1 82)) (C := RX12) (T := TX12) (N := 85) hx hb hts inX12 hown hK hP 0 mwd_o0 rfl 82 (by decide) fl497 (fun _ h9 => h9) rfl dX12_worksAgain_1 ?_
  refine lv_if_eq (tgt := 8) hx hb dX12_worksAgain_4 (by decide) (fun c_1 => ?_) (fun c_1 => ?_)
  · have kc_1 : (σ.1 82).toInt = 0 := by have h9 := c_1; simp only [ge_iff_le, gt_iff_lt, x_lt, x_le, x_eq, ne_eq, Int32.not_lt, Int32.not_le] at h9; simp only [Int32.reduceToInt] at h9; omega
    refine lv_aload_n hx hb dX12_worksAgain_8 rfl (lv_at hl 0 rfl) ?_
    refine lv_iconst (v := 1) hx hb dX12_worksAgain_9 (by decide) ?_
    refine va_put (D := D) (ci := 11) (v := .int 1) (ty := .boolean) (C := RX12) (T := TX12) (N := 85) hx hb hts inX12 tyX12 tyX12_ok nmX12 hown hK hP hD hS 0 mwd_o0 rfl 82 (by decide) fl497 (fun _ h9 => h9) rfl (by decide +kernel) rfl rfl (Nat.le_of_ble_eq_true rfl) dX12_worksAgain_10 (fun H locs hP hD hS => ?_)
    have hP : va_P D vwCl (mwd y ad zw (sI σ 82 1)) H := x_trP hP mwd_p0_82
    have hD : va_D A (mwd y ad zw (sI σ 82 1)) := x_trD hD mwd_p0_82
    refine lv_iconst (v := 1) hx hb dX12_worksAgain_13 (by decide) ?_
    refine lv_istore_n (lv' := [(1, .int 1), (0, .ref (ad 1))]) hx hb dX12_worksAgain_14 rfl hl (by decide) rfl (fun ls hl => ?_)
    have hP : va_P D vwCl (mwd y ad zw (tI (tI (sI σ 82 1) 83 (σ.2.2.1 83)) 84 (σ.2.2.1 84))) H := hP
    have hD : va_D A (mwd y ad zw (tI (tI (sI σ 82 1) 83 (σ.2.2.1 83)) 84 (σ.2.2.1 84))) := hD
    have loop : ∀ (fu : Nat) (n : Int32) (f : Nat → Int32) (g : Nat → Int32) (H : Heap) (locs : List Loc) (ls : Array Slot), (1 ≤ n.toInt) → (n.toInt ≤ 101) → (101 - n.toInt < (fu : Int)) → va_P D vwCl (mwd y ad zw (tI (tI (sI σ 82 1) 83 f) 84 g)) H → va_D A (mwd y ad zw (tI (tI (sI σ 82 1) 83 f) 84 g)) → va_S A s.heap H locs → lv_has ls 6 [(1, .int n), (0, .ref (ad 1))] → W p l e ({ frames := 0, cells := 0, slots := 0, locals := 0 } : Room) s m ([.ref (ad 1)] : List Value).toArray below meth c H locs 0 0 Q (F0 m 15 ls []) := by
      intro fu
      induction fu with
      | zero =>
        intro n f g H locs ls hn0 hn1 hm
        exact absurd hm (by omega)
      | succ fu ih_loop =>
        intro n f g H locs ls hn0 hn1 hm hP hD hS hl
        refine lv_iload_n hx hb dX12_worksAgain_15 rfl (lv_at hl 0 rfl) ?_
        refine lv_bipush (v := 100) hx hb dX12_worksAgain_16 (by decide) ?_
        refine lv_icmp_gt (tgt := 182) hx hb dX12_worksAgain_18 (by decide) (fun c_2 => ?_) (fun c_2 => ?_)
        · have kc_2 : n.toInt > 100 := by have h9 := c_2; simp only [ge_iff_le, gt_iff_lt, x_lt, x_le, x_eq, ne_eq, Int32.not_lt, Int32.not_le] at h9; simp only [Int32.reduceToInt] at h9; omega
          exact x_vretW (u := (1, f, g)) hx hb hr hQ trivial hP hD hK hS dX12_worksAgain_182 hlocks
        · have kc_2 : n.toInt ≤ 100 := by have h9 := c_2; simp only [ge_iff_le, gt_iff_lt, x_lt, x_le, x_eq, ne_eq, Int32.not_lt, Int32.not_le] at h9; simp only [Int32.reduceToInt] at h9; omega
          refine lv_aload_n hx hb dX12_worksAgain_21 rfl (lv_at hl 1 rfl) ?_
          refine va_get (D := D) (ci := 11) (v := .ref (ad 83)) (C := RX12) (T := TX12) (N := 85) hx hb hts inX12 hown hK hP 0 mwd_o0 rfl 83 (by decide) fl182 (fun _ h9 => h9) rfl dX12_worksAgain_22 ?_
          refine lv_bipush (v := 11) hx hb dX12_worksAgain_25 (by decide) ?_
          refine lv_iload_n hx hb dX12_worksAgain_27 rfl (lv_at hl 0 rfl) ?_
          refine lv_imul hx hb dX12_worksAgain_28 ?_
          refine lv_topi (fun i_3 ei_3 => ?_)
          have vi_3 : i_3.toInt = 11 * n.toInt := by have h9 := x_mulIl (n := 11) ei_3 rfl (by omega) (by omega); omega
          refine lv_iconst (v := 1) hx hb dX12_worksAgain_29 (by decide) ?_
          refine lv_iadd hx hb dX12_worksAgain_30 ?_
          refine lv_topi (fun i_4 ei_4 => ?_)
          have vi_4 : i_4.toInt = i_3.toInt + 1 := by have h9 := x_add ei_4 (by omega) (by omega); omega
          refine lv_iload_n hx hb dX12_worksAgain_31 rfl (lv_at hl 0 rfl) ?_
          refine lv_iload_n hx hb dX12_worksAgain_32 rfl (lv_at hl 0 rfl) ?_
          refine lv_iconst (v := 1) hx hb dX12_worksAgain_33 (by decide) ?_
          refine lv_isub hx hb dX12_worksAgain_34 ?_
          refine lv_topi (fun i_5 ei_5 => ?_)
          have vi_5 : i_5.toInt = n.toInt - 1 := by have h9 := x_sub ei_5 (by omega) (by omega); omega
          refine lv_imul hx hb dX12_worksAgain_35 ?_
          refine lv_topi (fun i_6 ei_6 => ?_)
          refine lv_iconst (v := 2) hx hb dX12_worksAgain_36 (by decide) ?_
          refine lv_idiv hx hb dX12_worksAgain_37 (by decide) ?_
          refine lv_topi (fun i_7 ei_7 => ?_)
          refine va_iast hx hb hK hP hD hS 56 2 mwd_a56 rfl (x_in (by omega) (by omega)) dX12_worksAgain_38 (fun H locs hP hD hS => ?_)
          obtain ⟨f_8, ef_8⟩ : ∃ z9 : Nat → Int32, z9 = (upd f (Int32.toNatClampNeg i_4) i_7) := ⟨_, rfl⟩
          have hP : va_P D vwCl (mwd y ad zw (tI (tI (tI (sI σ 82 1) 83 f) 84 g) 83 f_8)) H := by rw [ef_8]; exact x_trP hP mwd_s56
          have hD : va_D A (mwd y ad zw (tI (tI (tI (sI σ 82 1) 83 f) 84 g) 83 f_8)) := by rw [ef_8]; exact x_trD hD mwd_s56
          refine lv_aload_n hx hb dX12_worksAgain_39 rfl (lv_at hl 1 rfl) ?_
          refine va_get (D := D) (ci := 11) (v := .ref (ad 84)) (C := RX12) (T := TX12) (N := 85) hx hb hts inX12 hown hK hP 0 mwd_o0 rfl 84 (by decide) fl185 (fun _ h9 => h9) rfl dX12_worksAgain_40 ?_
          refine lv_bipush (v := 11) hx hb dX12_worksAgain_43 (by decide) ?_
          refine lv_iload_n hx hb dX12_worksAgain_45 rfl (lv_at hl 0 rfl) ?_
          refine lv_imul hx hb dX12_worksAgain_46 ?_
          refine lv_topi (fun i_9 ei_9 => ?_)
          have vi_9 : i_9.toInt = 11 * n.toInt := by have h9 := x_mulIl (n := 11) ei_9 rfl (by omega) (by omega); omega
          refine lv_iconst (v := 1) hx hb dX12_worksAgain_47 (by decide) ?_
          refine lv_iadd hx hb dX12_worksAgain_48 ?_
          refine lv_topi (fun i_10 ei_10 => ?_)
          have vi_10 : i_10.toInt = i_9.toInt + 1 := by have h9 := x_add ei_10 (by omega) (by omega); omega
          refine lv_iconst (v := (-1)) hx hb dX12_worksAgain_49 (by decide) ?_
          refine va_iast hx hb hK hP hD hS 57 2 mwd_a57 rfl (x_in (by omega) (by omega)) dX12_worksAgain_50 (fun H locs hP hD hS => ?_)
          obtain ⟨f_11, ef_11⟩ : ∃ z9 : Nat → Int32, z9 = (upd g (Int32.toNatClampNeg i_10) (-1)) := ⟨_, rfl⟩
          have hP : va_P D vwCl (mwd y ad zw (tI (tI (tI (tI (sI σ 82 1) 83 f) 84 g) 83 f_8) 84 f_11)) H := by rw [ef_11]; exact x_trP hP mwd_s57
          have hD : va_D A (mwd y ad zw (tI (tI (tI (tI (sI σ 82 1) 83 f) 84 g) 83 f_8) 84 f_11)) := by rw [ef_11]; exact x_trD hD mwd_s57
          refine lv_iconst (v := 2) hx hb dX12_worksAgain_51 (by decide) ?_
          refine lv_istore_n (lv' := [(2, .int 2), (1, .int n), (0, .ref (ad 1))]) hx hb dX12_worksAgain_52 rfl hl (by decide) rfl (fun ls hl => ?_)
          have hP : va_P D vwCl (mwd y ad zw (tI (tI (sI σ 82 1) 83 f_8) 84 f_11)) H := hP
          have hD : va_D A (mwd y ad zw (tI (tI (sI σ 82 1) 83 f_8) 84 f_11)) := hD
          have loop2 : ∀ (fu : Nat) (k : Int32) (f : Nat → Int32) (g : Nat → Int32) (H : Heap) (locs : List Loc) (ls : Array Slot), (2 ≤ k.toInt) → (k.toInt ≤ 11) → (11 - k.toInt < (fu : Int)) → va_P D vwCl (mwd y ad zw (tI (tI (sI σ 82 1) 83 f) 84 g)) H → va_D A (mwd y ad zw (tI (tI (sI σ 82 1) 83 f) 84 g)) → va_S A s.heap H locs → lv_has ls 6 [(2, .int k), (1, .int n), (0, .ref (ad 1))] → W p l e ({ frames := 0, cells := 0, slots := 0, locals := 0 } : Room) s m ([.ref (ad 1)] : List Value).toArray below meth c H locs 0 0 Q (F0 m 53 ls []) := by
            intro fu
            induction fu with
            | zero =>
              intro k f g H locs ls hk0 hk1 hm
              exact absurd hm (by omega)
            | succ fu ih_loop2 =>
              intro k f g H locs ls hk0 hk1 hm hP hD hS hl
              refine lv_iload_n hx hb dX12_worksAgain_53 rfl (lv_at hl 0 rfl) ?_
              refine lv_bipush (v := 10) hx hb dX12_worksAgain_54 (by decide) ?_
              refine lv_icmp_gt (tgt := 176) hx hb dX12_worksAgain_56 (by decide) (fun c_12 => ?_) (fun c_12 => ?_)
              · have kc_12 : k.toInt > 10 := by have h9 := c_12; simp only [ge_iff_le, gt_iff_lt, x_lt, x_le, x_eq, ne_eq, Int32.not_lt, Int32.not_le] at h9; simp only [Int32.reduceToInt] at h9; omega
                obtain ⟨i_13, ei_13⟩ : ∃ z9 : Int32, z9 = n + 1 := ⟨_, rfl⟩
                have vi_13 : i_13.toInt = n.toInt + 1 := by have h9 := x_add ei_13 (by omega) (by omega); omega
                refine lv_iinc (v := i_13) (lv' := [(1, .int i_13), (2, .int k), (0, .ref (ad 1))]) hx hb dX12_worksAgain_176 hl (k := 1) rfl (by rw [ei_13]; rfl) (by decide) rfl (fun ls hl => ?_)
                refine lv_goto (tgt := 15) hx hb dX12_worksAgain_179 (by decide) ?_
                exact ih_loop i_13 f g H locs ls (by omega) (by omega) (by omega) hP hD hS (lv_sub hl [0, 2] rfl)
              · have kc_12 : k.toInt ≤ 10 := by have h9 := c_12; simp only [ge_iff_le, gt_iff_lt, x_lt, x_le, x_eq, ne_eq, Int32.not_lt, Int32.not_le] at h9; simp only [Int32.reduceToInt] at h9; omega
                refine lv_iload_n hx hb dX12_worksAgain_59 rfl (lv_at hl 1 rfl) ?_
                refine lv_iconst (v := 1) hx hb dX12_worksAgain_60 (by decide) ?_
                refine lv_icmp_ne (tgt := 68) hx hb dX12_worksAgain_61 (by decide) (fun c_14 => ?_) (fun c_14 => ?_)
                · have kc_14 : n.toInt ≠ 1 := by have h9 := c_14; simp only [ge_iff_le, gt_iff_lt, x_lt, x_le, x_eq, ne_eq, Int32.not_lt, Int32.not_le] at h9; simp only [Int32.reduceToInt] at h9; omega
                  refine lv_ldcw (v := 1000000) hx hb hown (hts (.constant RX12 500 1000000) (List.mem_of_getElem? (i := 4) rfl)) dX12_worksAgain_68 ?_
                  refine lv_istore_n (lv' := [(3, .int 1000000), (2, .int k), (1, .int n), (0, .ref (ad 1))]) hx hb dX12_worksAgain_71 rfl hl (by decide) rfl (fun ls hl => ?_)
                  refine lv_aload_n hx hb dX12_worksAgain_72 rfl (lv_at hl 3 rfl) ?_
                  refine va_get (D := D) (ci := 11) (v := .ref (ad 84)) (C := RX12) (T := TX12) (N := 85) hx hb hts inX12 hown hK hP 0 mwd_o0 rfl 84 (by decide) fl185 (fun _ h9 => h9) rfl dX12_worksAgain_73 ?_
                  refine lv_bipush (v := 11) hx hb dX12_worksAgain_76 (by decide) ?_
                  refine lv_iload_n hx hb dX12_worksAgain_78 rfl (lv_at hl 2 rfl) ?_
                  refine lv_imul hx hb dX12_worksAgain_79 ?_
                  refine lv_topi (fun i_15 ei_15 => ?_)
                  have vi_15 : i_15.toInt = 11 * n.toInt := by have h9 := x_mulIl (n := 11) ei_15 rfl (by omega) (by omega); omega
                  refine lv_iload_n hx hb dX12_worksAgain_80 rfl (lv_at hl 1 rfl) ?_
                  refine lv_iadd hx hb dX12_worksAgain_81 ?_
                  refine lv_topi (fun i_16 ei_16 => ?_)
                  have vi_16 : i_16.toInt = i_15.toInt + k.toInt := by have h9 := x_add ei_16 (by omega) (by omega); omega
                  refine lv_iconst (v := (-1)) hx hb dX12_worksAgain_82 (by decide) ?_
                  refine va_iast hx hb hK hP hD hS 57 2 mwd_a57 rfl (x_in (by omega) (by omega)) dX12_worksAgain_83 (fun H locs hP hD hS => ?_)
                  obtain ⟨f_17, ef_17⟩ : ∃ z9 : Nat → Int32, z9 = (upd g (Int32.toNatClampNeg i_16) (-1)) := ⟨_, rfl⟩
                  have hP : va_P D vwCl (mwd y ad zw (tI (tI (tI (sI σ 82 1) 83 f) 84 g) 84 f_17)) H := by rw [ef_17]; exact x_trP hP mwd_s57
                  have hD : va_D A (mwd y ad zw (tI (tI (tI (sI σ 82 1) 83 f) 84 g) 84 f_17)) := by rw [ef_17]; exact x_trD hD mwd_s57
                  refine lv_iconst (v := 1) hx hb dX12_worksAgain_84 (by decide) ?_
                  refine lv_istore (lv' := [(4, .int 1), (3, .int 1000000), (2, .int k), (1, .int n), (0, .ref (ad 1))]) hx hb dX12_worksAgain_85 hl (by decide) rfl (fun ls hl => ?_)
                  have hP : va_P D vwCl (mwd y ad zw (tI (tI (sI σ 82 1) 83 f) 84 f_17)) H := hP
                  have hD : va_D A (mwd y ad zw (tI (tI (sI σ 82 1) 83 f) 84 f_17)) := hD
                  have loop3 : ∀ (fu : Nat) (j : Int32) (v : Int32) (f : Nat → Int32) (g : Nat → Int32) (H : Heap) (locs : List Loc) (ls : Array Slot), (1 ≤ j.toInt) → (j.toInt ≤ 101) → (101 - j.toInt < (fu : Int)) → va_P D vwCl (mwd y ad zw (tI (tI (sI σ 82 1) 83 f) 84 g)) H → va_D A (mwd y ad zw (tI (tI (sI σ 82 1) 83 f) 84 g)) → va_S A s.heap H locs → lv_has ls 6 [(4, .int j), (3, .int v), (2, .int k), (1, .int n), (0, .ref (ad 1))] → W p l e ({ frames := 0, cells := 0, slots := 0, locals := 0 } : Room) s m ([.ref (ad 1)] : List Value).toArray below meth c H locs 0 0 Q (F0 m 87 ls []) := by
                    intro fu
                    induction fu with
                    | zero =>
                      intro j v f g H locs ls hj0 hj1 hm
                      exact absurd hm (by omega)
                    | succ fu ih_loop3 =>
                      intro j v f g H locs ls hj0 hj1 hm hP hD hS hl
                      refine lv_iload hx hb dX12_worksAgain_87 (lv_at hl 0 rfl) ?_
                      refine lv_iload_n hx hb dX12_worksAgain_89 rfl (lv_at hl 3 rfl) ?_
                      refine lv_icmp_ge (tgt := 158) hx hb dX12_worksAgain_90 (by decide) (fun c_18 => ?_) (fun c_18 => ?_)
                      · have kc_18 : j.toInt ≥ n.toInt := by have h9 := c_18; simp only [ge_iff_le, gt_iff_lt, x_lt, x_le, x_eq, ne_eq, Int32.not_lt, Int32.not_le] at h9; omega
                        refine lv_aload_n hx hb dX12_worksAgain_158 rfl (lv_at hl 4 rfl) ?_
                        refine va_get (D := D) (ci := 11) (v := .ref (ad 83)) (C := RX12) (T := TX12) (N := 85) hx hb hts inX12 hown hK hP 0 mwd_o0 rfl 83 (by decide) fl182 (fun _ h9 => h9) rfl dX12_worksAgain_159 ?_
                        refine lv_bipush (v := 11) hx hb dX12_worksAgain_162 (by decide) ?_
                        refine lv_iload_n hx hb dX12_worksAgain_164 rfl (lv_at hl 3 rfl) ?_
                        refine lv_imul hx hb dX12_worksAgain_165 ?_
                        refine lv_topi (fun i_19 ei_19 => ?_)
                        have vi_19 : i_19.toInt = 11 * n.toInt := by have h9 := x_mulIl (n := 11) ei_19 rfl (by omega) (by omega); omega
                        refine lv_iload_n hx hb dX12_worksAgain_166 rfl (lv_at hl 2 rfl) ?_
                        refine lv_iadd hx hb dX12_worksAgain_167 ?_
                        refine lv_topi (fun i_20 ei_20 => ?_)
                        have vi_20 : i_20.toInt = i_19.toInt + k.toInt := by have h9 := x_add ei_20 (by omega) (by omega); omega
                        refine lv_iload_n hx hb dX12_worksAgain_168 rfl (lv_at hl 1 rfl) ?_
                        refine va_iast hx hb hK hP hD hS 56 2 mwd_a56 rfl (x_in (by omega) (by omega)) dX12_worksAgain_169 (fun H locs hP hD hS => ?_)
                        obtain ⟨f_21, ef_21⟩ : ∃ z9 : Nat → Int32, z9 = (upd f (Int32.toNatClampNeg i_20) v) := ⟨_, rfl⟩
                        have hP : va_P D vwCl (mwd y ad zw (tI (tI (tI (sI σ 82 1) 83 f) 84 g) 83 f_21)) H := by rw [ef_21]; exact x_trP hP mwd_s56
                        have hD : va_D A (mwd y ad zw (tI (tI (tI (sI σ 82 1) 83 f) 84 g) 83 f_21)) := by rw [ef_21]; exact x_trD hD mwd_s56
                        obtain ⟨i_22, ei_22⟩ : ∃ z9 : Int32, z9 = k + 1 := ⟨_, rfl⟩
                        have vi_22 : i_22.toInt = k.toInt + 1 := by have h9 := x_add ei_22 (by omega) (by omega); omega
                        refine lv_iinc (v := i_22) (lv' := [(2, .int i_22), (4, .int j), (3, .int v), (1, .int n), (0, .ref (ad 1))]) hx hb dX12_worksAgain_170 hl (k := 2) rfl (by rw [ei_22]; rfl) (by decide) rfl (fun ls hl => ?_)
                        refine lv_goto (tgt := 53) hx hb dX12_worksAgain_173 (by decide) ?_
                        have hP : va_P D vwCl (mwd y ad zw (tI (tI (sI σ 82 1) 83 f_21) 84 g)) H := hP
                        have hD : va_D A (mwd y ad zw (tI (tI (sI σ 82 1) 83 f_21) 84 g)) := hD
                        exact ih_loop2 i_22 f_21 g H locs ls (by omega) (by omega) (by omega) hP hD hS (lv_sub hl [0, 3, 4] rfl)
                      · have kc_18 : j.toInt < n.toInt := by have h9 := c_18; simp only [ge_iff_le, gt_iff_lt, x_lt, x_le, x_eq, ne_eq, Int32.not_lt, Int32.not_le] at h9; omega
                        refine lv_iload hx hb dX12_worksAgain_93 (lv_at hl 0 rfl) ?_
                        refine lv_aload_n hx hb dX12_worksAgain_95 rfl (lv_at hl 4 rfl) ?_
                        refine va_get (D := D) (ci := 11) (v := .ref (ad 83)) (C := RX12) (T := TX12) (N := 85) hx hb hts inX12 hown hK hP 0 mwd_o0 rfl 83 (by decide) fl182 (fun _ h9 => h9) rfl dX12_worksAgain_96 ?_
                        refine lv_bipush (v := 11) hx hb dX12_worksAgain_99 (by decide) ?_
                        refine lv_iload hx hb dX12_worksAgain_101 (lv_at hl 0 rfl) ?_
                        refine lv_imul hx hb dX12_worksAgain_103 ?_
                        refine lv_topi (fun i_23 ei_23 => ?_)
                        have vi_23 : i_23.toInt = 11 * j.toInt := by have h9 := x_mulIl (n := 11) ei_23 rfl (by omega) (by omega); omega
                        refine lv_iload_n hx hb dX12_worksAgain_104 rfl (lv_at hl 2 rfl) ?_
                        refine lv_iadd hx hb dX12_worksAgain_105 ?_
                        refine lv_topi (fun i_24 ei_24 => ?_)
                        have vi_24 : i_24.toInt = i_23.toInt + k.toInt := by have h9 := x_add ei_24 (by omega) (by omega); omega
                        refine va_iald hx hb hK hP 56 2 mwd_a56 rfl (x_in (by omega) (by omega)) dX12_worksAgain_106 ?_
                        refine lv_topi (fun i_25 ei_25 => ?_)
                        have ei_25 : i_25 = f (Int32.toNatClampNeg i_24) := ei_25
                        refine lv_iadd hx hb dX12_worksAgain_107 ?_
                        refine lv_topi (fun i_26 ei_26 => ?_)
                        refine lv_aload_n hx hb dX12_worksAgain_108 rfl (lv_at hl 4 rfl) ?_
                        refine va_get (D := D) (ci := 11) (v := .ref (ad 83)) (C := RX12) (T := TX12) (N := 85) hx hb hts inX12 hown hK hP 0 mwd_o0 rfl 83 (by decide) fl182 (fun _ h9 => h9) rfl dX12_worksAgain_109 ?_
                        refine lv_bipush (v := 11) hx hb dX12_worksAgain_112 (by decide) ?_
                        refine lv_iload_n hx hb dX12_worksAgain_114 rfl (lv_at hl 3 rfl) ?_
                        refine lv_iload hx hb dX12_worksAgain_115 (lv_at hl 0 rfl) ?_
                        refine lv_isub hx hb dX12_worksAgain_117 ?_
                        refine lv_topi (fun i_27 ei_27 => ?_)
                        have vi_27 : i_27.toInt = n.toInt - j.toInt := by have h9 := x_sub ei_27 (by omega) (by omega); omega
                        refine lv_imul hx hb dX12_worksAgain_118 ?_
                        refine lv_topi (fun i_28 ei_28 => ?_)
                        have vi_28 : i_28.toInt = 11 * i_27.toInt := by have h9 := x_mulIl (n := 11) ei_28 rfl (by omega) (by omega); omega
                        refine lv_iload_n hx hb dX12_worksAgain_119 rfl (lv_at hl 2 rfl) ?_
                        refine lv_iadd hx hb dX12_worksAgain_120 ?_
                        refine lv_topi (fun i_29 ei_29 => ?_)
                        have vi_29 : i_29.toInt = i_28.toInt + k.toInt := by have h9 := x_add ei_29 (by omega) (by omega); omega
                        refine lv_iconst (v := 1) hx hb dX12_worksAgain_121 (by decide) ?_
                        refine lv_isub hx hb dX12_worksAgain_122 ?_
                        refine lv_topi (fun i_30 ei_30 => ?_)
                        have vi_30 : i_30.toInt = i_29.toInt - 1 := by have h9 := x_sub ei_30 (by omega) (by omega); omega
                        refine va_iald hx hb hK hP 56 2 mwd_a56 rfl (x_in (by omega) (by omega)) dX12_worksAgain_123 ?_
                        refine lv_topi (fun i_31 ei_31 => ?_)
                        have ei_31 : i_31 = f (Int32.toNatClampNeg i_30) := ei_31
                        refine lv_iadd hx hb dX12_worksAgain_124 ?_
                        refine lv_topi (fun i_32 ei_32 => ?_)
                        refine lv_istore (lv' := [(5, .int i_32), (4, .int j), (3, .int v), (2, .int k), (1, .int n), (0, .ref (ad 1))]) hx hb dX12_worksAgain_125 hl (by decide) rfl (fun ls hl => ?_)
                        refine lv_iload hx hb dX12_worksAgain_127 (lv_at hl 0 rfl) ?_
                        refine lv_iload_n hx hb dX12_worksAgain_129 rfl (lv_at hl 2 rfl) ?_
                        refine lv_icmp_lt (tgt := 136) hx hb dX12_worksAgain_130 (by decide) (fun c_33 => ?_) (fun c_33 => ?_)
                        · have kc_33 : i_32.toInt < v.toInt := by have h9 := c_33; simp only [ge_iff_le, gt_iff_lt, x_lt, x_le, x_eq, ne_eq, Int32.not_lt, Int32.not_le] at h9; omega
                          refine lv_iload hx hb dX12_worksAgain_136 (lv_at hl 0 rfl) ?_
                          refine lv_istore_n (lv' := [(3, .int i_32), (5, .int i_32), (4, .int j), (2, .int k), (1, .int n), (0, .ref (ad 1))]) hx hb dX12_worksAgain_138 rfl hl (by decide) rfl (fun ls hl => ?_)
                          refine lv_aload_n hx hb dX12_worksAgain_139 rfl (lv_at hl 5 rfl) ?_
                          refine va_get (D := D) (ci := 11) (v := .ref (ad 84)) (C := RX12) (T := TX12) (N := 85) hx hb hts inX12 hown hK hP 0 mwd_o0 rfl 84 (by decide) fl185 (fun _ h9 => h9) rfl dX12_worksAgain_140 ?_
                          refine lv_bipush (v := 11) hx hb dX12_worksAgain_143 (by decide) ?_
                          refine lv_iload_n hx hb dX12_worksAgain_145 rfl (lv_at hl 4 rfl) ?_
                          refine lv_imul hx hb dX12_worksAgain_146 ?_
                          refine lv_topi (fun i_34 ei_34 => ?_)
                          have vi_34 : i_34.toInt = 11 * n.toInt := by have h9 := x_mulIl (n := 11) ei_34 rfl (by omega) (by omega); omega
                          refine lv_iload_n hx hb dX12_worksAgain_147 rfl (lv_at hl 3 rfl) ?_
                          refine lv_iadd hx hb dX12_worksAgain_148 ?_
                          refine lv_topi (fun i_35 ei_35 => ?_)
                          have vi_35 : i_35.toInt = i_34.toInt + k.toInt := by have h9 := x_add ei_35 (by omega) (by omega); omega
                          refine lv_iload hx hb dX12_worksAgain_149 (lv_at hl 2 rfl) ?_
                          refine va_iast hx hb hK hP hD hS 57 2 mwd_a57 rfl (x_in (by omega) (by omega)) dX12_worksAgain_151 (fun H locs hP hD hS => ?_)
                          obtain ⟨f_36, ef_36⟩ : ∃ z9 : Nat → Int32, z9 = (upd g (Int32.toNatClampNeg i_35) j) := ⟨_, rfl⟩
                          have hP : va_P D vwCl (mwd y ad zw (tI (tI (tI (sI σ 82 1) 83 f) 84 g) 84 f_36)) H := by rw [ef_36]; exact x_trP hP mwd_s57
                          have hD : va_D A (mwd y ad zw (tI (tI (tI (sI σ 82 1) 83 f) 84 g) 84 f_36)) := by rw [ef_36]; exact x_trD hD mwd_s57
                          obtain ⟨i_37, ei_37⟩ : ∃ z9 : Int32, z9 = j + 1 := ⟨_, rfl⟩
                          have vi_37 : i_37.toInt = j.toInt + 1 := by have h9 := x_add ei_37 (by omega) (by omega); omega
                          refine lv_iinc (v := i_37) (lv' := [(4, .int i_37), (3, .int i_32), (5, .int i_32), (2, .int k), (1, .int n), (0, .ref (ad 1))]) hx hb dX12_worksAgain_152 hl (k := 2) rfl (by rw [ei_37]; rfl) (by decide) rfl (fun ls hl => ?_)
                          refine lv_goto (tgt := 87) hx hb dX12_worksAgain_155 (by decide) ?_
                          have hP : va_P D vwCl (mwd y ad zw (tI (tI (sI σ 82 1) 83 f) 84 f_36)) H := hP
                          have hD : va_D A (mwd y ad zw (tI (tI (sI σ 82 1) 83 f) 84 f_36)) := hD
                          exact ih_loop3 i_37 i_32 f f_36 H locs ls (by omega) (by omega) (by omega) hP hD hS (lv_sub hl [0, 1, 3, 4, 5] rfl)
                        · have kc_33 : i_32.toInt ≥ v.toInt := by have h9 := c_33; simp only [ge_iff_le, gt_iff_lt, x_lt, x_le, x_eq, ne_eq, Int32.not_lt, Int32.not_le] at h9; omega
                          refine lv_goto (tgt := 152) hx hb dX12_worksAgain_133 (by decide) ?_
                          obtain ⟨i_38, ei_38⟩ : ∃ z9 : Int32, z9 = j + 1 := ⟨_, rfl⟩
                          have vi_38 : i_38.toInt = j.toInt + 1 := by have h9 := x_add ei_38 (by omega) (by omega); omega
                          refine lv_iinc (v := i_38) (lv' := [(4, .int i_38), (5, .int i_32), (3, .int v), (2, .int k), (1, .int n), (0, .ref (ad 1))]) hx hb dX12_worksAgain_152 hl (k := 1) rfl (by rw [ei_38]; rfl) (by decide) rfl (fun ls hl => ?_)
                          refine lv_goto (tgt := 87) hx hb dX12_worksAgain_155 (by decide) ?_
                          exact ih_loop3 i_38 v f g H locs ls (by omega) (by omega) (by omega) hP hD hS (lv_sub hl [0, 2, 3, 4, 5] rfl)
                  exact loop3 102 1 1000000 f f_17 H locs ls (by decide) (by decide) (by have h7 : (1 : Int32).toInt = 1 := rfl; omega) hP hD hS (lv_sub hl [0, 1, 2, 3, 4] rfl)
                · have kc_14 : n.toInt = 1 := by have h9 := c_14; simp only [ge_iff_le, gt_iff_lt, x_lt, x_le, x_eq, ne_eq, Int32.not_lt, Int32.not_le] at h9; simp only [Int32.reduceToInt] at h9; omega
                  refine lv_iconst (v := 0) hx hb dX12_worksAgain_64 (by decide) ?_
                  refine lv_goto (tgt := 71) hx hb dX12_worksAgain_65 (by decide) ?_
                  refine lv_istore_n (lv' := [(3, .int 0), (2, .int k), (1, .int n), (0, .ref (ad 1))]) hx hb dX12_worksAgain_71 rfl hl (by decide) rfl (fun ls hl => ?_)
                  refine lv_aload_n hx hb dX12_worksAgain_72 rfl (lv_at hl 3 rfl) ?_
                  refine va_get (D := D) (ci := 11) (v := .ref (ad 84)) (C := RX12) (T := TX12) (N := 85) hx hb hts inX12 hown hK hP 0 mwd_o0 rfl 84 (by decide) fl185 (fun _ h9 => h9) rfl dX12_worksAgain_73 ?_
                  refine lv_bipush (v := 11) hx hb dX12_worksAgain_76 (by decide) ?_
                  refine lv_iload_n hx hb dX12_worksAgain_78 rfl (lv_at hl 2 rfl) ?_
                  refine lv_imul hx hb dX12_worksAgain_79 ?_
                  refine lv_topi (fun i_39 ei_39 => ?_)
                  have vi_39 : i_39.toInt = 11 * n.toInt := by have h9 := x_mulIl (n := 11) ei_39 rfl (by omega) (by omega); omega
                  refine lv_iload_n hx hb dX12_worksAgain_80 rfl (lv_at hl 1 rfl) ?_
                  refine lv_iadd hx hb dX12_worksAgain_81 ?_
                  refine lv_topi (fun i_40 ei_40 => ?_)
                  have vi_40 : i_40.toInt = i_39.toInt + k.toInt := by have h9 := x_add ei_40 (by omega) (by omega); omega
                  refine lv_iconst (v := (-1)) hx hb dX12_worksAgain_82 (by decide) ?_
                  refine va_iast hx hb hK hP hD hS 57 2 mwd_a57 rfl (x_in (by omega) (by omega)) dX12_worksAgain_83 (fun H locs hP hD hS => ?_)
                  obtain ⟨f_41, ef_41⟩ : ∃ z9 : Nat → Int32, z9 = (upd g (Int32.toNatClampNeg i_40) (-1)) := ⟨_, rfl⟩
                  have hP : va_P D vwCl (mwd y ad zw (tI (tI (tI (sI σ 82 1) 83 f) 84 g) 84 f_41)) H := by rw [ef_41]; exact x_trP hP mwd_s57
                  have hD : va_D A (mwd y ad zw (tI (tI (tI (sI σ 82 1) 83 f) 84 g) 84 f_41)) := by rw [ef_41]; exact x_trD hD mwd_s57
                  refine lv_iconst (v := 1) hx hb dX12_worksAgain_84 (by decide) ?_
                  refine lv_istore (lv' := [(4, .int 1), (3, .int 0), (2, .int k), (1, .int n), (0, .ref (ad 1))]) hx hb dX12_worksAgain_85 hl (by decide) rfl (fun ls hl => ?_)
                  have hP : va_P D vwCl (mwd y ad zw (tI (tI (sI σ 82 1) 83 f) 84 f_41)) H := hP
                  have hD : va_D A (mwd y ad zw (tI (tI (sI σ 82 1) 83 f) 84 f_41)) := hD
                  have loop3 : ∀ (fu : Nat) (j : Int32) (v : Int32) (f : Nat → Int32) (g : Nat → Int32) (H : Heap) (locs : List Loc) (ls : Array Slot), (1 ≤ j.toInt) → (j.toInt ≤ 101) → (101 - j.toInt < (fu : Int)) → va_P D vwCl (mwd y ad zw (tI (tI (sI σ 82 1) 83 f) 84 g)) H → va_D A (mwd y ad zw (tI (tI (sI σ 82 1) 83 f) 84 g)) → va_S A s.heap H locs → lv_has ls 6 [(4, .int j), (3, .int v), (2, .int k), (1, .int n), (0, .ref (ad 1))] → W p l e ({ frames := 0, cells := 0, slots := 0, locals := 0 } : Room) s m ([.ref (ad 1)] : List Value).toArray below meth c H locs 0 0 Q (F0 m 87 ls []) := by
                    intro fu
                    induction fu with
                    | zero =>
                      intro j v f g H locs ls hj0 hj1 hm
                      exact absurd hm (by omega)
                    | succ fu ih_loop3 =>
                      intro j v f g H locs ls hj0 hj1 hm hP hD hS hl
                      refine lv_iload hx hb dX12_worksAgain_87 (lv_at hl 0 rfl) ?_
                      refine lv_iload_n hx hb dX12_worksAgain_89 rfl (lv_at hl 3 rfl) ?_
                      refine lv_icmp_ge (tgt := 158) hx hb dX12_worksAgain_90 (by decide) (fun c_42 => ?_) (fun c_42 => ?_)
                      · have kc_42 : j.toInt ≥ n.toInt := by have h9 := c_42; simp only [ge_iff_le, gt_iff_lt, x_lt, x_le, x_eq, ne_eq, Int32.not_lt, Int32.not_le] at h9; omega
                        refine lv_aload_n hx hb dX12_worksAgain_158 rfl (lv_at hl 4 rfl) ?_
                        refine va_get (D := D) (ci := 11) (v := .ref (ad 83)) (C := RX12) (T := TX12) (N := 85) hx hb hts inX12 hown hK hP 0 mwd_o0 rfl 83 (by decide) fl182 (fun _ h9 => h9) rfl dX12_worksAgain_159 ?_
                        refine lv_bipush (v := 11) hx hb dX12_worksAgain_162 (by decide) ?_
                        refine lv_iload_n hx hb dX12_worksAgain_164 rfl (lv_at hl 3 rfl) ?_
                        refine lv_imul hx hb dX12_worksAgain_165 ?_
                        refine lv_topi (fun i_43 ei_43 => ?_)
                        have vi_43 : i_43.toInt = 11 * n.toInt := by have h9 := x_mulIl (n := 11) ei_43 rfl (by omega) (by omega); omega
                        refine lv_iload_n hx hb dX12_worksAgain_166 rfl (lv_at hl 2 rfl) ?_
                        refine lv_iadd hx hb dX12_worksAgain_167 ?_
                        refine lv_topi (fun i_44 ei_44 => ?_)
                        have vi_44 : i_44.toInt = i_43.toInt + k.toInt := by have h9 := x_add ei_44 (by omega) (by omega); omega
                        refine lv_iload_n hx hb dX12_worksAgain_168 rfl (lv_at hl 1 rfl) ?_
                        refine va_iast hx hb hK hP hD hS 56 2 mwd_a56 rfl (x_in (by omega) (by omega)) dX12_worksAgain_169 (fun H locs hP hD hS => ?_)
                        obtain ⟨f_45, ef_45⟩ : ∃ z9 : Nat → Int32, z9 = (upd f (Int32.toNatClampNeg i_44) v) := ⟨_, rfl⟩
                        have hP : va_P D vwCl (mwd y ad zw (tI (tI (tI (sI σ 82 1) 83 f) 84 g) 83 f_45)) H := by rw [ef_45]; exact x_trP hP mwd_s56
                        have hD : va_D A (mwd y ad zw (tI (tI (tI (sI σ 82 1) 83 f) 84 g) 83 f_45)) := by rw [ef_45]; exact x_trD hD mwd_s56
                        obtain ⟨i_46, ei_46⟩ : ∃ z9 : Int32, z9 = k + 1 := ⟨_, rfl⟩
                        have vi_46 : i_46.toInt = k.toInt + 1 := by have h9 := x_add ei_46 (by omega) (by omega); omega
                        refine lv_iinc (v := i_46) (lv' := [(2, .int i_46), (4, .int j), (3, .int v), (1, .int n), (0, .ref (ad 1))]) hx hb dX12_worksAgain_170 hl (k := 2) rfl (by rw [ei_46]; rfl) (by decide) rfl (fun ls hl => ?_)
                        refine lv_goto (tgt := 53) hx hb dX12_worksAgain_173 (by decide) ?_
                        have hP : va_P D vwCl (mwd y ad zw (tI (tI (sI σ 82 1) 83 f_45) 84 g)) H := hP
                        have hD : va_D A (mwd y ad zw (tI (tI (sI σ 82 1) 83 f_45) 84 g)) := hD
                        exact ih_loop2 i_46 f_45 g H locs ls (by omega) (by omega) (by omega) hP hD hS (lv_sub hl [0, 3, 4] rfl)
                      · have kc_42 : j.toInt < n.toInt := by have h9 := c_42; simp only [ge_iff_le, gt_iff_lt, x_lt, x_le, x_eq, ne_eq, Int32.not_lt, Int32.not_le] at h9; omega
                        refine lv_iload hx hb dX12_worksAgain_93 (lv_at hl 0 rfl) ?_
                        refine lv_aload_n hx hb dX12_worksAgain_95 rfl (lv_at hl 4 rfl) ?_
                        refine va_get (D := D) (ci := 11) (v := .ref (ad 83)) (C := RX12) (T := TX12) (N := 85) hx hb hts inX12 hown hK hP 0 mwd_o0 rfl 83 (by decide) fl182 (fun _ h9 => h9) rfl dX12_worksAgain_96 ?_
                        refine lv_bipush (v := 11) hx hb dX12_worksAgain_99 (by decide) ?_
                        refine lv_iload hx hb dX12_worksAgain_101 (lv_at hl 0 rfl) ?_
                        refine lv_imul hx hb dX12_worksAgain_103 ?_
                        refine lv_topi (fun i_47 ei_47 => ?_)
                        have vi_47 : i_47.toInt = 11 * j.toInt := by have h9 := x_mulIl (n := 11) ei_47 rfl (by omega) (by omega); omega
                        refine lv_iload_n hx hb dX12_worksAgain_104 rfl (lv_at hl 2 rfl) ?_
                        refine lv_iadd hx hb dX12_worksAgain_105 ?_
                        refine lv_topi (fun i_48 ei_48 => ?_)
                        have vi_48 : i_48.toInt = i_47.toInt + k.toInt := by have h9 := x_add ei_48 (by omega) (by omega); omega
                        refine va_iald hx hb hK hP 56 2 mwd_a56 rfl (x_in (by omega) (by omega)) dX12_worksAgain_106 ?_
                        refine lv_topi (fun i_49 ei_49 => ?_)
                        have ei_49 : i_49 = f (Int32.toNatClampNeg i_48) := ei_49
                        refine lv_iadd hx hb dX12_worksAgain_107 ?_
                        refine lv_topi (fun i_50 ei_50 => ?_)
                        refine lv_aload_n hx hb dX12_worksAgain_108 rfl (lv_at hl 4 rfl) ?_
                        refine va_get (D := D) (ci := 11) (v := .ref (ad 83)) (C := RX12) (T := TX12) (N := 85) hx hb hts inX12 hown hK hP 0 mwd_o0 rfl 83 (by decide) fl182 (fun _ h9 => h9) rfl dX12_worksAgain_109 ?_
                        refine lv_bipush (v := 11) hx hb dX12_worksAgain_112 (by decide) ?_
                        refine lv_iload_n hx hb dX12_worksAgain_114 rfl (lv_at hl 3 rfl) ?_
                        refine lv_iload hx hb dX12_worksAgain_115 (lv_at hl 0 rfl) ?_
                        refine lv_isub hx hb dX12_worksAgain_117 ?_
                        refine lv_topi (fun i_51 ei_51 => ?_)
                        have vi_51 : i_51.toInt = n.toInt - j.toInt := by have h9 := x_sub ei_51 (by omega) (by omega); omega
                        refine lv_imul hx hb dX12_worksAgain_118 ?_
                        refine lv_topi (fun i_52 ei_52 => ?_)
                        have vi_52 : i_52.toInt = 11 * i_51.toInt := by have h9 := x_mulIl (n := 11) ei_52 rfl (by omega) (by omega); omega
                        refine lv_iload_n hx hb dX12_worksAgain_119 rfl (lv_at hl 2 rfl) ?_
                        refine lv_iadd hx hb dX12_worksAgain_120 ?_
                        refine lv_topi (fun i_53 ei_53 => ?_)
                        have vi_53 : i_53.toInt = i_52.toInt + k.toInt := by have h9 := x_add ei_53 (by omega) (by omega); omega
                        refine lv_iconst (v := 1) hx hb dX12_worksAgain_121 (by decide) ?_
                        refine lv_isub hx hb dX12_worksAgain_122 ?_
                        refine lv_topi (fun i_54 ei_54 => ?_)
                        have vi_54 : i_54.toInt = i_53.toInt - 1 := by have h9 := x_sub ei_54 (by omega) (by omega); omega
                        refine va_iald hx hb hK hP 56 2 mwd_a56 rfl (x_in (by omega) (by omega)) dX12_worksAgain_123 ?_
                        refine lv_topi (fun i_55 ei_55 => ?_)
                        have ei_55 : i_55 = f (Int32.toNatClampNeg i_54) := ei_55
                        refine lv_iadd hx hb dX12_worksAgain_124 ?_
                        refine lv_topi (fun i_56 ei_56 => ?_)
                        refine lv_istore (lv' := [(5, .int i_56), (4, .int j), (3, .int v), (2, .int k), (1, .int n), (0, .ref (ad 1))]) hx hb dX12_worksAgain_125 hl (by decide) rfl (fun ls hl => ?_)
                        refine lv_iload hx hb dX12_worksAgain_127 (lv_at hl 0 rfl) ?_
                        refine lv_iload_n hx hb dX12_worksAgain_129 rfl (lv_at hl 2 rfl) ?_
                        refine lv_icmp_lt (tgt := 136) hx hb dX12_worksAgain_130 (by decide) (fun c_57 => ?_) (fun c_57 => ?_)
                        · have kc_57 : i_56.toInt < v.toInt := by have h9 := c_57; simp only [ge_iff_le, gt_iff_lt, x_lt, x_le, x_eq, ne_eq, Int32.not_lt, Int32.not_le] at h9; omega
                          refine lv_iload hx hb dX12_worksAgain_136 (lv_at hl 0 rfl) ?_
                          refine lv_istore_n (lv' := [(3, .int i_56), (5, .int i_56), (4, .int j), (2, .int k), (1, .int n), (0, .ref (ad 1))]) hx hb dX12_worksAgain_138 rfl hl (by decide) rfl (fun ls hl => ?_)
                          refine lv_aload_n hx hb dX12_worksAgain_139 rfl (lv_at hl 5 rfl) ?_
                          refine va_get (D := D) (ci := 11) (v := .ref (ad 84)) (C := RX12) (T := TX12) (N := 85) hx hb hts inX12 hown hK hP 0 mwd_o0 rfl 84 (by decide) fl185 (fun _ h9 => h9) rfl dX12_worksAgain_140 ?_
                          refine lv_bipush (v := 11) hx hb dX12_worksAgain_143 (by decide) ?_
                          refine lv_iload_n hx hb dX12_worksAgain_145 rfl (lv_at hl 4 rfl) ?_
                          refine lv_imul hx hb dX12_worksAgain_146 ?_
                          refine lv_topi (fun i_58 ei_58 => ?_)
                          have vi_58 : i_58.toInt = 11 * n.toInt := by have h9 := x_mulIl (n := 11) ei_58 rfl (by omega) (by omega); omega
                          refine lv_iload_n hx hb dX12_worksAgain_147 rfl (lv_at hl 3 rfl) ?_
                          refine lv_iadd hx hb dX12_worksAgain_148 ?_
                          refine lv_topi (fun i_59 ei_59 => ?_)
                          have vi_59 : i_59.toInt = i_58.toInt + k.toInt := by have h9 := x_add ei_59 (by omega) (by omega); omega
                          refine lv_iload hx hb dX12_worksAgain_149 (lv_at hl 2 rfl) ?_
                          refine va_iast hx hb hK hP hD hS 57 2 mwd_a57 rfl (x_in (by omega) (by omega)) dX12_worksAgain_151 (fun H locs hP hD hS => ?_)
                          obtain ⟨f_60, ef_60⟩ : ∃ z9 : Nat → Int32, z9 = (upd g (Int32.toNatClampNeg i_59) j) := ⟨_, rfl⟩
                          have hP : va_P D vwCl (mwd y ad zw (tI (tI (tI (sI σ 82 1) 83 f) 84 g) 84 f_60)) H := by rw [ef_60]; exact x_trP hP mwd_s57
                          have hD : va_D A (mwd y ad zw (tI (tI (tI (sI σ 82 1) 83 f) 84 g) 84 f_60)) := by rw [ef_60]; exact x_trD hD mwd_s57
                          obtain ⟨i_61, ei_61⟩ : ∃ z9 : Int32, z9 = j + 1 := ⟨_, rfl⟩
                          have vi_61 : i_61.toInt = j.toInt + 1 := by have h9 := x_add ei_61 (by omega) (by omega); omega
                          refine lv_iinc (v := i_61) (lv' := [(4, .int i_61), (3, .int i_56), (5, .int i_56), (2, .int k), (1, .int n), (0, .ref (ad 1))]) hx hb dX12_worksAgain_152 hl (k := 2) rfl (by rw [ei_61]; rfl) (by decide) rfl (fun ls hl => ?_)
                          refine lv_goto (tgt := 87) hx hb dX12_worksAgain_155 (by decide) ?_
                          have hP : va_P D vwCl (mwd y ad zw (tI (tI (sI σ 82 1) 83 f) 84 f_60)) H := hP
                          have hD : va_D A (mwd y ad zw (tI (tI (sI σ 82 1) 83 f) 84 f_60)) := hD
                          exact ih_loop3 i_61 i_56 f f_60 H locs ls (by omega) (by omega) (by omega) hP hD hS (lv_sub hl [0, 1, 3, 4, 5] rfl)
                        · have kc_57 : i_56.toInt ≥ v.toInt := by have h9 := c_57; simp only [ge_iff_le, gt_iff_lt, x_lt, x_le, x_eq, ne_eq, Int32.not_lt, Int32.not_le] at h9; omega
                          refine lv_goto (tgt := 152) hx hb dX12_worksAgain_133 (by decide) ?_
                          obtain ⟨i_62, ei_62⟩ : ∃ z9 : Int32, z9 = j + 1 := ⟨_, rfl⟩
                          have vi_62 : i_62.toInt = j.toInt + 1 := by have h9 := x_add ei_62 (by omega) (by omega); omega
                          refine lv_iinc (v := i_62) (lv' := [(4, .int i_62), (5, .int i_56), (3, .int v), (2, .int k), (1, .int n), (0, .ref (ad 1))]) hx hb dX12_worksAgain_152 hl (k := 1) rfl (by rw [ei_62]; rfl) (by decide) rfl (fun ls hl => ?_)
                          refine lv_goto (tgt := 87) hx hb dX12_worksAgain_155 (by decide) ?_
                          exact ih_loop3 i_62 v f g H locs ls (by omega) (by omega) (by omega) hP hD hS (lv_sub hl [0, 2, 3, 4, 5] rfl)
                  exact loop3 102 1 0 f f_41 H locs ls (by decide) (by decide) (by have h7 : (1 : Int32).toInt = 1 := rfl; omega) hP hD hS (lv_sub hl [0, 1, 2, 3, 4] rfl)
          exact loop2 12 2 f_8 f_11 H locs ls (by decide) (by decide) (by have h7 : (2 : Int32).toInt = 2 := rfl; omega) hP hD hS (lv_sub hl [0, 1, 2] rfl)
    exact loop 102 1 (σ.2.2.1 83) (σ.2.2.1 84) H locs ls (by decide) (by decide) (by omega) hP hD hS (lv_sub hl [0, 1] rfl)
  · have kc_1 : (σ.1 82).toInt ≠ 0 := by have h9 := c_1; simp only [ge_iff_le, gt_iff_lt, x_lt, x_le, x_eq, ne_eq, Int32.not_lt, Int32.not_le] at h9; simp only [Int32.reduceToInt] at h9; omega
    have hP : va_P D vwCl (mwd y ad zw (tI (tI (sI σ 82 (σ.1 82)) 83 (σ.2.2.1 83)) 84 (σ.2.2.1 84))) H := hP
    have hD : va_D A (mwd y ad zw (tI (tI (sI σ 82 (σ.1 82)) 83 (σ.2.2.1 83)) 84 (σ.2.2.1 84))) := hD
    exact x_vretW (u := ((σ.1 82), (σ.2.2.1 83), (σ.2.2.1 84))) hx hb hr hQ trivial hP hD hK hS dX12_worksAgain_7 hlocks

def v_q_again : List Cond := .code yX12_again cX12_again 3 (some .int) :: ([.fieldLink RX12 182 "SlopeRunnerModel" "again" "[I", .constantLong RX12 501 100, .constantLong RX12 503 10] ++ ((wsS RX12 231 yX12_isIn v_q_isIn) ++ ((wsV RX12 505 RX12 yX12_worksAgain v_q_worksAgain) ++ wsX120)))
theorem g_q_again_0 : GoodIn v_q_again (wsS RX12 231 yX12_isIn v_q_isIn) := goodIn_sub (fun w h => List.mem_cons_of_mem _ (List.mem_append_right _ (List.mem_append_left _ h))) (by decide +kernel)
theorem g_q_again_1 : GoodIn v_q_again (wsV RX12 505 RX12 yX12_worksAgain v_q_worksAgain) := goodIn_sub (fun w h => List.mem_cons_of_mem _ (List.mem_append_right _ (List.mem_append_right _ (List.mem_append_left _ h)))) (by decide +kernel)
set_option maxHeartbeats 4000000 in
set_option maxRecDepth 100000 in
theorem q_again (l : Launch) (D : va_G) (y : Nat → ClassId) (sz : Nat) (ad : Nat → Nat) (zw : Nat → Nat → Int32) (σ : OS) (n k : Int32) : Met l yX12_again v_q_again ({ frames := 1, cells := 0, slots := 0, locals := 25 } : Room) (va_Pc [.ref (ad 1), .int n, .int k] (xPre D (xT y) (mwd y ad zw σ) sz)) (va_Qi (fun (r : Int32) (u : Int32 × (Nat → Int32) × (Nat → Int32)) => True) (fun (u : Int32 × (Nat → Int32) × (Nat → Int32)) => xB D (xT y) (va_A (mwd y ad zw σ) sz) (mwd y ad zw (tI (tI (sI σ 82 u.1) 83 u.2.1) 84 u.2.2))) (va_A (mwd y ad zw σ) sz)) 0 0 (va_A (mwd y ad zw σ) sz) := by
  refine x_meti (cc := cX12_again) (maxL := 3) (by decide) rfl (Nat.le_of_ble_eq_true rfl) ?_
  intro p e s m below meth c A H locs Q hx hb hml hown hts hr hlocks hmn hA hP hK hD hS ls hl hQ
  have hl : lv_has ls 3 [(0, .ref (ad 1)), (1, .int n), (2, .int k)] := hl
  have kl_1 : (1 : Int64).toInt = 1 := rfl
  have kl_100 : (100 : Int64).toInt = 100 := rfl
  have kk_0 : (0 : Int32).toInt = 0 := rfl
  have kk_m1 : ((-1) : Int32).toInt = -1 := rfl
  have kl_10 : (10 : Int64).toInt = 10 := rfl
  have fl182 := hts (.fieldLink RX12 182 "SlopeRunnerModel" "again" "[I") (List.mem_of_getElem? (i := 1) rfl)
  have inX12 : ∀ w ∈ wsX120, w ∈ v_q_again := (fun w h => List.mem_cons_of_mem _ (List.mem_append_right _ (List.mem_append_right _ (List.mem_append_right _ h))))
  have kk_11 : (11 : Int32).toInt = 11 := rfl
  refine lv_iload_n hx hb dX12_again_0 rfl (lv_at hl 1 rfl) ?_
  refine lv_i2l hx hb dX12_again_1 rfl ?_
  refine lv_topl (fun j_1 ej_1 => ?_)
  have vj_1 : j_1.toInt = n.toInt := by rw [ej_1]; exact Int32.toInt_toInt64 _
  refine lv_lconst (v := 1) hx hb dX12_again_2 (by decide) ?_
  refine lv_ldc2 (v := 100) hx hb hown (hts (.constantLong RX12 501 100) (List.mem_of_getElem? (i := 2) rfl)) dX12_again_3 ?_
  refine x_calliN (va_runS (As := [.long j_1, .long 1, .long 100]) (rest := []) ⟨hx, hb, hml, hown, hts⟩ (q_isIn l D y H.size j_1 1 100) (cwS 3 hts g_q_again_0 rfl rfl rfl (by decide +kernel) ⟨Nat.le_of_ble_eq_true rfl, Nat.le_of_ble_eq_true rfl⟩) (x_preS hK (x_nilP D H) (x_nilD A)) rfl rfl hl.1 rfl (lv_room (Nat.le_of_ble_eq_true rfl)) dX12_again_6 ⟨Nat.le_of_ble_eq_true rfl, Nat.le_of_ble_eq_true rfl⟩) hP hD hS hA (fun r_2 u H locs hw hP hD hS => ?_)
  try dsimp only at hw
  refine lv_if_eq (tgt := 24) hx hb dX12_again_9 (by decide) (fun c_3 => ?_) (fun c_3 => ?_)
  · have kc_3 : r_2.toInt = 0 := by have h9 := c_3; simp only [ge_iff_le, gt_iff_lt, x_lt, x_le, x_eq, ne_eq, Int32.not_lt, Int32.not_le] at h9; simp only [Int32.reduceToInt] at h9; omega
    refine lv_iconst (v := (-1)) hx hb dX12_again_24 (by decide) ?_
    have hP : va_P D vwCl (mwd y ad zw (tI (tI (sI σ 82 (σ.1 82)) 83 (σ.2.2.1 83)) 84 (σ.2.2.1 84))) H := hP
    have hD : va_D A (mwd y ad zw (tI (tI (sI σ 82 (σ.1 82)) 83 (σ.2.2.1 83)) 84 (σ.2.2.1 84))) := hD
    exact x_iretW (v := (-1)) (u := ((σ.1 82), (σ.2.2.1 83), (σ.2.2.1 84))) hx hb hr hQ trivial hP hD hK hS dX12_again_25 hlocks
  · have kc_3 : r_2.toInt ≠ 0 := by have h9 := c_3; simp only [ge_iff_le, gt_iff_lt, x_lt, x_le, x_eq, ne_eq, Int32.not_lt, Int32.not_le] at h9; simp only [Int32.reduceToInt] at h9; omega
    refine lv_iload_n hx hb dX12_again_12 rfl (lv_at hl 2 rfl) ?_
    refine lv_i2l hx hb dX12_again_13 rfl ?_
    refine lv_topl (fun j_4 ej_4 => ?_)
    have vj_4 : j_4.toInt = k.toInt := by rw [ej_4]; exact Int32.toInt_toInt64 _
    refine lv_lconst (v := 1) hx hb dX12_again_14 (by decide) ?_
    refine lv_ldc2 (v := 10) hx hb hown (hts (.constantLong RX12 503 10) (List.mem_of_getElem? (i := 3) rfl)) dX12_again_15 ?_
    refine x_calliN (va_runS (As := [.long j_4, .long 1, .long 10]) (rest := []) ⟨hx, hb, hml, hown, hts⟩ (q_isIn l D y H.size j_4 1 10) (cwS 3 hts g_q_again_0 rfl rfl rfl (by decide +kernel) ⟨Nat.le_of_ble_eq_true rfl, Nat.le_of_ble_eq_true rfl⟩) (x_preS hK (x_nilP D H) (x_nilD A)) rfl rfl hl.1 rfl (lv_room (Nat.le_of_ble_eq_true rfl)) dX12_again_18 ⟨Nat.le_of_ble_eq_true rfl, Nat.le_of_ble_eq_true rfl⟩) hP hD hS hA (fun r_5 u H locs hw hP hD hS => ?_)
    try dsimp only at hw
    refine lv_if_ne (tgt := 26) hx hb dX12_again_21 (by decide) (fun c_6 => ?_) (fun c_6 => ?_)
    · have kc_6 : r_5.toInt ≠ 0 := by have h9 := c_6; simp only [ge_iff_le, gt_iff_lt, x_lt, x_le, x_eq, ne_eq, Int32.not_lt, Int32.not_le] at h9; simp only [Int32.reduceToInt] at h9; omega
      refine lv_aload_n hx hb dX12_again_26 rfl (lv_at hl 0 rfl) ?_
      refine x_callvW (va_runV (As := []) (rest := []) ⟨hx, hb, hml, hown, hts⟩ (q_worksAgain l D y H.size ad zw σ ) (cwV 0 hts g_q_again_1 rfl rfl rfl (by decide +kernel) ⟨Nat.le_of_ble_eq_true rfl, Nat.le_of_ble_eq_true rfl⟩) (x_preV (q := (RX12, TX12, 85)) hK hP hD (ci := 11) (q0 := 0) rfl mwd_o0) rfl rfl hl.1 rfl (lv_room (Nat.le_of_ble_eq_true rfl)) dX12_again_27 ⟨Nat.le_of_ble_eq_true rfl, Nat.le_of_ble_eq_true rfl⟩) hP hD hS hA (fun u H locs hw hP hD hS => ?_)
      obtain ⟨n_7, f_8, f_9⟩ := u
      try dsimp only at hw
      have hP : va_P D vwCl (mwd y ad zw (tI (tI (sI σ 82 n_7) 83 f_8) 84 f_9)) H := hP
      have hD : va_D A (mwd y ad zw (tI (tI (sI σ 82 n_7) 83 f_8) 84 f_9)) := hD
      have hw : True := hw
      refine lv_aload_n hx hb dX12_again_30 rfl (lv_at hl 0 rfl) ?_
      refine va_get (D := D) (ci := 11) (v := .ref (ad 83)) (C := RX12) (T := TX12) (N := 85) hx hb hts inX12 hown hK hP 0 mwd_o0 rfl 83 (by decide) fl182 (fun _ h9 => h9) rfl dX12_again_31 ?_
      refine lv_bipush (v := 11) hx hb dX12_again_34 (by decide) ?_
      refine lv_iload_n hx hb dX12_again_36 rfl (lv_at hl 1 rfl) ?_
      refine lv_imul hx hb dX12_again_37 ?_
      refine lv_topi (fun i_10 ei_10 => ?_)
      have vi_10 : i_10.toInt = 11 * n.toInt := by have h9 := x_mulIl (n := 11) ei_10 rfl (by omega) (by omega); omega
      refine lv_iload_n hx hb dX12_again_38 rfl (lv_at hl 2 rfl) ?_
      refine lv_iadd hx hb dX12_again_39 ?_
      refine lv_topi (fun i_11 ei_11 => ?_)
      have vi_11 : i_11.toInt = i_10.toInt + k.toInt := by have h9 := x_add ei_11 (by omega) (by omega); omega
      refine va_iald hx hb hK hP 56 2 mwd_a56 rfl (x_in (by omega) (by omega)) dX12_again_40 ?_
      refine lv_topi (fun i_12 ei_12 => ?_)
      have ei_12 : i_12 = f_8 (Int32.toNatClampNeg i_11) := ei_12
      exact x_iretW (v := i_12) (u := (n_7, f_8, f_9)) hx hb hr hQ trivial hP hD hK hS dX12_again_41 hlocks
    · have kc_6 : r_5.toInt = 0 := by have h9 := c_6; simp only [ge_iff_le, gt_iff_lt, x_lt, x_le, x_eq, ne_eq, Int32.not_lt, Int32.not_le] at h9; simp only [Int32.reduceToInt] at h9; omega
      refine lv_iconst (v := (-1)) hx hb dX12_again_24 (by decide) ?_
      have hP : va_P D vwCl (mwd y ad zw (tI (tI (sI σ 82 (σ.1 82)) 83 (σ.2.2.1 83)) 84 (σ.2.2.1 84))) H := hP
      have hD : va_D A (mwd y ad zw (tI (tI (sI σ 82 (σ.1 82)) 83 (σ.2.2.1 83)) 84 (σ.2.2.1 84))) := hD
      exact x_iretW (v := (-1)) (u := ((σ.1 82), (σ.2.2.1 83), (σ.2.2.1 84))) hx hb hr hQ trivial hP hD hK hS dX12_again_25 hlocks

def v_q_first : List Cond := .code yX12_first cX12_first 3 (some .int) :: ([.fieldLink RX12 185 "SlopeRunnerModel" "firstKept" "[I", .constantLong RX12 501 100, .constantLong RX12 503 10] ++ ((wsS RX12 231 yX12_isIn v_q_isIn) ++ ((wsV RX12 505 RX12 yX12_worksAgain v_q_worksAgain) ++ wsX120)))
theorem g_q_first_0 : GoodIn v_q_first (wsS RX12 231 yX12_isIn v_q_isIn) := goodIn_sub (fun w h => List.mem_cons_of_mem _ (List.mem_append_right _ (List.mem_append_left _ h))) (by decide +kernel)
theorem g_q_first_1 : GoodIn v_q_first (wsV RX12 505 RX12 yX12_worksAgain v_q_worksAgain) := goodIn_sub (fun w h => List.mem_cons_of_mem _ (List.mem_append_right _ (List.mem_append_right _ (List.mem_append_left _ h)))) (by decide +kernel)
set_option maxHeartbeats 4000000 in
set_option maxRecDepth 100000 in
theorem q_first (l : Launch) (D : va_G) (y : Nat → ClassId) (sz : Nat) (ad : Nat → Nat) (zw : Nat → Nat → Int32) (σ : OS) (n k : Int32) : Met l yX12_first v_q_first ({ frames := 1, cells := 0, slots := 0, locals := 25 } : Room) (va_Pc [.ref (ad 1), .int n, .int k] (xPre D (xT y) (mwd y ad zw σ) sz)) (va_Qi (fun (r : Int32) (u : Int32 × (Nat → Int32) × (Nat → Int32)) => True) (fun (u : Int32 × (Nat → Int32) × (Nat → Int32)) => xB D (xT y) (va_A (mwd y ad zw σ) sz) (mwd y ad zw (tI (tI (sI σ 82 u.1) 83 u.2.1) 84 u.2.2))) (va_A (mwd y ad zw σ) sz)) 0 0 (va_A (mwd y ad zw σ) sz) := by
  refine x_meti (cc := cX12_first) (maxL := 3) (by decide) rfl (Nat.le_of_ble_eq_true rfl) ?_
  intro p e s m below meth c A H locs Q hx hb hml hown hts hr hlocks hmn hA hP hK hD hS ls hl hQ
  have hl : lv_has ls 3 [(0, .ref (ad 1)), (1, .int n), (2, .int k)] := hl
  have kl_1 : (1 : Int64).toInt = 1 := rfl
  have kl_100 : (100 : Int64).toInt = 100 := rfl
  have kk_0 : (0 : Int32).toInt = 0 := rfl
  have kk_m1 : ((-1) : Int32).toInt = -1 := rfl
  have kl_10 : (10 : Int64).toInt = 10 := rfl
  have fl185 := hts (.fieldLink RX12 185 "SlopeRunnerModel" "firstKept" "[I") (List.mem_of_getElem? (i := 1) rfl)
  have inX12 : ∀ w ∈ wsX120, w ∈ v_q_first := (fun w h => List.mem_cons_of_mem _ (List.mem_append_right _ (List.mem_append_right _ (List.mem_append_right _ h))))
  have kk_11 : (11 : Int32).toInt = 11 := rfl
  refine lv_iload_n hx hb dX12_first_0 rfl (lv_at hl 1 rfl) ?_
  refine lv_i2l hx hb dX12_first_1 rfl ?_
  refine lv_topl (fun j_1 ej_1 => ?_)
  have vj_1 : j_1.toInt = n.toInt := by rw [ej_1]; exact Int32.toInt_toInt64 _
  refine lv_lconst (v := 1) hx hb dX12_first_2 (by decide) ?_
  refine lv_ldc2 (v := 100) hx hb hown (hts (.constantLong RX12 501 100) (List.mem_of_getElem? (i := 2) rfl)) dX12_first_3 ?_
  refine x_calliN (va_runS (As := [.long j_1, .long 1, .long 100]) (rest := []) ⟨hx, hb, hml, hown, hts⟩ (q_isIn l D y H.size j_1 1 100) (cwS 3 hts g_q_first_0 rfl rfl rfl (by decide +kernel) ⟨Nat.le_of_ble_eq_true rfl, Nat.le_of_ble_eq_true rfl⟩) (x_preS hK (x_nilP D H) (x_nilD A)) rfl rfl hl.1 rfl (lv_room (Nat.le_of_ble_eq_true rfl)) dX12_first_6 ⟨Nat.le_of_ble_eq_true rfl, Nat.le_of_ble_eq_true rfl⟩) hP hD hS hA (fun r_2 u H locs hw hP hD hS => ?_)
  try dsimp only at hw
  refine lv_if_eq (tgt := 24) hx hb dX12_first_9 (by decide) (fun c_3 => ?_) (fun c_3 => ?_)
  · have kc_3 : r_2.toInt = 0 := by have h9 := c_3; simp only [ge_iff_le, gt_iff_lt, x_lt, x_le, x_eq, ne_eq, Int32.not_lt, Int32.not_le] at h9; simp only [Int32.reduceToInt] at h9; omega
    refine lv_iconst (v := (-1)) hx hb dX12_first_24 (by decide) ?_
    have hP : va_P D vwCl (mwd y ad zw (tI (tI (sI σ 82 (σ.1 82)) 83 (σ.2.2.1 83)) 84 (σ.2.2.1 84))) H := hP
    have hD : va_D A (mwd y ad zw (tI (tI (sI σ 82 (σ.1 82)) 83 (σ.2.2.1 83)) 84 (σ.2.2.1 84))) := hD
    exact x_iretW (v := (-1)) (u := ((σ.1 82), (σ.2.2.1 83), (σ.2.2.1 84))) hx hb hr hQ trivial hP hD hK hS dX12_first_25 hlocks
  · have kc_3 : r_2.toInt ≠ 0 := by have h9 := c_3; simp only [ge_iff_le, gt_iff_lt, x_lt, x_le, x_eq, ne_eq, Int32.not_lt, Int32.not_le] at h9; simp only [Int32.reduceToInt] at h9; omega
    refine lv_iload_n hx hb dX12_first_12 rfl (lv_at hl 2 rfl) ?_
    refine lv_i2l hx hb dX12_first_13 rfl ?_
    refine lv_topl (fun j_4 ej_4 => ?_)
    have vj_4 : j_4.toInt = k.toInt := by rw [ej_4]; exact Int32.toInt_toInt64 _
    refine lv_lconst (v := 1) hx hb dX12_first_14 (by decide) ?_
    refine lv_ldc2 (v := 10) hx hb hown (hts (.constantLong RX12 503 10) (List.mem_of_getElem? (i := 3) rfl)) dX12_first_15 ?_
    refine x_calliN (va_runS (As := [.long j_4, .long 1, .long 10]) (rest := []) ⟨hx, hb, hml, hown, hts⟩ (q_isIn l D y H.size j_4 1 10) (cwS 3 hts g_q_first_0 rfl rfl rfl (by decide +kernel) ⟨Nat.le_of_ble_eq_true rfl, Nat.le_of_ble_eq_true rfl⟩) (x_preS hK (x_nilP D H) (x_nilD A)) rfl rfl hl.1 rfl (lv_room (Nat.le_of_ble_eq_true rfl)) dX12_first_18 ⟨Nat.le_of_ble_eq_true rfl, Nat.le_of_ble_eq_true rfl⟩) hP hD hS hA (fun r_5 u H locs hw hP hD hS => ?_)
    try dsimp only at hw
    refine lv_if_ne (tgt := 26) hx hb dX12_first_21 (by decide) (fun c_6 => ?_) (fun c_6 => ?_)
    · have kc_6 : r_5.toInt ≠ 0 := by have h9 := c_6; simp only [ge_iff_le, gt_iff_lt, x_lt, x_le, x_eq, ne_eq, Int32.not_lt, Int32.not_le] at h9; simp only [Int32.reduceToInt] at h9; omega
      refine lv_aload_n hx hb dX12_first_26 rfl (lv_at hl 0 rfl) ?_
      refine x_callvW (va_runV (As := []) (rest := []) ⟨hx, hb, hml, hown, hts⟩ (q_worksAgain l D y H.size ad zw σ ) (cwV 0 hts g_q_first_1 rfl rfl rfl (by decide +kernel) ⟨Nat.le_of_ble_eq_true rfl, Nat.le_of_ble_eq_true rfl⟩) (x_preV (q := (RX12, TX12, 85)) hK hP hD (ci := 11) (q0 := 0) rfl mwd_o0) rfl rfl hl.1 rfl (lv_room (Nat.le_of_ble_eq_true rfl)) dX12_first_27 ⟨Nat.le_of_ble_eq_true rfl, Nat.le_of_ble_eq_true rfl⟩) hP hD hS hA (fun u H locs hw hP hD hS => ?_)
      obtain ⟨n_7, f_8, f_9⟩ := u
      try dsimp only at hw
      have hP : va_P D vwCl (mwd y ad zw (tI (tI (sI σ 82 n_7) 83 f_8) 84 f_9)) H := hP
      have hD : va_D A (mwd y ad zw (tI (tI (sI σ 82 n_7) 83 f_8) 84 f_9)) := hD
      have hw : True := hw
      refine lv_aload_n hx hb dX12_first_30 rfl (lv_at hl 0 rfl) ?_
      refine va_get (D := D) (ci := 11) (v := .ref (ad 84)) (C := RX12) (T := TX12) (N := 85) hx hb hts inX12 hown hK hP 0 mwd_o0 rfl 84 (by decide) fl185 (fun _ h9 => h9) rfl dX12_first_31 ?_
      refine lv_bipush (v := 11) hx hb dX12_first_34 (by decide) ?_
      refine lv_iload_n hx hb dX12_first_36 rfl (lv_at hl 1 rfl) ?_
      refine lv_imul hx hb dX12_first_37 ?_
      refine lv_topi (fun i_10 ei_10 => ?_)
      have vi_10 : i_10.toInt = 11 * n.toInt := by have h9 := x_mulIl (n := 11) ei_10 rfl (by omega) (by omega); omega
      refine lv_iload_n hx hb dX12_first_38 rfl (lv_at hl 2 rfl) ?_
      refine lv_iadd hx hb dX12_first_39 ?_
      refine lv_topi (fun i_11 ei_11 => ?_)
      have vi_11 : i_11.toInt = i_10.toInt + k.toInt := by have h9 := x_add ei_11 (by omega) (by omega); omega
      refine va_iald hx hb hK hP 57 2 mwd_a57 rfl (x_in (by omega) (by omega)) dX12_first_40 ?_
      refine lv_topi (fun i_12 ei_12 => ?_)
      have ei_12 : i_12 = f_9 (Int32.toNatClampNeg i_11) := ei_12
      exact x_iretW (v := i_12) (u := (n_7, f_8, f_9)) hx hb hr hQ trivial hP hD hK hS dX12_first_41 hlocks
    · have kc_6 : r_5.toInt = 0 := by have h9 := c_6; simp only [ge_iff_le, gt_iff_lt, x_lt, x_le, x_eq, ne_eq, Int32.not_lt, Int32.not_le] at h9; simp only [Int32.reduceToInt] at h9; omega
      refine lv_iconst (v := (-1)) hx hb dX12_first_24 (by decide) ?_
      have hP : va_P D vwCl (mwd y ad zw (tI (tI (sI σ 82 (σ.1 82)) 83 (σ.2.2.1 83)) 84 (σ.2.2.1 84))) H := hP
      have hD : va_D A (mwd y ad zw (tI (tI (sI σ 82 (σ.1 82)) 83 (σ.2.2.1 83)) 84 (σ.2.2.1 84))) := hD
      exact x_iretW (v := (-1)) (u := ((σ.1 82), (σ.2.2.1 83), (σ.2.2.1 84))) hx hb hr hQ trivial hP hD hK hS dX12_first_25 hlocks

def v_q_feed : List Cond := .code yX12_feed cX12_feed 8 (some .int) :: ([.fieldLink RX12 188 "SlopeRunnerModel" "taped" "I", .fieldLink RX12 7 "SlopeRunnerModel" "tape" "[I"] ++ wsX120)
set_option maxHeartbeats 4000000 in
set_option maxRecDepth 100000 in
theorem q_feed (l : Launch) (D : va_G) (y : Nat → ClassId) (sz : Nat) (ad : Nat → Nat) (zw : Nat → Nat → Int32) (σ : OS) (a b g d q : Int32) (ht0 : 0 ≤ (σ.1 1).toInt) (ht1 : (σ.1 1).toInt ≤ 700) : Met l yX12_feed v_q_feed ({ frames := 0, cells := 0, slots := 0, locals := 0 } : Room) (va_Pc [.ref (ad 1), .int a, .int b, .int g, .int d, .int q] (xPre D (xT y) (mwd y ad zw σ) sz)) (va_Qi (fun (r : Int32) (u : Int32 × (Nat → Int32)) => ((σ.1 1).toInt + 20 ≤ 700 ∧ r = u.1 ∧ u.1.toInt = (σ.1 1).toInt + 20) ∨ (700 < (σ.1 1).toInt + 20 ∧ r.toInt = -1 ∧ u.1 = (σ.1 1))) (fun (u : Int32 × (Nat → Int32)) => xB D (xT y) (va_A (mwd y ad zw σ) sz) (mwd y ad zw (tI (sI σ 1 u.1) 0 u.2))) (va_A (mwd y ad zw σ) sz)) 0 0 (va_A (mwd y ad zw σ) sz) := by
  refine x_meti (cc := cX12_feed) (maxL := 8) (by decide) rfl (Nat.le_of_ble_eq_true rfl) ?_
  intro p e s m below meth c A H locs Q hx hb hml hown hts hr hlocks hmn hA hP hK hD hS ls hl hQ
  have hl : lv_has ls 8 [(0, .ref (ad 1)), (1, .int a), (2, .int b), (3, .int g), (4, .int d), (5, .int q)] := hl
  have fl188 := hts (.fieldLink RX12 188 "SlopeRunnerModel" "taped" "I") (List.mem_of_getElem? (i := 1) rfl)
  have inX12 : ∀ w ∈ wsX120, w ∈ v_q_feed := (fun w h => List.mem_cons_of_mem _ (List.mem_append_right _ h))
  have kk_20 : (20 : Int32).toInt = 20 := rfl
  have kk_700 : (700 : Int32).toInt = 700 := rfl
  have fl7 := hts (.fieldLink RX12 7 "SlopeRunnerModel" "tape" "[I") (List.mem_of_getElem? (i := 2) rfl)
  have kk_1 : (1 : Int32).toInt = 1 := rfl
  have kk_4 : (4 : Int32).toInt = 4 := rfl
  have kk_8 : (8 : Int32).toInt = 8 := rfl
  have kk_12 : (12 : Int32).toInt = 12 := rfl
  have kk_16 : (16 : Int32).toInt = 16 := rfl
  have kk_m1 : ((-1) : Int32).toInt = -1 := rfl
  refine lv_aload_n hx hb dX12_feed_0 rfl (lv_at hl 0 rfl) ?_
  refine va_get (D := D) (ci := 11) (v := .int (σ.1 1)) (C := RX12) (T := TX12) (N := 85) hx hb hts inX12 hown hK hP 0 mwd_o0 rfl 1 (by decide) fl188 (fun _ h9 => h9) rfl dX12_feed_1 ?_
  refine lv_bipush (v := 20) hx hb dX12_feed_4 (by decide) ?_
  refine lv_iadd hx hb dX12_feed_6 ?_
  refine lv_topi (fun i_1 ei_1 => ?_)
  have vi_1 : i_1.toInt = (σ.1 1).toInt + 20 := by have h9 := x_add ei_1 (by omega) (by omega); omega
  refine lv_sipush (v := 700) hx hb dX12_feed_7 (by decide) ?_
  refine lv_icmp_le (tgt := 15) hx hb dX12_feed_10 (by decide) (fun c_2 => ?_) (fun c_2 => ?_)
  · have kc_2 : i_1.toInt ≤ 700 := by have h9 := c_2; simp only [ge_iff_le, gt_iff_lt, x_lt, x_le, x_eq, ne_eq, Int32.not_lt, Int32.not_le] at h9; simp only [Int32.reduceToInt] at h9; omega
    refine lv_iconst (v := 0) hx hb dX12_feed_15 (by decide) ?_
    refine lv_istore (lv' := [(6, .int 0), (0, .ref (ad 1)), (1, .int a), (2, .int b), (3, .int g), (4, .int d), (5, .int q)]) hx hb dX12_feed_16 hl (by decide) rfl (fun ls hl => ?_)
    have hP : va_P D vwCl (mwd y ad zw (tI (sI σ 1 (σ.1 1)) 0 (σ.2.2.1 0))) H := hP
    have hD : va_D A (mwd y ad zw (tI (sI σ 1 (σ.1 1)) 0 (σ.2.2.1 0))) := hD
    have loop : ∀ (fu : Nat) (j : Int32) (n1 : Int32) (f : Nat → Int32) (H : Heap) (locs : List Loc) (ls : Array Slot), (0 ≤ j.toInt) → (j.toInt ≤ 20) → (n1.toInt = (σ.1 1).toInt + j.toInt) → (20 - j.toInt < (fu : Int)) → va_P D vwCl (mwd y ad zw (tI (sI σ 1 n1) 0 f)) H → va_D A (mwd y ad zw (tI (sI σ 1 n1) 0 f)) → va_S A s.heap H locs → lv_has ls 8 [(6, .int j), (5, .int q), (4, .int d), (3, .int g), (2, .int b), (1, .int a), (0, .ref (ad 1))] → W p l e ({ frames := 0, cells := 0, slots := 0, locals := 0 } : Room) s m ([.ref (ad 1), .int a, .int b, .int g, .int d, .int q] : List Value).toArray below meth c H locs 0 0 Q (F0 m 18 ls []) := by
      intro fu
      induction fu with
      | zero =>
        intro j n1 f H locs ls hj0 hj1 hn1 hm
        exact absurd hm (by omega)
      | succ fu ih_loop =>
        intro j n1 f H locs ls hj0 hj1 hn1 hm hP hD hS hl
        refine lv_iload hx hb dX12_feed_18 (lv_at hl 0 rfl) ?_
        refine lv_bipush (v := 20) hx hb dX12_feed_20 (by decide) ?_
        refine lv_icmp_ge (tgt := 114) hx hb dX12_feed_22 (by decide) (fun c_3 => ?_) (fun c_3 => ?_)
        · have kc_3 : j.toInt ≥ 20 := by have h9 := c_3; simp only [ge_iff_le, gt_iff_lt, x_lt, x_le, x_eq, ne_eq, Int32.not_lt, Int32.not_le] at h9; simp only [Int32.reduceToInt] at h9; omega
          refine lv_aload_n hx hb dX12_feed_114 rfl (lv_at hl 6 rfl) ?_
          refine va_get (D := D) (ci := 11) (v := .int n1) (C := RX12) (T := TX12) (N := 85) hx hb hts inX12 hown hK hP 0 mwd_o0 rfl 1 (by decide) fl188 (fun _ h9 => h9) rfl dX12_feed_115 ?_
          exact x_iretW (v := n1) (u := (n1, f)) hx hb hr hQ (by (try dsimp only); exact (by first | exact Or.inl ⟨by omega, rfl, by omega⟩ | exact Or.inr ⟨by omega, by omega, rfl⟩)) hP hD hK hS dX12_feed_118 hlocks
        · have kc_3 : j.toInt < 20 := by have h9 := c_3; simp only [ge_iff_le, gt_iff_lt, x_lt, x_le, x_eq, ne_eq, Int32.not_lt, Int32.not_le] at h9; simp only [Int32.reduceToInt] at h9; omega
          have cut71 : ∀ (v : Int32) (H : Heap) (locs : List Loc) (ls : Array Slot), va_P D vwCl (mwd y ad zw (tI (sI σ 1 n1) 0 f)) H → va_D A (mwd y ad zw (tI (sI σ 1 n1) 0 f)) → va_S A s.heap H locs → lv_has ls 8 [(6, .int j), (5, .int q), (4, .int d), (3, .int g), (2, .int b), (1, .int a), (0, .ref (ad 1))] → W p l e ({ frames := 0, cells := 0, slots := 0, locals := 0 } : Room) s m ([.ref (ad 1), .int a, .int b, .int g, .int d, .int q] : List Value).toArray below meth c H locs 0 0 Q (F0 m 71 ls [.int v]) := by
            intro v H locs ls  hP hD hS hl
            refine lv_istore (lv' := [(7, .int v), (6, .int j), (5, .int q), (4, .int d), (3, .int g), (2, .int b), (1, .int a), (0, .ref (ad 1))]) hx hb dX12_feed_71 hl (by decide) rfl (fun ls hl => ?_)
            refine lv_aload_n hx hb dX12_feed_73 rfl (lv_at hl 7 rfl) ?_
            refine va_get (D := D) (ci := 11) (v := .ref (ad 0)) (C := RX12) (T := TX12) (N := 85) hx hb hts inX12 hown hK hP 0 mwd_o0 rfl 0 (by decide) fl7 (fun _ h9 => h9) rfl dX12_feed_74 ?_
            refine lv_aload_n hx hb dX12_feed_77 rfl (lv_at hl 7 rfl) ?_
            refine va_get (D := D) (ci := 11) (v := .int n1) (C := RX12) (T := TX12) (N := 85) hx hb hts inX12 hown hK hP 0 mwd_o0 rfl 1 (by decide) fl188 (fun _ h9 => h9) rfl dX12_feed_78 ?_
            refine lv_iload hx hb dX12_feed_81 (lv_at hl 0 rfl) ?_
            refine lv_bipush (v := 8) hx hb dX12_feed_83 (by decide) ?_
            refine lv_iconst (v := 3) hx hb dX12_feed_85 (by decide) ?_
            refine lv_iload hx hb dX12_feed_86 (lv_at hl 1 rfl) ?_
            refine lv_iconst (v := 4) hx hb dX12_feed_88 (by decide) ?_
            refine lv_irem hx hb dX12_feed_89 (by decide) ?_
            refine lv_topi (fun i_4 ei_4 => ?_)
            refine lv_isub hx hb dX12_feed_90 ?_
            refine lv_topi (fun i_5 ei_5 => ?_)
            refine lv_imul hx hb dX12_feed_91 ?_
            refine lv_topi (fun i_6 ei_6 => ?_)
            refine lv_ishr hx hb dX12_feed_92 ?_
            refine lv_topi (fun i_7 ei_7 => ?_)
            refine lv_sipush (v := 255) hx hb dX12_feed_93 (by decide) ?_
            refine lv_iand hx hb dX12_feed_96 ?_
            refine lv_topi (fun i_8 ei_8 => ?_)
            refine va_iast hx hb hK hP hD hS 1 2 mwd_a1 rfl (x_in (by omega) (by omega)) dX12_feed_97 (fun H locs hP hD hS => ?_)
            obtain ⟨f_9, ef_9⟩ : ∃ z9 : Nat → Int32, z9 = (upd f (Int32.toNatClampNeg n1) i_8) := ⟨_, rfl⟩
            have hP : va_P D vwCl (mwd y ad zw (tI (tI (sI σ 1 n1) 0 f) 0 f_9)) H := by rw [ef_9]; exact x_trP hP mwd_s1
            have hD : va_D A (mwd y ad zw (tI (tI (sI σ 1 n1) 0 f) 0 f_9)) := by rw [ef_9]; exact x_trD hD mwd_s1
            refine lv_aload_n hx hb dX12_feed_98 rfl (lv_at hl 7 rfl) ?_
            refine lv_dup hx hb dX12_feed_99 rfl ?_
            refine va_get (D := D) (ci := 11) (v := .int n1) (C := RX12) (T := TX12) (N := 85) hx hb hts inX12 hown hK hP 0 mwd_o0 rfl 1 (by decide) fl188 (fun _ h9 => h9) rfl dX12_feed_100 ?_
            refine lv_iconst (v := 1) hx hb dX12_feed_103 (by decide) ?_
            refine lv_iadd hx hb dX12_feed_104 ?_
            refine lv_topi (fun i_10 ei_10 => ?_)
            have vi_10 : i_10.toInt = n1.toInt + 1 := by have h9 := x_add ei_10 (by omega) (by omega); omega
            refine va_put (D := D) (ci := 11) (v := .int i_10) (ty := .int) (C := RX12) (T := TX12) (N := 85) hx hb hts inX12 tyX12 tyX12_ok nmX12 hown hK hP hD hS 0 mwd_o0 rfl 1 (by decide) fl188 (fun _ h9 => h9) rfl (by decide +kernel) rfl rfl (Nat.le_of_ble_eq_true rfl) dX12_feed_105 (fun H locs hP hD hS => ?_)
            have hP : va_P D vwCl (mwd y ad zw (sI (tI (tI (sI σ 1 n1) 0 f) 0 f_9) 1 i_10)) H := x_trP hP mwd_p0_1
            have hD : va_D A (mwd y ad zw (sI (tI (tI (sI σ 1 n1) 0 f) 0 f_9) 1 i_10)) := x_trD hD mwd_p0_1
            obtain ⟨i_11, ei_11⟩ : ∃ z9 : Int32, z9 = j + 1 := ⟨_, rfl⟩
            have vi_11 : i_11.toInt = j.toInt + 1 := by have h9 := x_add ei_11 (by omega) (by omega); omega
            refine lv_iinc (v := i_11) (lv' := [(6, .int i_11), (7, .int v), (5, .int q), (4, .int d), (3, .int g), (2, .int b), (1, .int a), (0, .ref (ad 1))]) hx hb dX12_feed_108 hl (k := 1) rfl (by rw [ei_11]; rfl) (by decide) rfl (fun ls hl => ?_)
            refine lv_goto (tgt := 18) hx hb dX12_feed_111 (by decide) ?_
            have hP : va_P D vwCl (mwd y ad zw (tI (sI σ 1 i_10) 0 f_9)) H := hP
            have hD : va_D A (mwd y ad zw (tI (sI σ 1 i_10) 0 f_9)) := hD
            exact ih_loop i_11 i_10 f_9 H locs ls (by omega) (by omega) (by omega) (by omega) hP hD hS (lv_sub hl [0, 2, 3, 4, 5, 6, 7] rfl)
          refine lv_iload hx hb dX12_feed_25 (lv_at hl 0 rfl) ?_
          refine lv_iconst (v := 4) hx hb dX12_feed_27 (by decide) ?_
          refine lv_icmp_ge (tgt := 35) hx hb dX12_feed_28 (by decide) (fun c_12 => ?_) (fun c_12 => ?_)
          · have kc_12 : j.toInt ≥ 4 := by have h9 := c_12; simp only [ge_iff_le, gt_iff_lt, x_lt, x_le, x_eq, ne_eq, Int32.not_lt, Int32.not_le] at h9; simp only [Int32.reduceToInt] at h9; omega
            refine lv_iload hx hb dX12_feed_35 (lv_at hl 0 rfl) ?_
            refine lv_bipush (v := 8) hx hb dX12_feed_37 (by decide) ?_
            refine lv_icmp_ge (tgt := 46) hx hb dX12_feed_39 (by decide) (fun c_13 => ?_) (fun c_13 => ?_)
            · have kc_13 : j.toInt ≥ 8 := by have h9 := c_13; simp only [ge_iff_le, gt_iff_lt, x_lt, x_le, x_eq, ne_eq, Int32.not_lt, Int32.not_le] at h9; simp only [Int32.reduceToInt] at h9; omega
              refine lv_iload hx hb dX12_feed_46 (lv_at hl 0 rfl) ?_
              refine lv_bipush (v := 12) hx hb dX12_feed_48 (by decide) ?_
              refine lv_icmp_ge (tgt := 57) hx hb dX12_feed_50 (by decide) (fun c_14 => ?_) (fun c_14 => ?_)
              · have kc_14 : j.toInt ≥ 12 := by have h9 := c_14; simp only [ge_iff_le, gt_iff_lt, x_lt, x_le, x_eq, ne_eq, Int32.not_lt, Int32.not_le] at h9; simp only [Int32.reduceToInt] at h9; omega
                refine lv_iload hx hb dX12_feed_57 (lv_at hl 0 rfl) ?_
                refine lv_bipush (v := 16) hx hb dX12_feed_59 (by decide) ?_
                refine lv_icmp_ge (tgt := 69) hx hb dX12_feed_61 (by decide) (fun c_15 => ?_) (fun c_15 => ?_)
                · have kc_15 : j.toInt ≥ 16 := by have h9 := c_15; simp only [ge_iff_le, gt_iff_lt, x_lt, x_le, x_eq, ne_eq, Int32.not_lt, Int32.not_le] at h9; simp only [Int32.reduceToInt] at h9; omega
                  refine lv_iload hx hb dX12_feed_69 (lv_at hl 1 rfl) ?_
                  exact cut71 q H locs ls  hP hD hS (lv_sub hl [0, 1, 2, 3, 4, 5, 6] rfl)
                · have kc_15 : j.toInt < 16 := by have h9 := c_15; simp only [ge_iff_le, gt_iff_lt, x_lt, x_le, x_eq, ne_eq, Int32.not_lt, Int32.not_le] at h9; simp only [Int32.reduceToInt] at h9; omega
                  refine lv_iload hx hb dX12_feed_64 (lv_at hl 2 rfl) ?_
                  refine lv_goto (tgt := 71) hx hb dX12_feed_66 (by decide) ?_
                  exact cut71 d H locs ls  hP hD hS (lv_sub hl [0, 1, 2, 3, 4, 5, 6] rfl)
              · have kc_14 : j.toInt < 12 := by have h9 := c_14; simp only [ge_iff_le, gt_iff_lt, x_lt, x_le, x_eq, ne_eq, Int32.not_lt, Int32.not_le] at h9; simp only [Int32.reduceToInt] at h9; omega
                refine lv_iload_n hx hb dX12_feed_53 rfl (lv_at hl 3 rfl) ?_
                refine lv_goto (tgt := 71) hx hb dX12_feed_54 (by decide) ?_
                exact cut71 g H locs ls  hP hD hS (lv_sub hl [0, 1, 2, 3, 4, 5, 6] rfl)
            · have kc_13 : j.toInt < 8 := by have h9 := c_13; simp only [ge_iff_le, gt_iff_lt, x_lt, x_le, x_eq, ne_eq, Int32.not_lt, Int32.not_le] at h9; simp only [Int32.reduceToInt] at h9; omega
              refine lv_iload_n hx hb dX12_feed_42 rfl (lv_at hl 4 rfl) ?_
              refine lv_goto (tgt := 71) hx hb dX12_feed_43 (by decide) ?_
              exact cut71 b H locs ls  hP hD hS (lv_sub hl [0, 1, 2, 3, 4, 5, 6] rfl)
          · have kc_12 : j.toInt < 4 := by have h9 := c_12; simp only [ge_iff_le, gt_iff_lt, x_lt, x_le, x_eq, ne_eq, Int32.not_lt, Int32.not_le] at h9; simp only [Int32.reduceToInt] at h9; omega
            refine lv_iload_n hx hb dX12_feed_31 rfl (lv_at hl 5 rfl) ?_
            refine lv_goto (tgt := 71) hx hb dX12_feed_32 (by decide) ?_
            exact cut71 a H locs ls  hP hD hS (lv_sub hl [0, 1, 2, 3, 4, 5, 6] rfl)
    exact loop 21 0 (σ.1 1) (σ.2.2.1 0) H locs ls (by decide) (by decide) (by have h7 : (0 : Int32).toInt = 0 := rfl; omega) (by have h7 : (0 : Int32).toInt = 0 := rfl; omega) hP hD hS (lv_sub hl [0, 6, 5, 4, 3, 2, 1] rfl)
  · have kc_2 : i_1.toInt > 700 := by have h9 := c_2; simp only [ge_iff_le, gt_iff_lt, x_lt, x_le, x_eq, ne_eq, Int32.not_lt, Int32.not_le] at h9; simp only [Int32.reduceToInt] at h9; omega
    refine lv_iconst (v := (-1)) hx hb dX12_feed_13 (by decide) ?_
    have hP : va_P D vwCl (mwd y ad zw (tI (sI σ 1 (σ.1 1)) 0 (σ.2.2.1 0))) H := hP
    have hD : va_D A (mwd y ad zw (tI (sI σ 1 (σ.1 1)) 0 (σ.2.2.1 0))) := hD
    exact x_iretW (v := (-1)) (u := ((σ.1 1), (σ.2.2.1 0))) hx hb hr hQ (by (try dsimp only); exact (by first | exact Or.inl ⟨by omega, rfl, by omega⟩ | exact Or.inr ⟨by omega, by omega, rfl⟩)) hP hD hK hS dX12_feed_14 hlocks

def v_q_end : List Cond := .code yX12_end cX12_end 2 (some .boolean) :: ([.fieldLink RX12 188 "SlopeRunnerModel" "taped" "I"] ++ wsX120)
set_option maxHeartbeats 4000000 in
set_option maxRecDepth 100000 in
theorem q_end (l : Launch) (D : va_G) (y : Nat → ClassId) (sz : Nat) (ad : Nat → Nat) (zw : Nat → Nat → Int32) (σ : OS) (k : Int32) : Met l yX12_end v_q_end ({ frames := 0, cells := 0, slots := 0, locals := 0 } : Room) (va_Pc [.ref (ad 1), .int k] (xPre D (xT y) (mwd y ad zw σ) sz)) (va_Qi (fun (r : Int32) (u : Int32) => (r = 1 ∧ 0 ≤ k.toInt ∧ k.toInt ≤ (σ.1 1).toInt ∧ u = k) ∨ (r = 0 ∧ (k.toInt < 0 ∨ (σ.1 1).toInt < k.toInt) ∧ u = (σ.1 1))) (fun (u : Int32) => xB D (xT y) (va_A (mwd y ad zw σ) sz) (mwd y ad zw (sI σ 1 u))) (va_A (mwd y ad zw σ) sz)) 0 0 (va_A (mwd y ad zw σ) sz) := by
  refine x_meti (cc := cX12_end) (maxL := 2) (by decide) rfl (Nat.le_of_ble_eq_true rfl) ?_
  intro p e s m below meth c A H locs Q hx hb hml hown hts hr hlocks hmn hA hP hK hD hS ls hl hQ
  have hl : lv_has ls 2 [(0, .ref (ad 1)), (1, .int k)] := hl
  have kk_0 : (0 : Int32).toInt = 0 := rfl
  have fl188 := hts (.fieldLink RX12 188 "SlopeRunnerModel" "taped" "I") (List.mem_of_getElem? (i := 1) rfl)
  have inX12 : ∀ w ∈ wsX120, w ∈ v_q_end := (fun w h => List.mem_cons_of_mem _ (List.mem_append_right _ h))
  have kk_1 : (1 : Int32).toInt = 1 := rfl
  refine lv_iload_n hx hb dX12_end_0 rfl (lv_at hl 1 rfl) ?_
  refine lv_if_lt (tgt := 12) hx hb dX12_end_1 (by decide) (fun c_1 => ?_) (fun c_1 => ?_)
  · have kc_1 : k.toInt < 0 := by have h9 := c_1; simp only [ge_iff_le, gt_iff_lt, x_lt, x_le, x_eq, ne_eq, Int32.not_lt, Int32.not_le] at h9; simp only [Int32.reduceToInt] at h9; omega
    refine lv_iconst (v := 0) hx hb dX12_end_12 (by decide) ?_
    have hP : va_P D vwCl (mwd y ad zw (sI σ 1 (σ.1 1))) H := hP
    have hD : va_D A (mwd y ad zw (sI σ 1 (σ.1 1))) := hD
    exact x_zretW (v := 0) (u := (σ.1 1)) hx hb hr hQ rfl (by first | exact Or.inl ⟨rfl, by omega, by omega, rfl⟩ | exact Or.inr ⟨rfl, by omega, rfl⟩) hP hD hK hS dX12_end_13 hlocks
  · have kc_1 : k.toInt ≥ 0 := by have h9 := c_1; simp only [ge_iff_le, gt_iff_lt, x_lt, x_le, x_eq, ne_eq, Int32.not_lt, Int32.not_le] at h9; simp only [Int32.reduceToInt] at h9; omega
    refine lv_iload_n hx hb dX12_end_4 rfl (lv_at hl 1 rfl) ?_
    refine lv_aload_n hx hb dX12_end_5 rfl (lv_at hl 0 rfl) ?_
    refine va_get (D := D) (ci := 11) (v := .int (σ.1 1)) (C := RX12) (T := TX12) (N := 85) hx hb hts inX12 hown hK hP 0 mwd_o0 rfl 1 (by decide) fl188 (fun _ h9 => h9) rfl dX12_end_6 ?_
    refine lv_icmp_le (tgt := 14) hx hb dX12_end_9 (by decide) (fun c_2 => ?_) (fun c_2 => ?_)
    · have kc_2 : k.toInt ≤ (σ.1 1).toInt := by have h9 := c_2; simp only [ge_iff_le, gt_iff_lt, x_lt, x_le, x_eq, ne_eq, Int32.not_lt, Int32.not_le] at h9; omega
      refine lv_aload_n hx hb dX12_end_14 rfl (lv_at hl 0 rfl) ?_
      refine lv_iload_n hx hb dX12_end_15 rfl (lv_at hl 1 rfl) ?_
      refine va_put (D := D) (ci := 11) (v := .int k) (ty := .int) (C := RX12) (T := TX12) (N := 85) hx hb hts inX12 tyX12 tyX12_ok nmX12 hown hK hP hD hS 0 mwd_o0 rfl 1 (by decide) fl188 (fun _ h9 => h9) rfl (by decide +kernel) rfl rfl (Nat.le_of_ble_eq_true rfl) dX12_end_16 (fun H locs hP hD hS => ?_)
      have hP : va_P D vwCl (mwd y ad zw (sI σ 1 k)) H := x_trP hP mwd_p0_1
      have hD : va_D A (mwd y ad zw (sI σ 1 k)) := x_trD hD mwd_p0_1
      refine lv_iconst (v := 1) hx hb dX12_end_19 (by decide) ?_
      exact x_zretW (v := 1) (u := k) hx hb hr hQ rfl (by first | exact Or.inl ⟨rfl, by omega, by omega, rfl⟩ | exact Or.inr ⟨rfl, by omega, rfl⟩) hP hD hK hS dX12_end_20 hlocks
    · have kc_2 : k.toInt > (σ.1 1).toInt := by have h9 := c_2; simp only [ge_iff_le, gt_iff_lt, x_lt, x_le, x_eq, ne_eq, Int32.not_lt, Int32.not_le] at h9; omega
      refine lv_iconst (v := 0) hx hb dX12_end_12 (by decide) ?_
      have hP : va_P D vwCl (mwd y ad zw (sI σ 1 (σ.1 1))) H := hP
      have hD : va_D A (mwd y ad zw (sI σ 1 (σ.1 1))) := hD
      exact x_zretW (v := 0) (u := (σ.1 1)) hx hb hr hQ rfl (by first | exact Or.inl ⟨rfl, by omega, by omega, rfl⟩ | exact Or.inr ⟨rfl, by omega, rfl⟩) hP hD hK hS dX12_end_13 hlocks

