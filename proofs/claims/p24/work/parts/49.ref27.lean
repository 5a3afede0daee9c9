/-- the counts of what was told: nm names in all, at most a numbers -/
def HI (f : Nat → Int32) (nm a : Int) : Prop := 0 ≤ (f 0).toInt ∧ (f 0).toInt ≤ 8 ∧ 0 ≤ (f 1).toInt ∧ (f 1).toInt ≤ 4 ∧ 0 ≤ (f 2).toInt ∧ (f 2).toInt ≤ 12 ∧ 0 ≤ (f 3).toInt ∧ (f 3).toInt ≤ 80 ∧ 0 ≤ (f 4).toInt ∧ (f 4).toInt ≤ a ∧ nm = (f 0).toInt + (f 1).toInt + (f 2).toInt
theorem HI_mono {f : Nat → Int32} {nm a a' : Int} (h : HI f nm a) (ha : a ≤ a') : HI f nm a' := by
  obtain ⟨h1, h2, h3, h4, h5, h6, h7, h8, h9, h10, h11⟩ := h
  exact ⟨h1, h2, h3, h4, h5, h6, h7, h8, h9, by omega, h11⟩

theorem dX12_statement_0 : decode cX12_statement 0 = .ok (.aload_n 0, 1) := by decide +kernel
theorem dX12_statement_1 : decode cX12_statement 1 = .ok (.getfield 197, 3) := by decide +kernel
theorem dX12_statement_4 : decode cX12_statement 4 = .ok (.istore_n 1, 1) := by decide +kernel
theorem dX12_statement_5 : decode cX12_statement 5 = .ok (.aload_n 0, 1) := by decide +kernel
theorem dX12_statement_6 : decode cX12_statement 6 = .ok (.getfield 60, 3) := by decide +kernel
theorem dX12_statement_9 : decode cX12_statement 9 = .ok (.iconst 3, 1) := by decide +kernel
theorem dX12_statement_10 : decode cX12_statement 10 = .ok (.iaload, 1) := by decide +kernel
theorem dX12_statement_11 : decode cX12_statement 11 = .ok (.bipush 80, 2) := by decide +kernel
theorem dX12_statement_13 : decode cX12_statement 13 = .ok (.if_icmp .ne 10, 3) := by decide +kernel
theorem dX12_statement_16 : decode cX12_statement 16 = .ok (.aload_n 0, 1) := by decide +kernel
theorem dX12_statement_17 : decode cX12_statement 17 = .ok (.iconst 5, 1) := by decide +kernel
theorem dX12_statement_18 : decode cX12_statement 18 = .ok (.iload_n 1, 1) := by decide +kernel
theorem dX12_statement_19 : decode cX12_statement 19 = .ok (.invokevirtual 221, 3) := by decide +kernel
theorem dX12_statement_22 : decode cX12_statement 22 = .ok (.return_, 1) := by decide +kernel
theorem dX12_statement_23 : decode cX12_statement 23 = .ok (.aload_n 0, 1) := by decide +kernel
theorem dX12_statement_24 : decode cX12_statement 24 = .ok (.getfield 60, 3) := by decide +kernel
theorem dX12_statement_27 : decode cX12_statement 27 = .ok (.iconst 3, 1) := by decide +kernel
theorem dX12_statement_28 : decode cX12_statement 28 = .ok (.dup2, 1) := by decide +kernel
theorem dX12_statement_29 : decode cX12_statement 29 = .ok (.iaload, 1) := by decide +kernel
theorem dX12_statement_30 : decode cX12_statement 30 = .ok (.iconst 1, 1) := by decide +kernel
theorem dX12_statement_31 : decode cX12_statement 31 = .ok (.iadd, 1) := by decide +kernel
theorem dX12_statement_32 : decode cX12_statement 32 = .ok (.iastore, 1) := by decide +kernel
theorem dX12_statement_33 : decode cX12_statement 33 = .ok (.aload_n 0, 1) := by decide +kernel
theorem dX12_statement_34 : decode cX12_statement 34 = .ok (.iconst 0, 1) := by decide +kernel
theorem dX12_statement_35 : decode cX12_statement 35 = .ok (.putfield 263, 3) := by decide +kernel
theorem dX12_statement_38 : decode cX12_statement 38 = .ok (.aload_n 0, 1) := by decide +kernel
theorem dX12_statement_39 : decode cX12_statement 39 = .ok (.iconst 0, 1) := by decide +kernel
theorem dX12_statement_40 : decode cX12_statement 40 = .ok (.putfield 270, 3) := by decide +kernel
theorem dX12_statement_43 : decode cX12_statement 43 = .ok (.aload_n 0, 1) := by decide +kernel
theorem dX12_statement_44 : decode cX12_statement 44 = .ok (.aload_n 0, 1) := by decide +kernel
theorem dX12_statement_45 : decode cX12_statement 45 = .ok (.getfield 17, 3) := by decide +kernel
theorem dX12_statement_48 : decode cX12_statement 48 = .ok (.invokevirtual 214, 3) := by decide +kernel
theorem dX12_statement_51 : decode cX12_statement 51 = .ok (.ifCond .eq 55, 3) := by decide +kernel
theorem dX12_statement_54 : decode cX12_statement 54 = .ok (.aload_n 0, 1) := by decide +kernel
theorem dX12_statement_55 : decode cX12_statement 55 = .ok (.iconst 0, 1) := by decide +kernel
theorem dX12_statement_56 : decode cX12_statement 56 = .ok (.bipush 8, 2) := by decide +kernel
theorem dX12_statement_58 : decode cX12_statement 58 = .ok (.iload_n 1, 1) := by decide +kernel
theorem dX12_statement_59 : decode cX12_statement 59 = .ok (.invokevirtual 341, 3) := by decide +kernel
theorem dX12_statement_62 : decode cX12_statement 62 = .ok (.aload_n 0, 1) := by decide +kernel
theorem dX12_statement_63 : decode cX12_statement 63 = .ok (.aload_n 0, 1) := by decide +kernel
theorem dX12_statement_64 : decode cX12_statement 64 = .ok (.getfield 17, 3) := by decide +kernel
theorem dX12_statement_67 : decode cX12_statement 67 = .ok (.invokevirtual 282, 3) := by decide +kernel
theorem dX12_statement_70 : decode cX12_statement 70 = .ok (.aload_n 0, 1) := by decide +kernel
theorem dX12_statement_71 : decode cX12_statement 71 = .ok (.getfield 191, 3) := by decide +kernel
theorem dX12_statement_74 : decode cX12_statement 74 = .ok (.ifCond .ne 13, 3) := by decide +kernel
theorem dX12_statement_77 : decode cX12_statement 77 = .ok (.aload_n 0, 1) := by decide +kernel
theorem dX12_statement_78 : decode cX12_statement 78 = .ok (.aload_n 0, 1) := by decide +kernel
theorem dX12_statement_79 : decode cX12_statement 79 = .ok (.getfield 60, 3) := by decide +kernel
theorem dX12_statement_82 : decode cX12_statement 82 = .ok (.iconst 0, 1) := by decide +kernel
theorem dX12_statement_83 : decode cX12_statement 83 = .ok (.iaload, 1) := by decide +kernel
theorem dX12_statement_84 : decode cX12_statement 84 = .ok (.invokevirtual 345, 3) := by decide +kernel
theorem dX12_statement_87 : decode cX12_statement 87 = .ok (.aload_n 0, 1) := by decide +kernel
theorem dX12_statement_88 : decode cX12_statement 88 = .ok (.bipush 59, 2) := by decide +kernel
theorem dX12_statement_90 : decode cX12_statement 90 = .ok (.invokevirtual 286, 3) := by decide +kernel
theorem dX12_statement_93 : decode cX12_statement 93 = .ok (.aload_n 0, 1) := by decide +kernel
theorem dX12_statement_94 : decode cX12_statement 94 = .ok (.getfield 60, 3) := by decide +kernel
theorem dX12_statement_97 : decode cX12_statement 97 = .ok (.iconst 0, 1) := by decide +kernel
theorem dX12_statement_98 : decode cX12_statement 98 = .ok (.dup2, 1) := by decide +kernel
theorem dX12_statement_99 : decode cX12_statement 99 = .ok (.iaload, 1) := by decide +kernel
theorem dX12_statement_100 : decode cX12_statement 100 = .ok (.iconst 1, 1) := by decide +kernel
theorem dX12_statement_101 : decode cX12_statement 101 = .ok (.iadd, 1) := by decide +kernel
theorem dX12_statement_102 : decode cX12_statement 102 = .ok (.iastore, 1) := by decide +kernel
theorem dX12_statement_103 : decode cX12_statement 103 = .ok (.goto 268, 3) := by decide +kernel
theorem dX12_statement_106 : decode cX12_statement 106 = .ok (.aload_n 0, 1) := by decide +kernel
theorem dX12_statement_107 : decode cX12_statement 107 = .ok (.aload_n 0, 1) := by decide +kernel
theorem dX12_statement_108 : decode cX12_statement 108 = .ok (.getfield 21, 3) := by decide +kernel
theorem dX12_statement_111 : decode cX12_statement 111 = .ok (.invokevirtual 214, 3) := by decide +kernel
theorem dX12_statement_114 : decode cX12_statement 114 = .ok (.ifCond .eq 98, 3) := by decide +kernel
theorem dX12_statement_117 : decode cX12_statement 117 = .ok (.aload_n 0, 1) := by decide +kernel
theorem dX12_statement_118 : decode cX12_statement 118 = .ok (.iconst 1, 1) := by decide +kernel
theorem dX12_statement_119 : decode cX12_statement 119 = .ok (.iconst 4, 1) := by decide +kernel
theorem dX12_statement_120 : decode cX12_statement 120 = .ok (.iload_n 1, 1) := by decide +kernel
theorem dX12_statement_121 : decode cX12_statement 121 = .ok (.invokevirtual 341, 3) := by decide +kernel
theorem dX12_statement_124 : decode cX12_statement 124 = .ok (.aload_n 0, 1) := by decide +kernel
theorem dX12_statement_125 : decode cX12_statement 125 = .ok (.aload_n 0, 1) := by decide +kernel
theorem dX12_statement_126 : decode cX12_statement 126 = .ok (.getfield 21, 3) := by decide +kernel
theorem dX12_statement_129 : decode cX12_statement 129 = .ok (.invokevirtual 282, 3) := by decide +kernel
theorem dX12_statement_132 : decode cX12_statement 132 = .ok (.aload_n 0, 1) := by decide +kernel
theorem dX12_statement_133 : decode cX12_statement 133 = .ok (.getfield 191, 3) := by decide +kernel
theorem dX12_statement_136 : decode cX12_statement 136 = .ok (.ifCond .ne 16, 3) := by decide +kernel
theorem dX12_statement_139 : decode cX12_statement 139 = .ok (.aload_n 0, 1) := by decide +kernel
theorem dX12_statement_140 : decode cX12_statement 140 = .ok (.bipush 20, 2) := by decide +kernel
theorem dX12_statement_142 : decode cX12_statement 142 = .ok (.aload_n 0, 1) := by decide +kernel
theorem dX12_statement_143 : decode cX12_statement 143 = .ok (.getfield 60, 3) := by decide +kernel
theorem dX12_statement_146 : decode cX12_statement 146 = .ok (.iconst 1, 1) := by decide +kernel
theorem dX12_statement_147 : decode cX12_statement 147 = .ok (.iaload, 1) := by decide +kernel
theorem dX12_statement_148 : decode cX12_statement 148 = .ok (.iadd, 1) := by decide +kernel
theorem dX12_statement_149 : decode cX12_statement 149 = .ok (.invokevirtual 345, 3) := by decide +kernel
theorem dX12_statement_152 : decode cX12_statement 152 = .ok (.aload_n 0, 1) := by decide +kernel
theorem dX12_statement_153 : decode cX12_statement 153 = .ok (.bipush 91, 2) := by decide +kernel
theorem dX12_statement_155 : decode cX12_statement 155 = .ok (.invokevirtual 286, 3) := by decide +kernel
theorem dX12_statement_158 : decode cX12_statement 158 = .ok (.aload_n 0, 1) := by decide +kernel
theorem dX12_statement_159 : decode cX12_statement 159 = .ok (.iconst 1, 1) := by decide +kernel
theorem dX12_statement_160 : decode cX12_statement 160 = .ok (.bipush 16, 2) := by decide +kernel
theorem dX12_statement_162 : decode cX12_statement 162 = .ok (.invokevirtual 292, 3) := by decide +kernel
theorem dX12_statement_165 : decode cX12_statement 165 = .ok (.istore_n 2, 1) := by decide +kernel
theorem dX12_statement_166 : decode cX12_statement 166 = .ok (.aload_n 0, 1) := by decide +kernel
theorem dX12_statement_167 : decode cX12_statement 167 = .ok (.bipush 93, 2) := by decide +kernel
theorem dX12_statement_169 : decode cX12_statement 169 = .ok (.invokevirtual 286, 3) := by decide +kernel
theorem dX12_statement_172 : decode cX12_statement 172 = .ok (.aload_n 0, 1) := by decide +kernel
theorem dX12_statement_173 : decode cX12_statement 173 = .ok (.bipush 59, 2) := by decide +kernel
theorem dX12_statement_175 : decode cX12_statement 175 = .ok (.invokevirtual 286, 3) := by decide +kernel
theorem dX12_statement_178 : decode cX12_statement 178 = .ok (.aload_n 0, 1) := by decide +kernel
theorem dX12_statement_179 : decode cX12_statement 179 = .ok (.getfield 191, 3) := by decide +kernel
theorem dX12_statement_182 : decode cX12_statement 182 = .ok (.ifCond .ne 17, 3) := by decide +kernel
theorem dX12_statement_185 : decode cX12_statement 185 = .ok (.aload_n 0, 1) := by decide +kernel
theorem dX12_statement_186 : decode cX12_statement 186 = .ok (.getfield 63, 3) := by decide +kernel
theorem dX12_statement_189 : decode cX12_statement 189 = .ok (.iconst 0, 1) := by decide +kernel
theorem dX12_statement_190 : decode cX12_statement 190 = .ok (.aload_n 0, 1) := by decide +kernel
theorem dX12_statement_191 : decode cX12_statement 191 = .ok (.getfield 60, 3) := by decide +kernel
theorem dX12_statement_194 : decode cX12_statement 194 = .ok (.iconst 1, 1) := by decide +kernel
theorem dX12_statement_195 : decode cX12_statement 195 = .ok (.iaload, 1) := by decide +kernel
theorem dX12_statement_196 : decode cX12_statement 196 = .ok (.iadd, 1) := by decide +kernel
theorem dX12_statement_197 : decode cX12_statement 197 = .ok (.iload_n 2, 1) := by decide +kernel
theorem dX12_statement_198 : decode cX12_statement 198 = .ok (.iastore, 1) := by decide +kernel
theorem dX12_statement_199 : decode cX12_statement 199 = .ok (.aload_n 0, 1) := by decide +kernel
theorem dX12_statement_200 : decode cX12_statement 200 = .ok (.getfield 60, 3) := by decide +kernel
theorem dX12_statement_203 : decode cX12_statement 203 = .ok (.iconst 1, 1) := by decide +kernel
theorem dX12_statement_204 : decode cX12_statement 204 = .ok (.dup2, 1) := by decide +kernel
theorem dX12_statement_205 : decode cX12_statement 205 = .ok (.iaload, 1) := by decide +kernel
theorem dX12_statement_206 : decode cX12_statement 206 = .ok (.iconst 1, 1) := by decide +kernel
theorem dX12_statement_207 : decode cX12_statement 207 = .ok (.iadd, 1) := by decide +kernel
theorem dX12_statement_208 : decode cX12_statement 208 = .ok (.iastore, 1) := by decide +kernel
theorem dX12_statement_209 : decode cX12_statement 209 = .ok (.goto 162, 3) := by decide +kernel
theorem dX12_statement_212 : decode cX12_statement 212 = .ok (.aload_n 0, 1) := by decide +kernel
theorem dX12_statement_213 : decode cX12_statement 213 = .ok (.aload_n 0, 1) := by decide +kernel
theorem dX12_statement_214 : decode cX12_statement 214 = .ok (.getfield 24, 3) := by decide +kernel
theorem dX12_statement_217 : decode cX12_statement 217 = .ok (.invokevirtual 214, 3) := by decide +kernel
theorem dX12_statement_220 : decode cX12_statement 220 = .ok (.ifCond .eq 58, 3) := by decide +kernel
theorem dX12_statement_223 : decode cX12_statement 223 = .ok (.aload_n 0, 1) := by decide +kernel
theorem dX12_statement_224 : decode cX12_statement 224 = .ok (.iconst 2, 1) := by decide +kernel
theorem dX12_statement_225 : decode cX12_statement 225 = .ok (.bipush 12, 2) := by decide +kernel
theorem dX12_statement_227 : decode cX12_statement 227 = .ok (.iload_n 1, 1) := by decide +kernel
theorem dX12_statement_228 : decode cX12_statement 228 = .ok (.invokevirtual 341, 3) := by decide +kernel
theorem dX12_statement_231 : decode cX12_statement 231 = .ok (.aload_n 0, 1) := by decide +kernel
theorem dX12_statement_232 : decode cX12_statement 232 = .ok (.aload_n 0, 1) := by decide +kernel
theorem dX12_statement_233 : decode cX12_statement 233 = .ok (.getfield 24, 3) := by decide +kernel
theorem dX12_statement_236 : decode cX12_statement 236 = .ok (.invokevirtual 282, 3) := by decide +kernel
theorem dX12_statement_239 : decode cX12_statement 239 = .ok (.aload_n 0, 1) := by decide +kernel
theorem dX12_statement_240 : decode cX12_statement 240 = .ok (.getfield 191, 3) := by decide +kernel
theorem dX12_statement_243 : decode cX12_statement 243 = .ok (.ifCond .ne 16, 3) := by decide +kernel
theorem dX12_statement_246 : decode cX12_statement 246 = .ok (.aload_n 0, 1) := by decide +kernel
theorem dX12_statement_247 : decode cX12_statement 247 = .ok (.bipush 8, 2) := by decide +kernel
theorem dX12_statement_249 : decode cX12_statement 249 = .ok (.aload_n 0, 1) := by decide +kernel
theorem dX12_statement_250 : decode cX12_statement 250 = .ok (.getfield 60, 3) := by decide +kernel
theorem dX12_statement_253 : decode cX12_statement 253 = .ok (.iconst 2, 1) := by decide +kernel
theorem dX12_statement_254 : decode cX12_statement 254 = .ok (.iaload, 1) := by decide +kernel
theorem dX12_statement_255 : decode cX12_statement 255 = .ok (.iadd, 1) := by decide +kernel
theorem dX12_statement_256 : decode cX12_statement 256 = .ok (.invokevirtual 345, 3) := by decide +kernel
theorem dX12_statement_259 : decode cX12_statement 259 = .ok (.aload_n 0, 1) := by decide +kernel
theorem dX12_statement_260 : decode cX12_statement 260 = .ok (.bipush 59, 2) := by decide +kernel
theorem dX12_statement_262 : decode cX12_statement 262 = .ok (.invokevirtual 286, 3) := by decide +kernel
theorem dX12_statement_265 : decode cX12_statement 265 = .ok (.aload_n 0, 1) := by decide +kernel
theorem dX12_statement_266 : decode cX12_statement 266 = .ok (.getfield 60, 3) := by decide +kernel
theorem dX12_statement_269 : decode cX12_statement 269 = .ok (.iconst 2, 1) := by decide +kernel
theorem dX12_statement_270 : decode cX12_statement 270 = .ok (.dup2, 1) := by decide +kernel
theorem dX12_statement_271 : decode cX12_statement 271 = .ok (.iaload, 1) := by decide +kernel
theorem dX12_statement_272 : decode cX12_statement 272 = .ok (.iconst 1, 1) := by decide +kernel
theorem dX12_statement_273 : decode cX12_statement 273 = .ok (.iadd, 1) := by decide +kernel
theorem dX12_statement_274 : decode cX12_statement 274 = .ok (.iastore, 1) := by decide +kernel
theorem dX12_statement_275 : decode cX12_statement 275 = .ok (.goto 96, 3) := by decide +kernel
theorem dX12_statement_278 : decode cX12_statement 278 = .ok (.aload_n 0, 1) := by decide +kernel
theorem dX12_statement_279 : decode cX12_statement 279 = .ok (.aload_n 0, 1) := by decide +kernel
theorem dX12_statement_280 : decode cX12_statement 280 = .ok (.getfield 27, 3) := by decide +kernel
theorem dX12_statement_283 : decode cX12_statement 283 = .ok (.invokevirtual 218, 3) := by decide +kernel
theorem dX12_statement_286 : decode cX12_statement 286 = .ok (.ifCond .eq 10, 3) := by decide +kernel
theorem dX12_statement_289 : decode cX12_statement 289 = .ok (.aload_n 0, 1) := by decide +kernel
theorem dX12_statement_290 : decode cX12_statement 290 = .ok (.invokevirtual 347, 3) := by decide +kernel
theorem dX12_statement_293 : decode cX12_statement 293 = .ok (.goto 78, 3) := by decide +kernel
theorem dX12_statement_296 : decode cX12_statement 296 = .ok (.aload_n 0, 1) := by decide +kernel
theorem dX12_statement_297 : decode cX12_statement 297 = .ok (.aload_n 0, 1) := by decide +kernel
theorem dX12_statement_298 : decode cX12_statement 298 = .ok (.getfield 30, 3) := by decide +kernel
theorem dX12_statement_301 : decode cX12_statement 301 = .ok (.invokevirtual 218, 3) := by decide +kernel
theorem dX12_statement_304 : decode cX12_statement 304 = .ok (.ifCond .eq 23, 3) := by decide +kernel
theorem dX12_statement_307 : decode cX12_statement 307 = .ok (.aload_n 0, 1) := by decide +kernel
theorem dX12_statement_308 : decode cX12_statement 308 = .ok (.invokevirtual 317, 3) := by decide +kernel
theorem dX12_statement_311 : decode cX12_statement 311 = .ok (.aload_n 0, 1) := by decide +kernel
theorem dX12_statement_312 : decode cX12_statement 312 = .ok (.sipush 500, 3) := by decide +kernel
theorem dX12_statement_315 : decode cX12_statement 315 = .ok (.invokevirtual 266, 3) := by decide +kernel
theorem dX12_statement_318 : decode cX12_statement 318 = .ok (.aload_n 0, 1) := by decide +kernel
theorem dX12_statement_319 : decode cX12_statement 319 = .ok (.bipush 59, 2) := by decide +kernel
theorem dX12_statement_321 : decode cX12_statement 321 = .ok (.invokevirtual 286, 3) := by decide +kernel
theorem dX12_statement_324 : decode cX12_statement 324 = .ok (.goto 47, 3) := by decide +kernel
theorem dX12_statement_327 : decode cX12_statement 327 = .ok (.aload_n 0, 1) := by decide +kernel
theorem dX12_statement_328 : decode cX12_statement 328 = .ok (.aload_n 0, 1) := by decide +kernel
theorem dX12_statement_329 : decode cX12_statement 329 = .ok (.getfield 33, 3) := by decide +kernel
theorem dX12_statement_332 : decode cX12_statement 332 = .ok (.invokevirtual 218, 3) := by decide +kernel
theorem dX12_statement_335 : decode cX12_statement 335 = .ok (.ifCond .eq 11, 3) := by decide +kernel
theorem dX12_statement_338 : decode cX12_statement 338 = .ok (.aload_n 0, 1) := by decide +kernel
theorem dX12_statement_339 : decode cX12_statement 339 = .ok (.iconst 0, 1) := by decide +kernel
theorem dX12_statement_340 : decode cX12_statement 340 = .ok (.invokevirtual 350, 3) := by decide +kernel
theorem dX12_statement_343 : decode cX12_statement 343 = .ok (.goto 28, 3) := by decide +kernel
theorem dX12_statement_346 : decode cX12_statement 346 = .ok (.aload_n 0, 1) := by decide +kernel
theorem dX12_statement_347 : decode cX12_statement 347 = .ok (.aload_n 0, 1) := by decide +kernel
theorem dX12_statement_348 : decode cX12_statement 348 = .ok (.getfield 39, 3) := by decide +kernel
theorem dX12_statement_351 : decode cX12_statement 351 = .ok (.invokevirtual 218, 3) := by decide +kernel
theorem dX12_statement_354 : decode cX12_statement 354 = .ok (.ifCond .eq 11, 3) := by decide +kernel
theorem dX12_statement_357 : decode cX12_statement 357 = .ok (.aload_n 0, 1) := by decide +kernel
theorem dX12_statement_358 : decode cX12_statement 358 = .ok (.iconst 2, 1) := by decide +kernel
theorem dX12_statement_359 : decode cX12_statement 359 = .ok (.invokevirtual 350, 3) := by decide +kernel
theorem dX12_statement_362 : decode cX12_statement 362 = .ok (.goto 9, 3) := by decide +kernel
theorem dX12_statement_365 : decode cX12_statement 365 = .ok (.aload_n 0, 1) := by decide +kernel
theorem dX12_statement_366 : decode cX12_statement 366 = .ok (.iconst 1, 1) := by decide +kernel
theorem dX12_statement_367 : decode cX12_statement 367 = .ok (.iload_n 1, 1) := by decide +kernel
theorem dX12_statement_368 : decode cX12_statement 368 = .ok (.invokevirtual 221, 3) := by decide +kernel
theorem dX12_statement_371 : decode cX12_statement 371 = .ok (.return_, 1) := by decide +kernel
def v_q_statement : List Cond := .code yX12_statement cX12_statement 3 none :: ([.fieldLink RX12 197 "SlopeRunnerModel" "at" "I", .fieldLink RX12 60 "SlopeRunnerModel" "has" "[I", .fieldLink RX12 263 "SlopeRunnerModel" "waits" "I", .fieldLink RX12 270 "SlopeRunnerModel" "base" "I", .fieldLink RX12 17 "SlopeRunnerModel" "inputWord" "[C", .fieldLink RX12 21 "SlopeRunnerModel" "rowWord" "[C", .fieldLink RX12 24 "SlopeRunnerModel" "varWord" "[C", .fieldLink RX12 27 "SlopeRunnerModel" "setWord" "[C", .fieldLink RX12 30 "SlopeRunnerModel" "giveWord" "[C", .fieldLink RX12 33 "SlopeRunnerModel" "ifWord" "[C", .fieldLink RX12 39 "SlopeRunnerModel" "whileWord" "[C", .fieldLink RX12 191 "SlopeRunnerModel" "bad" "I", .fieldLink RX12 63 "SlopeRunnerModel" "sizeOf" "[I"] ++ ((wsV RX12 214 RX12 yX12_isHere v_q_isHere) ++ ((wsV RX12 218 RX12 yX12_takes v_q_takes) ++ ((wsV RX12 221 RX12 yX12_fail v_q_fail) ++ ((wsV RX12 350 RX12 yX12_testBlock v_q_testBlock) ++ ((wsV RX12 317 RX12 yX12_sums v_q_sums) ++ ((wsV RX12 266 RX12 yX12_code v_q_code) ++ ((wsV RX12 286 RX12 yX12_asksSign v_q_asksSign) ++ ((wsV RX12 347 RX12 yX12_setStatement v_q_setStatement) ++ ((wsV RX12 341 RX12 yX12_tells v_q_tells) ++ ((wsV RX12 282 RX12 yX12_asks v_q_asks) ++ ((wsV RX12 345 RX12 yX12_names v_q_names) ++ ((wsV RX12 292 RX12 yX12_number v_q_number) ++ wsX120)))))))))))))
theorem g_q_statement_0 : GoodIn v_q_statement (wsV RX12 214 RX12 yX12_isHere v_q_isHere) := goodIn_sub (fun w h => List.mem_cons_of_mem _ (List.mem_append_right _ (List.mem_append_left _ h))) (by decide +kernel)
theorem g_q_statement_1 : GoodIn v_q_statement (wsV RX12 218 RX12 yX12_takes v_q_takes) := goodIn_sub (fun w h => List.mem_cons_of_mem _ (List.mem_append_right _ (List.mem_append_right _ (List.mem_append_left _ h)))) (by decide +kernel)
theorem g_q_statement_2 : GoodIn v_q_statement (wsV RX12 221 RX12 yX12_fail v_q_fail) := goodIn_sub (fun w h => List.mem_cons_of_mem _ (List.mem_append_right _ (List.mem_append_right _ (List.mem_append_right _ (List.mem_append_left _ h))))) (by decide +kernel)
theorem g_q_statement_3 : GoodIn v_q_statement (wsV RX12 350 RX12 yX12_testBlock v_q_testBlock) := goodIn_sub (fun w h => List.mem_cons_of_mem _ (List.mem_append_right _ (List.mem_append_right _ (List.mem_append_right _ (List.mem_append_right _ (List.mem_append_left _ h)))))) (by decide +kernel)
theorem g_q_statement_4 : GoodIn v_q_statement (wsV RX12 317 RX12 yX12_sums v_q_sums) := goodIn_sub (fun w h => List.mem_cons_of_mem _ (List.mem_append_right _ (List.mem_append_right _ (List.mem_append_right _ (List.mem_append_right _ (List.mem_append_right _ (List.mem_append_left _ h))))))) (by decide +kernel)
theorem g_q_statement_5 : GoodIn v_q_statement (wsV RX12 266 RX12 yX12_code v_q_code) := goodIn_sub (fun w h => List.mem_cons_of_mem _ (List.mem_append_right _ (List.mem_append_right _ (List.mem_append_right _ (List.mem_append_right _ (List.mem_append_right _ (List.mem_append_right _ (List.mem_append_left _ h)))))))) (by decide +kernel)
theorem g_q_statement_6 : GoodIn v_q_statement (wsV RX12 286 RX12 yX12_asksSign v_q_asksSign) := goodIn_sub (fun w h => List.mem_cons_of_mem _ (List.mem_append_right _ (List.mem_append_right _ (List.mem_append_right _ (List.mem_append_right _ (List.mem_append_right _ (List.mem_append_right _ (List.mem_append_right _ (List.mem_append_left _ h))))))))) (by decide +kernel)
theorem g_q_statement_7 : GoodIn v_q_statement (wsV RX12 347 RX12 yX12_setStatement v_q_setStatement) := goodIn_sub (fun w h => List.mem_cons_of_mem _ (List.mem_append_right _ (List.mem_append_right _ (List.mem_append_right _ (List.mem_append_right _ (List.mem_append_right _ (List.mem_append_right _ (List.mem_append_right _ (List.mem_append_right _ (List.mem_append_left _ h)))))))))) (by decide +kernel)
theorem g_q_statement_8 : GoodIn v_q_statement (wsV RX12 341 RX12 yX12_tells v_q_tells) := goodIn_sub (fun w h => List.mem_cons_of_mem _ (List.mem_append_right _ (List.mem_append_right _ (List.mem_append_right _ (List.mem_append_right _ (List.mem_append_right _ (List.mem_append_right _ (List.mem_append_right _ (List.mem_append_right _ (List.mem_append_right _ (List.mem_append_left _ h))))))))))) (by decide +kernel)
theorem g_q_statement_9 : GoodIn v_q_statement (wsV RX12 282 RX12 yX12_asks v_q_asks) := goodIn_sub (fun w h => List.mem_cons_of_mem _ (List.mem_append_right _ (List.mem_append_right _ (List.mem_append_right _ (List.mem_append_right _ (List.mem_append_right _ (List.mem_append_right _ (List.mem_append_right _ (List.mem_append_right _ (List.mem_append_right _ (List.mem_append_right _ (List.mem_append_left _ h)))))))))))) (by decide +kernel)
theorem g_q_statement_10 : GoodIn v_q_statement (wsV RX12 345 RX12 yX12_names v_q_names) := goodIn_sub (fun w h => List.mem_cons_of_mem _ (List.mem_append_right _ (List.mem_append_right _ (List.mem_append_right _ (List.mem_append_right _ (List.mem_append_right _ (List.mem_append_right _ (List.mem_append_right _ (List.mem_append_right _ (List.mem_append_right _ (List.mem_append_right _ (List.mem_append_right _ (List.mem_append_left _ h))))))))))))) (by decide +kernel)
theorem g_q_statement_11 : GoodIn v_q_statement (wsV RX12 292 RX12 yX12_number v_q_number) := goodIn_sub (fun w h => List.mem_cons_of_mem _ (List.mem_append_right _ (List.mem_append_right _ (List.mem_append_right _ (List.mem_append_right _ (List.mem_append_right _ (List.mem_append_right _ (List.mem_append_right _ (List.mem_append_right _ (List.mem_append_right _ (List.mem_append_right _ (List.mem_append_right _ (List.mem_append_right _ (List.mem_append_left _ h)))))))))))))) (by decide +kernel)
set_option maxHeartbeats 4000000 in
set_option maxRecDepth 100000 in
theorem q_statement (l : Launch) (D : va_G) (y : Nat → ClassId) (sz : Nat) (ad : Nat → Nat) (zw : Nat → Nat → Int32) (σ : OS) (ha0 : 0 ≤ (σ.1 2).toInt) (ha1 : (σ.1 2).toInt ≤ (σ.1 3).toInt) (ha2 : (σ.1 3).toInt ≤ 700) (hb0 : (σ.1 5).toInt = 0) (hhi : HI (σ.2.2.1 24) (σ.1 33).toInt (σ.1 2).toInt) (hbo : (σ.1 39).toInt = (σ.1 32).toInt) (hbl0 : 0 ≤ (σ.1 39).toInt) (ho1 : (σ.1 32).toInt ≤ 8) (hc0 : 0 ≤ (σ.1 29).toInt) (hcb : (σ.1 29).toInt + (σ.1 39).toInt ≤ (σ.1 2).toInt) (hpe : PE (σ.2.2.1 27) (σ.1 29).toInt.toNat (σ.2.2.1 24 4).toInt (σ.1 39).toInt.toNat (σ.2.2.1 36) (σ.2.2.1 37) (σ.2.2.1 38) [] true none)  (hB35 : bI (σ.2.2.1 35) 0 23) (hB26 : bI (σ.2.2.1 26) 0 9999) (hB25 : bI (σ.2.2.1 25) 0 16) : Met l yX12_statement v_q_statement ({ frames := 11, cells := 0, slots := 0, locals := 241 } : Room) (va_Pc [.ref (ad 1)] (xPre D (xT y) (mwd y ad zw σ) sz)) (va_Qv (fun (u : Int32 × Int32 × Int32 × Int32 × Int32 × Int32 × (Nat → Int32) × Int32 × (Nat → Int32) × Int32 × (Nat → Int32) × (Nat → Int32) × Int32 × (Nat → Int32) × Int32 × (Nat → Int64) × (Nat → Int32) × (Nat → Int32) × (Nat → Int32) × (Nat → Int32) × Int32 × (Nat → Int32)) => ((σ.1 2).toInt ≤ u.1.toInt ∧ u.1.toInt ≤ (σ.1 3).toInt ∧ (∀ q : Nat, 5 ≤ q → u.2.2.2.2.2.2.2.2.2.2.1 q = σ.2.2.1 24 q) ∧ (u.2.2.1.toInt = 0 → (σ.1 2).toInt + 1 ≤ u.1.toInt ∧ HI u.2.2.2.2.2.2.2.2.2.2.1 u.2.2.2.2.2.2.2.2.2.2.2.2.2.2.1.toInt u.1.toInt ∧ u.2.2.2.2.2.2.2.1.toInt = u.2.2.2.2.2.2.2.2.2.2.2.2.2.2.2.2.2.2.2.2.1.toInt ∧ 0 ≤ u.2.2.2.2.2.2.2.2.2.2.2.2.2.2.2.2.2.2.2.2.1.toInt ∧ u.2.2.2.2.2.2.2.2.2.2.2.2.2.2.2.2.2.2.2.2.1.toInt ≤ 8 ∧ 0 ≤ u.2.2.2.2.2.1.toInt ∧ u.2.2.2.2.2.1.toInt + u.2.2.2.2.2.2.2.2.2.2.2.2.2.2.2.2.2.2.2.2.1.toInt ≤ u.1.toInt ∧ PE u.2.2.2.2.2.2.1 u.2.2.2.2.2.1.toInt.toNat (u.2.2.2.2.2.2.2.2.2.2.1 4).toInt u.2.2.2.2.2.2.2.2.2.2.2.2.2.2.2.2.2.2.2.2.1.toInt.toNat u.2.2.2.2.2.2.2.2.2.2.2.2.2.2.2.2.2.1 u.2.2.2.2.2.2.2.2.2.2.2.2.2.2.2.2.2.2.1 u.2.2.2.2.2.2.2.2.2.2.2.2.2.2.2.2.2.2.2.1 [] true none)) ∧ bI u.2.2.2.2.2.2.2.2.2.2.2.2.2.2.2.2.1 0 23 ∧ bI u.2.2.2.2.2.2.2.2.2.2.2.1 0 9999 ∧ bI u.2.2.2.2.2.2.2.2.2.2.2.2.2.2.2.2.2.2.2.2.2 0 16) (fun (u : Int32 × Int32 × Int32 × Int32 × Int32 × Int32 × (Nat → Int32) × Int32 × (Nat → Int32) × Int32 × (Nat → Int32) × (Nat → Int32) × Int32 × (Nat → Int32) × Int32 × (Nat → Int64) × (Nat → Int32) × (Nat → Int32) × (Nat → Int32) × (Nat → Int32) × Int32 × (Nat → Int32)) => xB D (xT y) (va_A (mwd y ad zw σ) sz) (mwd y ad zw (tI (sI (tI (tI (tI (tI (tJ (sI (tI (sI (tI (tI (sI (tI (sI (tI (sI (sI (sI (sI (sI (sI σ 2 u.1) 4 u.2.1) 5 u.2.2.1) 6 u.2.2.2.1) 23 u.2.2.2.2.1) 29 u.2.2.2.2.2.1) 27 u.2.2.2.2.2.2.1) 32 u.2.2.2.2.2.2.2.1) 30 u.2.2.2.2.2.2.2.2.1) 31 u.2.2.2.2.2.2.2.2.2.1) 24 u.2.2.2.2.2.2.2.2.2.2.1) 26 u.2.2.2.2.2.2.2.2.2.2.2.1) 40 u.2.2.2.2.2.2.2.2.2.2.2.2.1) 41 u.2.2.2.2.2.2.2.2.2.2.2.2.2.1) 33 u.2.2.2.2.2.2.2.2.2.2.2.2.2.2.1) 34 u.2.2.2.2.2.2.2.2.2.2.2.2.2.2.2.1) 35 u.2.2.2.2.2.2.2.2.2.2.2.2.2.2.2.2.1) 36 u.2.2.2.2.2.2.2.2.2.2.2.2.2.2.2.2.2.1) 37 u.2.2.2.2.2.2.2.2.2.2.2.2.2.2.2.2.2.2.1) 38 u.2.2.2.2.2.2.2.2.2.2.2.2.2.2.2.2.2.2.2.1) 39 u.2.2.2.2.2.2.2.2.2.2.2.2.2.2.2.2.2.2.2.2.1) 25 u.2.2.2.2.2.2.2.2.2.2.2.2.2.2.2.2.2.2.2.2.2))) (va_A (mwd y ad zw σ) sz)) 0 0 (va_A (mwd y ad zw σ) sz) := by
  refine x_metv (cc := cX12_statement) (maxL := 3) (by decide) rfl (Nat.le_of_ble_eq_true rfl) ?_
  intro p e s m below meth c A H locs Q hx hb hml hown hts hr hlocks hmn hA hP hK hD hS ls hl hQ
  have hl : lv_has ls 3 [(0, .ref (ad 1))] := hl
  have fl197 := hts (.fieldLink RX12 197 "SlopeRunnerModel" "at" "I") (List.mem_of_getElem? (i := 1) rfl)
  have inX12 : ∀ w ∈ wsX120, w ∈ v_q_statement := (fun w h => List.mem_cons_of_mem _ (List.mem_append_right _ (List.mem_append_right _ (List.mem_append_right _ (List.mem_append_right _ (List.mem_append_right _ (List.mem_append_right _ (List.mem_append_right _ (List.mem_append_right _ (List.mem_append_right _ (List.mem_append_right _ (List.mem_append_right _ (List.mem_append_right _ (List.mem_append_right _ h))))))))))))))
  have fl60 := hts (.fieldLink RX12 60 "SlopeRunnerModel" "has" "[I") (List.mem_of_getElem? (i := 2) rfl)
  have kk_80 : (80 : Int32).toInt = 80 := rfl
  have kk_1 : (1 : Int32).toInt = 1 := rfl
  have fl263 := hts (.fieldLink RX12 263 "SlopeRunnerModel" "waits" "I") (List.mem_of_getElem? (i := 3) rfl)
  have fl270 := hts (.fieldLink RX12 270 "SlopeRunnerModel" "base" "I") (List.mem_of_getElem? (i := 4) rfl)
  have fl17 := hts (.fieldLink RX12 17 "SlopeRunnerModel" "inputWord" "[C") (List.mem_of_getElem? (i := 5) rfl)
  have kk_0 : (0 : Int32).toInt = 0 := rfl
  have fl21 := hts (.fieldLink RX12 21 "SlopeRunnerModel" "rowWord" "[C") (List.mem_of_getElem? (i := 6) rfl)
  have fl24 := hts (.fieldLink RX12 24 "SlopeRunnerModel" "varWord" "[C") (List.mem_of_getElem? (i := 7) rfl)
  have fl27 := hts (.fieldLink RX12 27 "SlopeRunnerModel" "setWord" "[C") (List.mem_of_getElem? (i := 8) rfl)
  have fl30 := hts (.fieldLink RX12 30 "SlopeRunnerModel" "giveWord" "[C") (List.mem_of_getElem? (i := 9) rfl)
  have fl33 := hts (.fieldLink RX12 33 "SlopeRunnerModel" "ifWord" "[C") (List.mem_of_getElem? (i := 10) rfl)
  have fl39 := hts (.fieldLink RX12 39 "SlopeRunnerModel" "whileWord" "[C") (List.mem_of_getElem? (i := 11) rfl)
  have kk_2 : (2 : Int32).toInt = 2 := rfl
  have kk_500 : (500 : Int32).toInt = 500 := rfl
  have kk_59 : (59 : Int32).toInt = 59 := rfl
  have kk_12 : (12 : Int32).toInt = 12 := rfl
  have fl191 := hts (.fieldLink RX12 191 "SlopeRunnerModel" "bad" "I") (List.mem_of_getElem? (i := 12) rfl)
  have kk_8 : (8 : Int32).toInt = 8 := rfl
  have kk_4 : (4 : Int32).toInt = 4 := rfl
  have kk_91 : (91 : Int32).toInt = 91 := rfl
  have kk_16 : (16 : Int32).toInt = 16 := rfl
  have kk_93 : (93 : Int32).toInt = 93 := rfl
  have fl63 := hts (.fieldLink RX12 63 "SlopeRunnerModel" "sizeOf" "[I") (List.mem_of_getElem? (i := 13) rfl)
  have kk_20 : (20 : Int32).toInt = 20 := rfl
  have kk_5 : (5 : Int32).toInt = 5 := rfl
  obtain ⟨hz0, hz1, hz2, hz3, hz4, hz5, hz6, hz7, hz8, hz9, hz10⟩ := hhi
  refine lv_aload_n hx hb dX12_statement_0 rfl (lv_at hl 0 rfl) ?_
  refine va_get (D := D) (ci := 11) (v := .int (σ.1 2)) (C := RX12) (T := TX12) (N := 85) hx hb hts inX12 hown hK hP 0 mwd_o0 rfl 2 (by decide) fl197 (fun _ h9 => h9) rfl dX12_statement_1 ?_
  refine lv_istore_n (lv' := [(1, .int (σ.1 2)), (0, .ref (ad 1))]) hx hb dX12_statement_4 rfl hl (by decide) rfl (fun ls hl => ?_)
  refine lv_aload_n hx hb dX12_statement_5 rfl (lv_at hl 1 rfl) ?_
  refine va_get (D := D) (ci := 11) (v := .ref (ad 24)) (C := RX12) (T := TX12) (N := 85) hx hb hts inX12 hown hK hP 0 mwd_o0 rfl 24 (by decide) fl60 (fun _ h9 => h9) rfl dX12_statement_6 ?_
  refine lv_iconst (v := 3) hx hb dX12_statement_9 (by decide) ?_
  refine va_iald hx hb hK hP 16 2 mwd_a16 rfl (x_in (by decide) (by decide)) dX12_statement_10 ?_
  refine lv_topi (fun i_1 ei_1 => ?_)
  have ei_1 : i_1 = (σ.2.2.1 24) (Int32.toNatClampNeg 3) := ei_1
  have gi_1 : i_1.toInt = ((σ.2.2.1 24) 3).toInt := by rw [ei_1]; rfl
  refine lv_bipush (v := 80) hx hb dX12_statement_11 (by decide) ?_
  refine lv_icmp_ne (tgt := 23) hx hb dX12_statement_13 (by decide) (fun c_2 => ?_) (fun c_2 => ?_)
  · have kc_2 : i_1.toInt ≠ 80 := by have h9 := c_2; simp only [ge_iff_le, gt_iff_lt, x_lt, x_le, x_eq, ne_eq, Int32.not_lt, Int32.not_le] at h9; simp only [Int32.reduceToInt] at h9; omega
    refine lv_aload_n hx hb dX12_statement_23 rfl (lv_at hl 1 rfl) ?_
    refine va_get (D := D) (ci := 11) (v := .ref (ad 24)) (C := RX12) (T := TX12) (N := 85) hx hb hts inX12 hown hK hP 0 mwd_o0 rfl 24 (by decide) fl60 (fun _ h9 => h9) rfl dX12_statement_24 ?_
    refine lv_iconst (v := 3) hx hb dX12_statement_27 (by decide) ?_
    refine lv_dup2_11 hx hb dX12_statement_28 rfl rfl ?_
    refine va_iald hx hb hK hP 16 2 mwd_a16 rfl (x_in (by decide) (by decide)) dX12_statement_29 ?_
    refine lv_topi (fun i_3 ei_3 => ?_)
    have ei_3 : i_3 = (σ.2.2.1 24) (Int32.toNatClampNeg 3) := ei_3
    have gi_3 : i_3.toInt = ((σ.2.2.1 24) 3).toInt := by rw [ei_3]; rfl
    refine lv_iconst (v := 1) hx hb dX12_statement_30 (by decide) ?_
    refine lv_iadd hx hb dX12_statement_31 ?_
    refine lv_topi (fun i_4 ei_4 => ?_)
    have vi_4 : i_4.toInt = i_3.toInt + 1 := by have h9 := x_add ei_4 (by omega) (by omega); omega
    refine va_iast hx hb hK hP hD hS 16 2 mwd_a16 rfl (x_in (by decide) (by decide)) dX12_statement_32 (fun H locs hP hD hS => ?_)
    obtain ⟨f_5, ef_5⟩ : ∃ z9 : Nat → Int32, z9 = (upd (σ.2.2.1 24) (Int32.toNatClampNeg 3) i_4) := ⟨_, rfl⟩
    have hP : va_P D vwCl (mwd y ad zw (tI σ 24 f_5)) H := by rw [ef_5]; exact x_trP hP mwd_s16
    have hD : va_D A (mwd y ad zw (tI σ 24 f_5)) := by rw [ef_5]; exact x_trD hD mwd_s16
    have s0f_5 : (f_5 0).toInt = ((σ.2.2.1 24) 0).toInt := by rw [ef_5]; exact congrArg Int32.toInt (x_upd_ne _ _ (show 0 ≠ 3 by decide))
    have s1f_5 : (f_5 1).toInt = ((σ.2.2.1 24) 1).toInt := by rw [ef_5]; exact congrArg Int32.toInt (x_upd_ne _ _ (show 1 ≠ 3 by decide))
    have s2f_5 : (f_5 2).toInt = ((σ.2.2.1 24) 2).toInt := by rw [ef_5]; exact congrArg Int32.toInt (x_upd_ne _ _ (show 2 ≠ 3 by decide))
    have s3f_5 : (f_5 3).toInt = i_4.toInt := by rw [ef_5]; exact congrArg Int32.toInt (x_upd_same _ 3 _)
    have s4f_5 : (f_5 4).toInt = ((σ.2.2.1 24) 4).toInt := by rw [ef_5]; exact congrArg Int32.toInt (x_upd_ne _ _ (show 4 ≠ 3 by decide))
    have hff_5 : ∀ q : Nat, 5 ≤ q → f_5 q = σ.2.2.1 24 q := fun q h9 => by rw [ef_5]; exact (x_upd_ne _ _ (show q ≠ 3 by omega)).trans ((fun _ _ => rfl : ∀ q : Nat, 5 ≤ q → σ.2.2.1 24 q = σ.2.2.1 24 q) q h9)
    refine lv_aload_n hx hb dX12_statement_33 rfl (lv_at hl 1 rfl) ?_
    refine lv_iconst (v := 0) hx hb dX12_statement_34 (by decide) ?_
    refine va_put (D := D) (ci := 11) (v := .int 0) (ty := .int) (C := RX12) (T := TX12) (N := 85) hx hb hts inX12 tyX12 tyX12_ok nmX12 hown hK hP hD hS 0 mwd_o0 rfl 31 (by decide) fl263 (fun _ h9 => h9) rfl (by decide +kernel) rfl rfl (Nat.le_of_ble_eq_true rfl) dX12_statement_35 (fun H locs hP hD hS => ?_)
    have hP : va_P D vwCl (mwd y ad zw (sI (tI σ 24 f_5) 31 0)) H := x_trP hP mwd_p0_31
    have hD : va_D A (mwd y ad zw (sI (tI σ 24 f_5) 31 0)) := x_trD hD mwd_p0_31
    refine lv_aload_n hx hb dX12_statement_38 rfl (lv_at hl 1 rfl) ?_
    refine lv_iconst (v := 0) hx hb dX12_statement_39 (by decide) ?_
    refine va_put (D := D) (ci := 11) (v := .int 0) (ty := .int) (C := RX12) (T := TX12) (N := 85) hx hb hts inX12 tyX12 tyX12_ok nmX12 hown hK hP hD hS 0 mwd_o0 rfl 40 (by decide) fl270 (fun _ h9 => h9) rfl (by decide +kernel) rfl rfl (Nat.le_of_ble_eq_true rfl) dX12_statement_40 (fun H locs hP hD hS => ?_)
    have hP : va_P D vwCl (mwd y ad zw (sI (sI (tI σ 24 f_5) 31 0) 40 0)) H := x_trP hP mwd_p0_40
    have hD : va_D A (mwd y ad zw (sI (sI (tI σ 24 f_5) 31 0) 40 0)) := x_trD hD mwd_p0_40
    refine lv_aload_n hx hb dX12_statement_43 rfl (lv_at hl 1 rfl) ?_
    refine lv_aload_n hx hb dX12_statement_44 rfl (lv_at hl 1 rfl) ?_
    refine va_get (D := D) (ci := 11) (v := .ref (ad 9)) (C := RX12) (T := TX12) (N := 85) hx hb hts inX12 hown hK hP 0 mwd_o0 rfl 9 (by decide) fl17 (fun _ h9 => h9) rfl dX12_statement_45 ?_
    refine x_calliW (va_runV (As := [.ref (ad 9)]) (rest := []) ⟨hx, hb, hml, hown, hts⟩ (q_isHere l D y H.size ad zw (sI (sI (tI σ 24 f_5) 31 0) 40 0) (ad 9) 5 2 (zw 9) (fun _ => rfl) (by decide) (by decide) (show 0 ≤ ((σ.1 2)).toInt from by first | omega | decide) (show ((σ.1 2)).toInt ≤ ((σ.1 3)).toInt from by first | omega | decide) (show ((σ.1 3)).toInt ≤ 700 from by first | omega | decide)) (cwV 1 hts g_q_statement_0 rfl rfl rfl (by decide +kernel) ⟨Nat.le_of_ble_eq_true rfl, Nat.le_of_ble_eq_true rfl⟩) (x_preV (q := (RX12, TX12, 85)) hK hP hD (ci := 11) (q0 := 0) rfl mwd_o0) rfl rfl hl.1 rfl (lv_room (Nat.le_of_ble_eq_true rfl)) dX12_statement_48 ⟨Nat.le_of_ble_eq_true rfl, Nat.le_of_ble_eq_true rfl⟩) hP hD hS hA (fun r_6 u H locs hw hP hD hS => ?_)
    obtain ⟨n_7, rfl⟩ : ∃ z9, z9 = u := ⟨_, rfl⟩
    try dsimp only at hw
    have hP : va_P D vwCl (mwd y ad zw (sI (sI (sI (tI σ 24 f_5) 31 0) 40 0) 2 n_7)) H := hP
    have hD : va_D A (mwd y ad zw (sI (sI (sI (tI σ 24 f_5) 31 0) 40 0) 2 n_7)) := hD
    replace hw : ((σ.1 2)).toInt ≤ n_7.toInt ∧ n_7.toInt ≤ ((σ.1 3)).toInt ∧ (r_6.toInt = 0 ∨ (r_6.toInt = 1 ∧ ((σ.1 5)).toInt = 0 ∧ n_7.toInt + 5 ≤ ((σ.1 3)).toInt)) := hw
    have hih51 := hw.2.2
    replace hw := And.intro hw.1 hw.2.1
    have hiw51 := hw
    clear hih51
    refine lv_if_eq (tgt := 106) hx hb dX12_statement_51 (by decide) (fun c_8 => ?_) (fun c_8 => ?_)
    · have kc_8 : r_6.toInt = 0 := by have h9 := c_8; simp only [ge_iff_le, gt_iff_lt, x_lt, x_le, x_eq, ne_eq, Int32.not_lt, Int32.not_le] at h9; simp only [Int32.reduceToInt] at h9; omega
      refine lv_aload_n hx hb dX12_statement_106 rfl (lv_at hl 1 rfl) ?_
      refine lv_aload_n hx hb dX12_statement_107 rfl (lv_at hl 1 rfl) ?_
      refine va_get (D := D) (ci := 11) (v := .ref (ad 10)) (C := RX12) (T := TX12) (N := 85) hx hb hts inX12 hown hK hP 0 mwd_o0 rfl 10 (by decide) fl21 (fun _ h9 => h9) rfl dX12_statement_108 ?_
      refine x_calliW (va_runV (As := [.ref (ad 10)]) (rest := []) ⟨hx, hb, hml, hown, hts⟩ (q_isHere l D y H.size ad zw (sI (sI (sI (tI σ 24 f_5) 31 0) 40 0) 2 n_7) (ad 10) 3 3 (zw 10) (fun _ => rfl) (by decide) (by decide) (show 0 ≤ (n_7).toInt from by first | omega | decide) (show (n_7).toInt ≤ ((σ.1 3)).toInt from by first | omega | decide) (show ((σ.1 3)).toInt ≤ 700 from by first | omega | decide)) (cwV 1 hts g_q_statement_0 rfl rfl rfl (by decide +kernel) ⟨Nat.le_of_ble_eq_true rfl, Nat.le_of_ble_eq_true rfl⟩) (x_preV (q := (RX12, TX12, 85)) hK hP hD (ci := 11) (q0 := 0) rfl mwd_o0) rfl rfl hl.1 rfl (lv_room (Nat.le_of_ble_eq_true rfl)) dX12_statement_111 ⟨Nat.le_of_ble_eq_true rfl, Nat.le_of_ble_eq_true rfl⟩) hP hD hS hA (fun r_9 u H locs hw hP hD hS => ?_)
      obtain ⟨n_10, rfl⟩ : ∃ z9, z9 = u := ⟨_, rfl⟩
      try dsimp only at hw
      have hP : va_P D vwCl (mwd y ad zw (sI (sI (sI (sI (tI σ 24 f_5) 31 0) 40 0) 2 n_7) 2 n_10)) H := hP
      have hD : va_D A (mwd y ad zw (sI (sI (sI (sI (tI σ 24 f_5) 31 0) 40 0) 2 n_7) 2 n_10)) := hD
      replace hw : (n_7).toInt ≤ n_10.toInt ∧ n_10.toInt ≤ ((σ.1 3)).toInt ∧ (r_9.toInt = 0 ∨ (r_9.toInt = 1 ∧ ((σ.1 5)).toInt = 0 ∧ n_10.toInt + 3 ≤ ((σ.1 3)).toInt)) := hw
      have hih114 := hw.2.2
      replace hw := And.intro hw.1 hw.2.1
      have hiw114 := hw
      clear hih114
      refine lv_if_eq (tgt := 212) hx hb dX12_statement_114 (by decide) (fun c_11 => ?_) (fun c_11 => ?_)
      · have kc_11 : r_9.toInt = 0 := by have h9 := c_11; simp only [ge_iff_le, gt_iff_lt, x_lt, x_le, x_eq, ne_eq, Int32.not_lt, Int32.not_le] at h9; simp only [Int32.reduceToInt] at h9; omega
        refine lv_aload_n hx hb dX12_statement_212 rfl (lv_at hl 1 rfl) ?_
        refine lv_aload_n hx hb dX12_statement_213 rfl (lv_at hl 1 rfl) ?_
        refine va_get (D := D) (ci := 11) (v := .ref (ad 11)) (C := RX12) (T := TX12) (N := 85) hx hb hts inX12 hown hK hP 0 mwd_o0 rfl 11 (by decide) fl24 (fun _ h9 => h9) rfl dX12_statement_214 ?_
        refine x_calliW (va_runV (As := [.ref (ad 11)]) (rest := []) ⟨hx, hb, hml, hown, hts⟩ (q_isHere l D y H.size ad zw (sI (sI (sI (sI (tI σ 24 f_5) 31 0) 40 0) 2 n_7) 2 n_10) (ad 11) 3 4 (zw 11) (fun _ => rfl) (by decide) (by decide) (show 0 ≤ (n_10).toInt from by first | omega | decide) (show (n_10).toInt ≤ ((σ.1 3)).toInt from by first | omega | decide) (show ((σ.1 3)).toInt ≤ 700 from by first | omega | decide)) (cwV 1 hts g_q_statement_0 rfl rfl rfl (by decide +kernel) ⟨Nat.le_of_ble_eq_true rfl, Nat.le_of_ble_eq_true rfl⟩) (x_preV (q := (RX12, TX12, 85)) hK hP hD (ci := 11) (q0 := 0) rfl mwd_o0) rfl rfl hl.1 rfl (lv_room (Nat.le_of_ble_eq_true rfl)) dX12_statement_217 ⟨Nat.le_of_ble_eq_true rfl, Nat.le_of_ble_eq_true rfl⟩) hP hD hS hA (fun r_12 u H locs hw hP hD hS => ?_)
        obtain ⟨n_13, rfl⟩ : ∃ z9, z9 = u := ⟨_, rfl⟩
        try dsimp only at hw
        have hP : va_P D vwCl (mwd y ad zw (sI (sI (sI (sI (sI (tI σ 24 f_5) 31 0) 40 0) 2 n_7) 2 n_10) 2 n_13)) H := hP
        have hD : va_D A (mwd y ad zw (sI (sI (sI (sI (sI (tI σ 24 f_5) 31 0) 40 0) 2 n_7) 2 n_10) 2 n_13)) := hD
        replace hw : (n_10).toInt ≤ n_13.toInt ∧ n_13.toInt ≤ ((σ.1 3)).toInt ∧ (r_12.toInt = 0 ∨ (r_12.toInt = 1 ∧ ((σ.1 5)).toInt = 0 ∧ n_13.toInt + 3 ≤ ((σ.1 3)).toInt)) := hw
        have hih220 := hw.2.2
        replace hw := And.intro hw.1 hw.2.1
        have hiw220 := hw
        clear hih220
        refine lv_if_eq (tgt := 278) hx hb dX12_statement_220 (by decide) (fun c_14 => ?_) (fun c_14 => ?_)
        · have kc_14 : r_12.toInt = 0 := by have h9 := c_14; simp only [ge_iff_le, gt_iff_lt, x_lt, x_le, x_eq, ne_eq, Int32.not_lt, Int32.not_le] at h9; simp only [Int32.reduceToInt] at h9; omega
          refine lv_aload_n hx hb dX12_statement_278 rfl (lv_at hl 1 rfl) ?_
          refine lv_aload_n hx hb dX12_statement_279 rfl (lv_at hl 1 rfl) ?_
          refine va_get (D := D) (ci := 11) (v := .ref (ad 12)) (C := RX12) (T := TX12) (N := 85) hx hb hts inX12 hown hK hP 0 mwd_o0 rfl 12 (by decide) fl27 (fun _ h9 => h9) rfl dX12_statement_280 ?_
          refine x_calliW (va_runV (As := [.ref (ad 12)]) (rest := []) ⟨hx, hb, hml, hown, hts⟩ (q_takes l D y H.size ad zw (sI (sI (sI (sI (sI (tI σ 24 f_5) 31 0) 40 0) 2 n_7) 2 n_10) 2 n_13) (ad 12) 3 5 (zw 12) (fun _ => rfl) (by decide) (by decide) (show 0 ≤ (n_13).toInt from by first | omega | decide) (show (n_13).toInt ≤ ((σ.1 3)).toInt from by first | omega | decide) (show ((σ.1 3)).toInt ≤ 700 from by first | omega | decide)) (cwV 1 hts g_q_statement_1 rfl rfl rfl (by decide +kernel) ⟨Nat.le_of_ble_eq_true rfl, Nat.le_of_ble_eq_true rfl⟩) (x_preV (q := (RX12, TX12, 85)) hK hP hD (ci := 11) (q0 := 0) rfl mwd_o0) rfl rfl hl.1 rfl (lv_room (Nat.le_of_ble_eq_true rfl)) dX12_statement_283 ⟨Nat.le_of_ble_eq_true rfl, Nat.le_of_ble_eq_true rfl⟩) hP hD hS hA (fun r_15 u H locs hw hP hD hS => ?_)
          obtain ⟨n_16, n_17⟩ := u
          try dsimp only at hw
          have hP : va_P D vwCl (mwd y ad zw (sI (sI (sI (sI (sI (sI (sI (tI σ 24 f_5) 31 0) 40 0) 2 n_7) 2 n_10) 2 n_13) 2 n_16) 4 n_17)) H := hP
          have hD : va_D A (mwd y ad zw (sI (sI (sI (sI (sI (sI (sI (tI σ 24 f_5) 31 0) 40 0) 2 n_7) 2 n_10) 2 n_13) 2 n_16) 4 n_17)) := hD
          replace hw : (n_13).toInt ≤ n_16.toInt ∧ n_16.toInt ≤ ((σ.1 3)).toInt ∧ ((r_15.toInt = 0 ∧ n_17 = ((σ.1 4))) ∨ (r_15.toInt = 1 ∧ ((σ.1 5)).toInt = 0 ∧ (n_13).toInt + 3 ≤ n_16.toInt)) := hw
          rcases hw with ⟨ht1_283, ht2_283, ⟨ht3_283, ht4_283⟩ | ⟨ht3_283, ht4_283, ht5_283⟩⟩
          · skip
            refine lv_if_eq (tgt := 296) hx hb dX12_statement_286 (by decide) (fun c_18 => ?_) (fun c_18 => ?_)
            · have kc_18 : r_15.toInt = 0 := by have h9 := c_18; simp only [ge_iff_le, gt_iff_lt, x_lt, x_le, x_eq, ne_eq, Int32.not_lt, Int32.not_le] at h9; simp only [Int32.reduceToInt] at h9; omega
              refine lv_aload_n hx hb dX12_statement_296 rfl (lv_at hl 1 rfl) ?_
              refine lv_aload_n hx hb dX12_statement_297 rfl (lv_at hl 1 rfl) ?_
              refine va_get (D := D) (ci := 11) (v := .ref (ad 13)) (C := RX12) (T := TX12) (N := 85) hx hb hts inX12 hown hK hP 0 mwd_o0 rfl 13 (by decide) fl30 (fun _ h9 => h9) rfl dX12_statement_298 ?_
              refine x_calliW (va_runV (As := [.ref (ad 13)]) (rest := []) ⟨hx, hb, hml, hown, hts⟩ (q_takes l D y H.size ad zw (sI (sI (sI (sI (sI (sI (sI (tI σ 24 f_5) 31 0) 40 0) 2 n_7) 2 n_10) 2 n_13) 2 n_16) 4 n_17) (ad 13) 4 6 (zw 13) (fun _ => rfl) (by decide) (by decide) (show 0 ≤ (n_16).toInt from by first | omega | decide) (show (n_16).toInt ≤ ((σ.1 3)).toInt from by first | omega | decide) (show ((σ.1 3)).toInt ≤ 700 from by first | omega | decide)) (cwV 1 hts g_q_statement_1 rfl rfl rfl (by decide +kernel) ⟨Nat.le_of_ble_eq_true rfl, Nat.le_of_ble_eq_true rfl⟩) (x_preV (q := (RX12, TX12, 85)) hK hP hD (ci := 11) (q0 := 0) rfl mwd_o0) rfl rfl hl.1 rfl (lv_room (Nat.le_of_ble_eq_true rfl)) dX12_statement_301 ⟨Nat.le_of_ble_eq_true rfl, Nat.le_of_ble_eq_true rfl⟩) hP hD hS hA (fun r_19 u H locs hw hP hD hS => ?_)
              obtain ⟨n_20, n_21⟩ := u
              try dsimp only at hw
              have hP : va_P D vwCl (mwd y ad zw (sI (sI (sI (sI (sI (sI (sI (sI (sI (tI σ 24 f_5) 31 0) 40 0) 2 n_7) 2 n_10) 2 n_13) 2 n_16) 4 n_17) 2 n_20) 4 n_21)) H := hP
              have hD : va_D A (mwd y ad zw (sI (sI (sI (sI (sI (sI (sI (sI (sI (tI σ 24 f_5) 31 0) 40 0) 2 n_7) 2 n_10) 2 n_13) 2 n_16) 4 n_17) 2 n_20) 4 n_21)) := hD
              replace hw : (n_16).toInt ≤ n_20.toInt ∧ n_20.toInt ≤ ((σ.1 3)).toInt ∧ ((r_19.toInt = 0 ∧ n_21 = (n_17)) ∨ (r_19.toInt = 1 ∧ ((σ.1 5)).toInt = 0 ∧ (n_16).toInt + 4 ≤ n_20.toInt)) := hw
              rcases hw with ⟨ht1_301, ht2_301, ⟨ht3_301, ht4_301⟩ | ⟨ht3_301, ht4_301, ht5_301⟩⟩
              · skip
                refine lv_if_eq (tgt := 327) hx hb dX12_statement_304 (by decide) (fun c_22 => ?_) (fun c_22 => ?_)
                · have kc_22 : r_19.toInt = 0 := by have h9 := c_22; simp only [ge_iff_le, gt_iff_lt, x_lt, x_le, x_eq, ne_eq, Int32.not_lt, Int32.not_le] at h9; simp only [Int32.reduceToInt] at h9; omega
                  refine lv_aload_n hx hb dX12_statement_327 rfl (lv_at hl 1 rfl) ?_
                  refine lv_aload_n hx hb dX12_statement_328 rfl (lv_at hl 1 rfl) ?_
                  refine va_get (D := D) (ci := 11) (v := .ref (ad 14)) (C := RX12) (T := TX12) (N := 85) hx hb hts inX12 hown hK hP 0 mwd_o0 rfl 14 (by decide) fl33 (fun _ h9 => h9) rfl dX12_statement_329 ?_
                  refine x_calliW (va_runV (As := [.ref (ad 14)]) (rest := []) ⟨hx, hb, hml, hown, hts⟩ (q_takes l D y H.size ad zw (sI (sI (sI (sI (sI (sI (sI (sI (sI (tI σ 24 f_5) 31 0) 40 0) 2 n_7) 2 n_10) 2 n_13) 2 n_16) 4 n_17) 2 n_20) 4 n_21) (ad 14) 2 7 (zw 14) (fun _ => rfl) (by decide) (by decide) (show 0 ≤ (n_20).toInt from by first | omega | decide) (show (n_20).toInt ≤ ((σ.1 3)).toInt from by first | omega | decide) (show ((σ.1 3)).toInt ≤ 700 from by first | omega | decide)) (cwV 1 hts g_q_statement_1 rfl rfl rfl (by decide +kernel) ⟨Nat.le_of_ble_eq_true rfl, Nat.le_of_ble_eq_true rfl⟩) (x_preV (q := (RX12, TX12, 85)) hK hP hD (ci := 11) (q0 := 0) rfl mwd_o0) rfl rfl hl.1 rfl (lv_room (Nat.le_of_ble_eq_true rfl)) dX12_statement_332 ⟨Nat.le_of_ble_eq_true rfl, Nat.le_of_ble_eq_true rfl⟩) hP hD hS hA (fun r_23 u H locs hw hP hD hS => ?_)
                  obtain ⟨n_24, n_25⟩ := u
                  try dsimp only at hw
                  have hP : va_P D vwCl (mwd y ad zw (sI (sI (sI (sI (sI (sI (sI (sI (sI (sI (sI (tI σ 24 f_5) 31 0) 40 0) 2 n_7) 2 n_10) 2 n_13) 2 n_16) 4 n_17) 2 n_20) 4 n_21) 2 n_24) 4 n_25)) H := hP
                  have hD : va_D A (mwd y ad zw (sI (sI (sI (sI (sI (sI (sI (sI (sI (sI (sI (tI σ 24 f_5) 31 0) 40 0) 2 n_7) 2 n_10) 2 n_13) 2 n_16) 4 n_17) 2 n_20) 4 n_21) 2 n_24) 4 n_25)) := hD
                  replace hw : (n_20).toInt ≤ n_24.toInt ∧ n_24.toInt ≤ ((σ.1 3)).toInt ∧ ((r_23.toInt = 0 ∧ n_25 = (n_21)) ∨ (r_23.toInt = 1 ∧ ((σ.1 5)).toInt = 0 ∧ (n_20).toInt + 2 ≤ n_24.toInt)) := hw
                  rcases hw with ⟨ht1_332, ht2_332, ⟨ht3_332, ht4_332⟩ | ⟨ht3_332, ht4_332, ht5_332⟩⟩
                  · skip
                    refine lv_if_eq (tgt := 346) hx hb dX12_statement_335 (by decide) (fun c_26 => ?_) (fun c_26 => ?_)
                    · have kc_26 : r_23.toInt = 0 := by have h9 := c_26; simp only [ge_iff_le, gt_iff_lt, x_lt, x_le, x_eq, ne_eq, Int32.not_lt, Int32.not_le] at h9; simp only [Int32.reduceToInt] at h9; omega
                      refine lv_aload_n hx hb dX12_statement_346 rfl (lv_at hl 1 rfl) ?_
                      refine lv_aload_n hx hb dX12_statement_347 rfl (lv_at hl 1 rfl) ?_
                      refine va_get (D := D) (ci := 11) (v := .ref (ad 16)) (C := RX12) (T := TX12) (N := 85) hx hb hts inX12 hown hK hP 0 mwd_o0 rfl 16 (by decide) fl39 (fun _ h9 => h9) rfl dX12_statement_348 ?_
                      refine x_calliW (va_runV (As := [.ref (ad 16)]) (rest := []) ⟨hx, hb, hml, hown, hts⟩ (q_takes l D y H.size ad zw (sI (sI (sI (sI (sI (sI (sI (sI (sI (sI (sI (tI σ 24 f_5) 31 0) 40 0) 2 n_7) 2 n_10) 2 n_13) 2 n_16) 4 n_17) 2 n_20) 4 n_21) 2 n_24) 4 n_25) (ad 16) 5 9 (zw 16) (fun _ => rfl) (by decide) (by decide) (show 0 ≤ (n_24).toInt from by first | omega | decide) (show (n_24).toInt ≤ ((σ.1 3)).toInt from by first | omega | decide) (show ((σ.1 3)).toInt ≤ 700 from by first | omega | decide)) (cwV 1 hts g_q_statement_1 rfl rfl rfl (by decide +kernel) ⟨Nat.le_of_ble_eq_true rfl, Nat.le_of_ble_eq_true rfl⟩) (x_preV (q := (RX12, TX12, 85)) hK hP hD (ci := 11) (q0 := 0) rfl mwd_o0) rfl rfl hl.1 rfl (lv_room (Nat.le_of_ble_eq_true rfl)) dX12_statement_351 ⟨Nat.le_of_ble_eq_true rfl, Nat.le_of_ble_eq_true rfl⟩) hP hD hS hA (fun r_27 u H locs hw hP hD hS => ?_)
                      obtain ⟨n_28, n_29⟩ := u
                      try dsimp only at hw
                      have hP : va_P D vwCl (mwd y ad zw (sI (sI (sI (sI (sI (sI (sI (sI (sI (sI (sI (sI (sI (tI σ 24 f_5) 31 0) 40 0) 2 n_7) 2 n_10) 2 n_13) 2 n_16) 4 n_17) 2 n_20) 4 n_21) 2 n_24) 4 n_25) 2 n_28) 4 n_29)) H := hP
                      have hD : va_D A (mwd y ad zw (sI (sI (sI (sI (sI (sI (sI (sI (sI (sI (sI (sI (sI (tI σ 24 f_5) 31 0) 40 0) 2 n_7) 2 n_10) 2 n_13) 2 n_16) 4 n_17) 2 n_20) 4 n_21) 2 n_24) 4 n_25) 2 n_28) 4 n_29)) := hD
                      replace hw : (n_24).toInt ≤ n_28.toInt ∧ n_28.toInt ≤ ((σ.1 3)).toInt ∧ ((r_27.toInt = 0 ∧ n_29 = (n_25)) ∨ (r_27.toInt = 1 ∧ ((σ.1 5)).toInt = 0 ∧ (n_24).toInt + 5 ≤ n_28.toInt)) := hw
                      rcases hw with ⟨ht1_351, ht2_351, ⟨ht3_351, ht4_351⟩ | ⟨ht3_351, ht4_351, ht5_351⟩⟩
                      · skip
                        refine lv_if_eq (tgt := 365) hx hb dX12_statement_354 (by decide) (fun c_30 => ?_) (fun c_30 => ?_)
                        · have kc_30 : r_27.toInt = 0 := by have h9 := c_30; simp only [ge_iff_le, gt_iff_lt, x_lt, x_le, x_eq, ne_eq, Int32.not_lt, Int32.not_le] at h9; simp only [Int32.reduceToInt] at h9; omega
                          refine lv_aload_n hx hb dX12_statement_365 rfl (lv_at hl 1 rfl) ?_
                          refine lv_iconst (v := 1) hx hb dX12_statement_366 (by decide) ?_
                          refine lv_iload_n hx hb dX12_statement_367 rfl (lv_at hl 0 rfl) ?_
                          refine x_callvW (va_runV (As := [.int 1, .int (σ.1 2)]) (rest := []) ⟨hx, hb, hml, hown, hts⟩ (q_fail l D y H.size ad zw (sI (sI (sI (sI (sI (sI (sI (sI (sI (sI (sI (sI (sI (tI σ 24 f_5) 31 0) 40 0) 2 n_7) 2 n_10) 2 n_13) 2 n_16) 4 n_17) 2 n_20) 4 n_21) 2 n_24) 4 n_25) 2 n_28) 4 n_29) 1 (σ.1 2)) (cwV 2 hts g_q_statement_2 rfl rfl rfl (by decide +kernel) ⟨Nat.le_of_ble_eq_true rfl, Nat.le_of_ble_eq_true rfl⟩) (x_preV (q := (RX12, TX12, 85)) hK hP hD (ci := 11) (q0 := 0) rfl mwd_o0) rfl rfl hl.1 rfl (lv_room (Nat.le_of_ble_eq_true rfl)) dX12_statement_368 ⟨Nat.le_of_ble_eq_true rfl, Nat.le_of_ble_eq_true rfl⟩) hP hD hS hA (fun u H locs hw hP hD hS => ?_)
                          obtain ⟨b_31, b_32⟩ := u
                          try dsimp only at hw
                          have hP : va_P D vwCl (mwd y ad zw (sI (sI (sI (sI (sI (sI (sI (sI (sI (sI (sI (sI (sI (sI (sI (tI σ 24 f_5) 31 0) 40 0) 2 n_7) 2 n_10) 2 n_13) 2 n_16) 4 n_17) 2 n_20) 4 n_21) 2 n_24) 4 n_25) 2 n_28) 4 n_29) 5 b_31) 6 b_32)) H := hP
                          have hD : va_D A (mwd y ad zw (sI (sI (sI (sI (sI (sI (sI (sI (sI (sI (sI (sI (sI (sI (sI (tI σ 24 f_5) 31 0) 40 0) 2 n_7) 2 n_10) 2 n_13) 2 n_16) 4 n_17) 2 n_20) 4 n_21) 2 n_24) 4 n_25) 2 n_28) 4 n_29) 5 b_31) 6 b_32)) := hD
                          replace hw : b_31 = if (σ.1 5) = 0 then (1 : Int32) else (σ.1 5) := hw
                          have hbd : b_31.toInt ≠ 0 := by rw [hw]; split <;> first | decide | (rename_i h9; intro h8; exact h9 (Int32.toInt_inj.mp (by rw [h8]; rfl)))
                          clear hw
                          have hP : va_P D vwCl (mwd y ad zw (tI (sI (tI (tI (tI (tI (tJ (sI (tI (sI (tI (tI (sI (tI (sI (tI (sI (sI (sI (sI (sI (sI σ 2 n_28) 4 n_29) 5 b_31) 6 b_32) 23 (σ.1 23)) 29 (σ.1 29)) 27 (σ.2.2.1 27)) 32 (σ.1 32)) 30 (σ.2.2.1 30)) 31 0) 24 f_5) 26 (σ.2.2.1 26)) 40 0) 41 (σ.2.2.1 41)) 33 (σ.1 33)) 34 (σ.2.2.2 34)) 35 (σ.2.2.1 35)) 36 (σ.2.2.1 36)) 37 (σ.2.2.1 37)) 38 (σ.2.2.1 38)) 39 (σ.1 39)) 25 (σ.2.2.1 25))) H := hP
                          have hD : va_D A (mwd y ad zw (tI (sI (tI (tI (tI (tI (tJ (sI (tI (sI (tI (tI (sI (tI (sI (tI (sI (sI (sI (sI (sI (sI σ 2 n_28) 4 n_29) 5 b_31) 6 b_32) 23 (σ.1 23)) 29 (σ.1 29)) 27 (σ.2.2.1 27)) 32 (σ.1 32)) 30 (σ.2.2.1 30)) 31 0) 24 f_5) 26 (σ.2.2.1 26)) 40 0) 41 (σ.2.2.1 41)) 33 (σ.1 33)) 34 (σ.2.2.2 34)) 35 (σ.2.2.1 35)) 36 (σ.2.2.1 36)) 37 (σ.2.2.1 37)) 38 (σ.2.2.1 38)) 39 (σ.1 39)) 25 (σ.2.2.1 25))) := hD
                          exact x_vretW (u := (n_28, n_29, b_31, b_32, (σ.1 23), (σ.1 29), (σ.2.2.1 27), (σ.1 32), (σ.2.2.1 30), 0, f_5, (σ.2.2.1 26), 0, (σ.2.2.1 41), (σ.1 33), (σ.2.2.2 34), (σ.2.2.1 35), (σ.2.2.1 36), (σ.2.2.1 37), (σ.2.2.1 38), (σ.1 39), (σ.2.2.1 25))) hx hb hr hQ (by (try dsimp only); exact ⟨⟨by omega, by omega, hff_5, fun h9 => absurd h9 (by omega)⟩, hB35, hB26, hB25⟩) hP hD hK hS dX12_statement_371 hlocks
                        · have kc_30 : r_27.toInt ≠ 0 := by have h9 := c_30; simp only [ge_iff_le, gt_iff_lt, x_lt, x_le, x_eq, ne_eq, Int32.not_lt, Int32.not_le] at h9; simp only [Int32.reduceToInt] at h9; omega
                          exfalso
                          omega
                      · skip
                        refine lv_if_eq (tgt := 365) hx hb dX12_statement_354 (by decide) (fun c_33 => ?_) (fun c_33 => ?_)
                        · have kc_33 : r_27.toInt = 0 := by have h9 := c_33; simp only [ge_iff_le, gt_iff_lt, x_lt, x_le, x_eq, ne_eq, Int32.not_lt, Int32.not_le] at h9; simp only [Int32.reduceToInt] at h9; omega
                          exfalso
                          omega
                        · have kc_33 : r_27.toInt ≠ 0 := by have h9 := c_33; simp only [ge_iff_le, gt_iff_lt, x_lt, x_le, x_eq, ne_eq, Int32.not_lt, Int32.not_le] at h9; simp only [Int32.reduceToInt] at h9; omega
                          refine lv_aload_n hx hb dX12_statement_357 rfl (lv_at hl 1 rfl) ?_
                          refine lv_iconst (v := 2) hx hb dX12_statement_358 (by decide) ?_
                          have hpe1 : PE (σ.2.2.1 27) (σ.1 29).toInt.toNat (f_5 4).toInt (σ.1 39).toInt.toNat (σ.2.2.1 36) (σ.2.2.1 37) (σ.2.2.1 38) [] true none := by rw [s4f_5]; exact hpe
                          refine x_callvW (va_runV (As := [.int 2]) (rest := []) ⟨hx, hb, hml, hown, hts⟩ (q_testBlock l D y H.size ad zw (sI (sI (sI (sI (sI (sI (sI (sI (sI (sI (sI (sI (sI (tI σ 24 f_5) 31 0) 40 0) 2 n_7) 2 n_10) 2 n_13) 2 n_16) 4 n_17) 2 n_20) 4 n_21) 2 n_24) 4 n_25) 2 n_28) 4 n_29) 2 (by first | omega | decide) (show 0 ≤ (n_28).toInt from by first | omega | decide) (show (n_28).toInt ≤ ((σ.1 3)).toInt from by first | omega | decide) (show ((σ.1 3)).toInt ≤ 700 from by first | omega | decide) (show ((σ.1 5)).toInt = 0 from by first | omega | decide) (show 0 ≤ ((σ.1 33)).toInt from by first | omega | decide) (show ((σ.1 33)).toInt ≤ 24 from by first | omega | decide) (show 0 ≤ ((σ.1 32)).toInt from by first | omega | decide) (show ((σ.1 32)).toInt ≤ 8 from by first | omega | decide) (show 0 ≤ ((σ.1 29)).toInt from by first | omega | decide) (show 0 ≤ (f_5 4).toInt from by first | omega | decide) (show (f_5 4).toInt ≤ (n_28).toInt + 20 from by first | omega | decide) (show ((σ.1 39)).toInt = ((σ.1 32)).toInt from by first | omega | decide) (show 0 ≤ ((σ.1 39)).toInt from by first | omega | decide) (show ((σ.1 29)).toInt + ((σ.1 39)).toInt + 2 ≤ (n_28).toInt from by first | omega | decide) hpe1 hB35 hB26) (cwV 1 hts g_q_statement_3 rfl rfl rfl (by decide +kernel) ⟨Nat.le_of_ble_eq_true rfl, Nat.le_of_ble_eq_true rfl⟩) (x_preV (q := (RX12, TX12, 85)) hK hP hD (ci := 11) (q0 := 0) rfl mwd_o0) rfl rfl hl.1 rfl (lv_room (Nat.le_of_ble_eq_true rfl)) dX12_statement_359 ⟨Nat.le_of_ble_eq_true rfl, Nat.le_of_ble_eq_true rfl⟩) hP hD hS hA (fun u H locs hw hP hD hS => ?_)
                          obtain ⟨n_34, n_35, n_36, n_37, n_38, n_39, f_40, n_41, f_42, n_43, f_44, f_45, n_46, f_47, f_48, f_49, n_50⟩ := u
                          try dsimp only at hw
                          have hP : va_P D vwCl (mwd y ad zw (sI (tI (tI (tI (sI (tI (tI (sI (tI (sI (tI (sI (sI (sI (sI (sI (sI (sI (sI (sI (sI (sI (sI (sI (sI (sI (sI (sI (sI (sI (tI σ 24 f_5) 31 0) 40 0) 2 n_7) 2 n_10) 2 n_13) 2 n_16) 4 n_17) 2 n_20) 4 n_21) 2 n_24) 4 n_25) 2 n_28) 4 n_29) 2 n_34) 4 n_35) 5 n_36) 6 n_37) 23 n_38) 29 n_39) 27 f_40) 32 n_41) 30 f_42) 31 n_43) 24 f_44) 26 f_45) 40 n_46) 36 f_47) 37 f_48) 38 f_49) 39 n_50)) H := hP
                          have hD : va_D A (mwd y ad zw (sI (tI (tI (tI (sI (tI (tI (sI (tI (sI (tI (sI (sI (sI (sI (sI (sI (sI (sI (sI (sI (sI (sI (sI (sI (sI (sI (sI (sI (sI (tI σ 24 f_5) 31 0) 40 0) 2 n_7) 2 n_10) 2 n_13) 2 n_16) 4 n_17) 2 n_20) 4 n_21) 2 n_24) 4 n_25) 2 n_28) 4 n_29) 2 n_34) 4 n_35) 5 n_36) 6 n_37) 23 n_38) 29 n_39) 27 f_40) 32 n_41) 30 f_42) 31 n_43) 24 f_44) 26 f_45) 40 n_46) 36 f_47) 37 f_48) 38 f_49) 39 n_50)) := hD
                          replace hw : ((n_28).toInt ≤ n_34.toInt ∧ n_34.toInt ≤ ((σ.1 3)).toInt ∧ (∀ k : Nat, k ≠ 4 → f_44 k = f_5 k) ∧ (f_5 4).toInt ≤ (f_44 4).toInt ∧ (n_36.toInt = 0 → (n_28).toInt + 1 ≤ n_34.toInt ∧ (f_44 4).toInt - n_34.toInt ≤ (f_5 4).toInt - (n_28).toInt ∧ n_41.toInt = n_50.toInt ∧ 0 ≤ n_50.toInt ∧ n_50.toInt ≤ 8 ∧ 0 ≤ n_39.toInt ∧ n_39.toInt + n_50.toInt ≤ n_34.toInt ∧ PE f_40 n_39.toInt.toNat (f_44 4).toInt n_50.toInt.toNat f_47 f_48 f_49 [] true none)) ∧ bI f_45 0 9999 := hw
                          obtain ⟨hw, hg_51⟩ := hw
                          obtain ⟨hp1, hp2, hp3, hp4, hpi⟩ := hw
                          have hff : ∀ q : Nat, 5 ≤ q → f_44 q = σ.2.2.1 24 q := fun q h9 => (hp3 q (by omega)).trans (hff_5 q h9)
                          have hc0 : (f_44 0).toInt = (f_5 0).toInt := congrArg Int32.toInt (hp3 0 (by decide))
                          have hc1 : (f_44 1).toInt = (f_5 1).toInt := congrArg Int32.toInt (hp3 1 (by decide))
                          have hc2 : (f_44 2).toInt = (f_5 2).toInt := congrArg Int32.toInt (hp3 2 (by decide))
                          have hc3 : (f_44 3).toInt = (f_5 3).toInt := congrArg Int32.toInt (hp3 3 (by decide))
                          refine lv_goto (tgt := 371) hx hb dX12_statement_362 (by decide) ?_
                          have hP : va_P D vwCl (mwd y ad zw (tI (sI (tI (tI (tI (tI (tJ (sI (tI (sI (tI (tI (sI (tI (sI (tI (sI (sI (sI (sI (sI (sI σ 2 n_34) 4 n_35) 5 n_36) 6 n_37) 23 n_38) 29 n_39) 27 f_40) 32 n_41) 30 f_42) 31 n_43) 24 f_44) 26 f_45) 40 n_46) 41 (σ.2.2.1 41)) 33 (σ.1 33)) 34 (σ.2.2.2 34)) 35 (σ.2.2.1 35)) 36 f_47) 37 f_48) 38 f_49) 39 n_50) 25 (σ.2.2.1 25))) H := hP
                          have hD : va_D A (mwd y ad zw (tI (sI (tI (tI (tI (tI (tJ (sI (tI (sI (tI (tI (sI (tI (sI (tI (sI (sI (sI (sI (sI (sI σ 2 n_34) 4 n_35) 5 n_36) 6 n_37) 23 n_38) 29 n_39) 27 f_40) 32 n_41) 30 f_42) 31 n_43) 24 f_44) 26 f_45) 40 n_46) 41 (σ.2.2.1 41)) 33 (σ.1 33)) 34 (σ.2.2.2 34)) 35 (σ.2.2.1 35)) 36 f_47) 37 f_48) 38 f_49) 39 n_50) 25 (σ.2.2.1 25))) := hD
                          exact x_vretW (u := (n_34, n_35, n_36, n_37, n_38, n_39, f_40, n_41, f_42, n_43, f_44, f_45, n_46, (σ.2.2.1 41), (σ.1 33), (σ.2.2.2 34), (σ.2.2.1 35), f_47, f_48, f_49, n_50, (σ.2.2.1 25))) hx hb hr hQ (by (try dsimp only); exact ⟨⟨by omega, by omega, hff, fun h9 => by obtain ⟨h81, h82, h83, h84, h85, h86, h87, h88⟩ := hpi h9; exact ⟨by omega, ⟨by omega, by omega, by omega, by omega, by omega, by omega, by omega, by omega, by omega, by omega, by omega⟩, by omega, by omega, by omega, by omega, by omega, h88⟩⟩, hB35, hg_51, hB25⟩) hP hD hK hS dX12_statement_371 hlocks
                    · have kc_26 : r_23.toInt ≠ 0 := by have h9 := c_26; simp only [ge_iff_le, gt_iff_lt, x_lt, x_le, x_eq, ne_eq, Int32.not_lt, Int32.not_le] at h9; simp only [Int32.reduceToInt] at h9; omega
                      exfalso
                      omega
                  · skip
                    refine lv_if_eq (tgt := 346) hx hb dX12_statement_335 (by decide) (fun c_52 => ?_) (fun c_52 => ?_)
                    · have kc_52 : r_23.toInt = 0 := by have h9 := c_52; simp only [ge_iff_le, gt_iff_lt, x_lt, x_le, x_eq, ne_eq, Int32.not_lt, Int32.not_le] at h9; simp only [Int32.reduceToInt] at h9; omega
                      exfalso
                      omega
                    · have kc_52 : r_23.toInt ≠ 0 := by have h9 := c_52; simp only [ge_iff_le, gt_iff_lt, x_lt, x_le, x_eq, ne_eq, Int32.not_lt, Int32.not_le] at h9; simp only [Int32.reduceToInt] at h9; omega
                      refine lv_aload_n hx hb dX12_statement_338 rfl (lv_at hl 1 rfl) ?_
                      refine lv_iconst (v := 0) hx hb dX12_statement_339 (by decide) ?_
                      have hpe1 : PE (σ.2.2.1 27) (σ.1 29).toInt.toNat (f_5 4).toInt (σ.1 39).toInt.toNat (σ.2.2.1 36) (σ.2.2.1 37) (σ.2.2.1 38) [] true none := by rw [s4f_5]; exact hpe
                      refine x_callvW (va_runV (As := [.int 0]) (rest := []) ⟨hx, hb, hml, hown, hts⟩ (q_testBlock l D y H.size ad zw (sI (sI (sI (sI (sI (sI (sI (sI (sI (sI (sI (tI σ 24 f_5) 31 0) 40 0) 2 n_7) 2 n_10) 2 n_13) 2 n_16) 4 n_17) 2 n_20) 4 n_21) 2 n_24) 4 n_25) 0 (by first | omega | decide) (show 0 ≤ (n_24).toInt from by first | omega | decide) (show (n_24).toInt ≤ ((σ.1 3)).toInt from by first | omega | decide) (show ((σ.1 3)).toInt ≤ 700 from by first | omega | decide) (show ((σ.1 5)).toInt = 0 from by first | omega | decide) (show 0 ≤ ((σ.1 33)).toInt from by first | omega | decide) (show ((σ.1 33)).toInt ≤ 24 from by first | omega | decide) (show 0 ≤ ((σ.1 32)).toInt from by first | omega | decide) (show ((σ.1 32)).toInt ≤ 8 from by first | omega | decide) (show 0 ≤ ((σ.1 29)).toInt from by first | omega | decide) (show 0 ≤ (f_5 4).toInt from by first | omega | decide) (show (f_5 4).toInt ≤ (n_24).toInt + 20 from by first | omega | decide) (show ((σ.1 39)).toInt = ((σ.1 32)).toInt from by first | omega | decide) (show 0 ≤ ((σ.1 39)).toInt from by first | omega | decide) (show ((σ.1 29)).toInt + ((σ.1 39)).toInt + 2 ≤ (n_24).toInt from by first | omega | decide) hpe1 hB35 hB26) (cwV 1 hts g_q_statement_3 rfl rfl rfl (by decide +kernel) ⟨Nat.le_of_ble_eq_true rfl, Nat.le_of_ble_eq_true rfl⟩) (x_preV (q := (RX12, TX12, 85)) hK hP hD (ci := 11) (q0 := 0) rfl mwd_o0) rfl rfl hl.1 rfl (lv_room (Nat.le_of_ble_eq_true rfl)) dX12_statement_340 ⟨Nat.le_of_ble_eq_true rfl, Nat.le_of_ble_eq_true rfl⟩) hP hD hS hA (fun u H locs hw hP hD hS => ?_)
                      obtain ⟨n_53, n_54, n_55, n_56, n_57, n_58, f_59, n_60, f_61, n_62, f_63, f_64, n_65, f_66, f_67, f_68, n_69⟩ := u
                      try dsimp only at hw
                      have hP : va_P D vwCl (mwd y ad zw (sI (tI (tI (tI (sI (tI (tI (sI (tI (sI (tI (sI (sI (sI (sI (sI (sI (sI (sI (sI (sI (sI (sI (sI (sI (sI (sI (sI (tI σ 24 f_5) 31 0) 40 0) 2 n_7) 2 n_10) 2 n_13) 2 n_16) 4 n_17) 2 n_20) 4 n_21) 2 n_24) 4 n_25) 2 n_53) 4 n_54) 5 n_55) 6 n_56) 23 n_57) 29 n_58) 27 f_59) 32 n_60) 30 f_61) 31 n_62) 24 f_63) 26 f_64) 40 n_65) 36 f_66) 37 f_67) 38 f_68) 39 n_69)) H := hP
                      have hD : va_D A (mwd y ad zw (sI (tI (tI (tI (sI (tI (tI (sI (tI (sI (tI (sI (sI (sI (sI (sI (sI (sI (sI (sI (sI (sI (sI (sI (sI (sI (sI (sI (tI σ 24 f_5) 31 0) 40 0) 2 n_7) 2 n_10) 2 n_13) 2 n_16) 4 n_17) 2 n_20) 4 n_21) 2 n_24) 4 n_25) 2 n_53) 4 n_54) 5 n_55) 6 n_56) 23 n_57) 29 n_58) 27 f_59) 32 n_60) 30 f_61) 31 n_62) 24 f_63) 26 f_64) 40 n_65) 36 f_66) 37 f_67) 38 f_68) 39 n_69)) := hD
                      replace hw : ((n_24).toInt ≤ n_53.toInt ∧ n_53.toInt ≤ ((σ.1 3)).toInt ∧ (∀ k : Nat, k ≠ 4 → f_63 k = f_5 k) ∧ (f_5 4).toInt ≤ (f_63 4).toInt ∧ (n_55.toInt = 0 → (n_24).toInt + 1 ≤ n_53.toInt ∧ (f_63 4).toInt - n_53.toInt ≤ (f_5 4).toInt - (n_24).toInt ∧ n_60.toInt = n_69.toInt ∧ 0 ≤ n_69.toInt ∧ n_69.toInt ≤ 8 ∧ 0 ≤ n_58.toInt ∧ n_58.toInt + n_69.toInt ≤ n_53.toInt ∧ PE f_59 n_58.toInt.toNat (f_63 4).toInt n_69.toInt.toNat f_66 f_67 f_68 [] true none)) ∧ bI f_64 0 9999 := hw
                      obtain ⟨hw, hg_70⟩ := hw
                      obtain ⟨hp1, hp2, hp3, hp4, hpi⟩ := hw
                      have hff : ∀ q : Nat, 5 ≤ q → f_63 q = σ.2.2.1 24 q := fun q h9 => (hp3 q (by omega)).trans (hff_5 q h9)
                      have hc0 : (f_63 0).toInt = (f_5 0).toInt := congrArg Int32.toInt (hp3 0 (by decide))
                      have hc1 : (f_63 1).toInt = (f_5 1).toInt := congrArg Int32.toInt (hp3 1 (by decide))
                      have hc2 : (f_63 2).toInt = (f_5 2).toInt := congrArg Int32.toInt (hp3 2 (by decide))
                      have hc3 : (f_63 3).toInt = (f_5 3).toInt := congrArg Int32.toInt (hp3 3 (by decide))
                      refine lv_goto (tgt := 371) hx hb dX12_statement_343 (by decide) ?_
                      have hP : va_P D vwCl (mwd y ad zw (tI (sI (tI (tI (tI (tI (tJ (sI (tI (sI (tI (tI (sI (tI (sI (tI (sI (sI (sI (sI (sI (sI σ 2 n_53) 4 n_54) 5 n_55) 6 n_56) 23 n_57) 29 n_58) 27 f_59) 32 n_60) 30 f_61) 31 n_62) 24 f_63) 26 f_64) 40 n_65) 41 (σ.2.2.1 41)) 33 (σ.1 33)) 34 (σ.2.2.2 34)) 35 (σ.2.2.1 35)) 36 f_66) 37 f_67) 38 f_68) 39 n_69) 25 (σ.2.2.1 25))) H := hP
                      have hD : va_D A (mwd y ad zw (tI (sI (tI (tI (tI (tI (tJ (sI (tI (sI (tI (tI (sI (tI (sI (tI (sI (sI (sI (sI (sI (sI σ 2 n_53) 4 n_54) 5 n_55) 6 n_56) 23 n_57) 29 n_58) 27 f_59) 32 n_60) 30 f_61) 31 n_62) 24 f_63) 26 f_64) 40 n_65) 41 (σ.2.2.1 41)) 33 (σ.1 33)) 34 (σ.2.2.2 34)) 35 (σ.2.2.1 35)) 36 f_66) 37 f_67) 38 f_68) 39 n_69) 25 (σ.2.2.1 25))) := hD
                      exact x_vretW (u := (n_53, n_54, n_55, n_56, n_57, n_58, f_59, n_60, f_61, n_62, f_63, f_64, n_65, (σ.2.2.1 41), (σ.1 33), (σ.2.2.2 34), (σ.2.2.1 35), f_66, f_67, f_68, n_69, (σ.2.2.1 25))) hx hb hr hQ (by (try dsimp only); exact ⟨⟨by omega, by omega, hff, fun h9 => by obtain ⟨h81, h82, h83, h84, h85, h86, h87, h88⟩ := hpi h9; exact ⟨by omega, ⟨by omega, by omega, by omega, by omega, by omega, by omega, by omega, by omega, by omega, by omega, by omega⟩, by omega, by omega, by omega, by omega, by omega, h88⟩⟩, hB35, hg_70, hB25⟩) hP hD hK hS dX12_statement_371 hlocks
                · have kc_22 : r_19.toInt ≠ 0 := by have h9 := c_22; simp only [ge_iff_le, gt_iff_lt, x_lt, x_le, x_eq, ne_eq, Int32.not_lt, Int32.not_le] at h9; simp only [Int32.reduceToInt] at h9; omega
                  exfalso
                  omega
              · skip
                refine lv_if_eq (tgt := 327) hx hb dX12_statement_304 (by decide) (fun c_71 => ?_) (fun c_71 => ?_)
                · have kc_71 : r_19.toInt = 0 := by have h9 := c_71; simp only [ge_iff_le, gt_iff_lt, x_lt, x_le, x_eq, ne_eq, Int32.not_lt, Int32.not_le] at h9; simp only [Int32.reduceToInt] at h9; omega
                  exfalso
                  omega
                · have kc_71 : r_19.toInt ≠ 0 := by have h9 := c_71; simp only [ge_iff_le, gt_iff_lt, x_lt, x_le, x_eq, ne_eq, Int32.not_lt, Int32.not_le] at h9; simp only [Int32.reduceToInt] at h9; omega
                  refine lv_aload_n hx hb dX12_statement_307 rfl (lv_at hl 1 rfl) ?_
                  have l00 : (0 : Int32).toInt = 0 := rfl
                  have hpe1 : PE (σ.2.2.1 27) (σ.1 29).toInt.toNat (f_5 4).toInt (σ.1 39).toInt.toNat (σ.2.2.1 36) (σ.2.2.1 37) (σ.2.2.1 38) [] true none := by rw [s4f_5]; exact hpe
                  refine x_callvW (va_runV (As := []) (rest := []) ⟨hx, hb, hml, hown, hts⟩ (q_sums l D y H.size ad zw (sI (sI (sI (sI (sI (sI (sI (sI (sI (tI σ 24 f_5) 31 0) 40 0) 2 n_7) 2 n_10) 2 n_13) 2 n_16) 4 n_17) 2 n_20) 4 n_21) (show 0 ≤ (n_20).toInt from by first | omega | decide) (show (n_20).toInt ≤ ((σ.1 3)).toInt from by first | omega | decide) (show ((σ.1 3)).toInt ≤ 700 from by first | omega | decide) (show ((σ.1 5)).toInt = 0 from by first | omega | decide) (show 0 ≤ ((σ.1 33)).toInt from by first | omega | decide) (show ((σ.1 33)).toInt ≤ 24 from by first | omega | decide) (show 0 ≤ ((σ.1 32)).toInt from by first | omega | decide) (show ((σ.1 32)).toInt ≤ 8 from by first | omega | decide) (show 0 ≤ ((0 : Int32)).toInt from by first | omega | decide) (show 0 ≤ ((σ.1 29)).toInt from by first | omega | decide) (show ((σ.1 29)).toInt + ((0 : Int32)).toInt ≤ (n_20).toInt + 20 from by first | omega | decide) (show 0 ≤ (f_5 4).toInt from by first | omega | decide) (show (f_5 4).toInt ≤ (n_20).toInt + 20 from by first | omega | decide) (fun q (h9 : q < ((0 : Int32).toInt).toNat) => absurd h9 (by omega)) (show (oc (σ.2.2.1 30) ((0 : Int32).toInt).toNat : Int) ≤ (σ.1 32).toInt from by rw [oc_0 _ (show ((0 : Int32).toInt).toNat = 0 by omega)]; omega) hB35 hB26) (cwV 0 hts g_q_statement_4 rfl rfl rfl (by decide +kernel) ⟨Nat.le_of_ble_eq_true rfl, Nat.le_of_ble_eq_true rfl⟩) (x_preV (q := (RX12, TX12, 85)) hK hP hD (ci := 11) (q0 := 0) rfl mwd_o0) rfl rfl hl.1 rfl (lv_room (Nat.le_of_ble_eq_true rfl)) dX12_statement_308 ⟨Nat.le_of_ble_eq_true rfl, Nat.le_of_ble_eq_true rfl⟩) hP hD hS hA (fun u H locs hw hP hD hS => ?_)
                  obtain ⟨n_72, n_73, n_74, n_75, n_76, n_77, f_78, n_79, f_80, n_81, f_82, f_83, n_84⟩ := u
                  try dsimp only at hw
                  have hP : va_P D vwCl (mwd y ad zw (sI (tI (tI (sI (tI (sI (tI (sI (sI (sI (sI (sI (sI (sI (sI (sI (sI (sI (sI (sI (sI (sI (tI σ 24 f_5) 31 0) 40 0) 2 n_7) 2 n_10) 2 n_13) 2 n_16) 4 n_17) 2 n_20) 4 n_21) 2 n_72) 4 n_73) 5 n_74) 6 n_75) 23 n_76) 29 n_77) 27 f_78) 32 n_79) 30 f_80) 31 n_81) 24 f_82) 26 f_83) 40 n_84)) H := hP
                  have hD : va_D A (mwd y ad zw (sI (tI (tI (sI (tI (sI (tI (sI (sI (sI (sI (sI (sI (sI (sI (sI (sI (sI (sI (sI (sI (sI (tI σ 24 f_5) 31 0) 40 0) 2 n_7) 2 n_10) 2 n_13) 2 n_16) 4 n_17) 2 n_20) 4 n_21) 2 n_72) 4 n_73) 5 n_74) 6 n_75) 23 n_76) 29 n_77) 27 f_78) 32 n_79) 30 f_80) 31 n_81) 24 f_82) 26 f_83) 40 n_84)) := hD
                  replace hw : ((n_20).toInt ≤ n_72.toInt ∧ n_72.toInt ≤ ((σ.1 3)).toInt ∧ 0 ≤ n_79.toInt ∧ n_79.toInt ≤ 8 ∧ 0 ≤ n_81.toInt ∧ ((σ.1 29)).toInt ≤ n_77.toInt ∧ n_77.toInt + n_81.toInt - n_72.toInt ≤ ((σ.1 29)).toInt + ((0 : Int32)).toInt - (n_20).toInt + 1 ∧ (∀ k : Nat, k ≠ 4 → f_82 k = f_5 k) ∧ (f_5 4).toInt ≤ (f_82 4).toInt ∧ (f_82 4).toInt - n_72.toInt ≤ (f_5 4).toInt - (n_20).toInt + 1 ∧ n_84 = ((0 : Int32)) ∧ (n_74.toInt = 0 → (n_20).toInt + 1 ≤ n_72.toInt ∧ n_77.toInt + n_81.toInt - n_72.toInt ≤ ((σ.1 29)).toInt + ((0 : Int32)).toInt - (n_20).toInt ∧ (f_82 4).toInt - n_72.toInt ≤ (f_5 4).toInt - (n_20).toInt ∧ n_81.toInt = ((0 : Int32)).toInt ∧ ES ((σ.2.2.1 27)) f_78 ((σ.2.2.1 30)) f_80 (((σ.1 29)).toInt.toNat) (n_77.toInt.toNat) (((0 : Int32)).toInt.toNat) (n_81.toInt.toNat) 1 (1000 + (f_82 4).toInt) n_79.toInt (((σ.1 32)).toInt - (oc ((σ.2.2.1 30)) ((0 : Int32)).toInt.toNat : Int)))) ∧ bI f_83 0 9999 := hw
                  obtain ⟨hw, hg_85⟩ := hw
                  obtain ⟨hp1, hp2, hp3, hp4, hp5, hp6, hp7, hp8, hp9, hp10, hp11, hpi⟩ := hw
                  have hff : ∀ q : Nat, 5 ≤ q → f_82 q = σ.2.2.1 24 q := fun q h9 => (hp8 q (by omega)).trans (hff_5 q h9)
                  have hc0 : (f_82 0).toInt = (f_5 0).toInt := congrArg Int32.toInt (hp8 0 (by decide))
                  have hc1 : (f_82 1).toInt = (f_5 1).toInt := congrArg Int32.toInt (hp8 1 (by decide))
                  have hc2 : (f_82 2).toInt = (f_5 2).toInt := congrArg Int32.toInt (hp8 2 (by decide))
                  have hc3 : (f_82 3).toInt = (f_5 3).toInt := congrArg Int32.toInt (hp8 3 (by decide))
                  rcases Classical.em (n_74.toInt = 0) with hbs | hbs
                  · obtain ⟨hg1, hg2, hg3, hg4, hg5⟩ := hpi hbs
                    clear hpi
                    obtain ⟨hP1, hO1⟩ := PC_ES hg5 (by omega)
                    clear hg5
                    rw [oc_0 _ (show ((0 : Int32).toInt).toNat = 0 from rfl)] at hO1
                    have hP2 : PC (σ.2.2.1 27) f_78 (σ.2.2.1 30) f_80 ((σ.1 29).toInt.toNat) (n_77.toInt.toNat) 0 (1000 + (f_82 4).toInt) [true] := hP1
                    refine lv_aload_n hx hb dX12_statement_311 rfl (lv_at hl 1 rfl) ?_
                    refine lv_sipush (v := 500) hx hb dX12_statement_312 (by decide) ?_
                    refine x_callvW (va_runV (As := [.int 500]) (rest := []) ⟨hx, hb, hml, hown, hts⟩ (q_code l D y H.size ad zw (sI (tI (tI (sI (tI (sI (tI (sI (sI (sI (sI (sI (sI (sI (sI (sI (sI (sI (sI (sI (sI (sI (tI σ 24 f_5) 31 0) 40 0) 2 n_7) 2 n_10) 2 n_13) 2 n_16) 4 n_17) 2 n_20) 4 n_21) 2 n_72) 4 n_73) 5 n_74) 6 n_75) 23 n_76) 29 n_77) 27 f_78) 32 n_79) 30 f_80) 31 n_81) 24 f_82) 26 f_83) 40 n_84) 500 (show 0 ≤ (n_77).toInt from by first | omega | decide) (show (n_77).toInt < 1200 from by first | omega | decide)) (cwV 1 hts g_q_statement_5 rfl rfl rfl (by decide +kernel) ⟨Nat.le_of_ble_eq_true rfl, Nat.le_of_ble_eq_true rfl⟩) (x_preV (q := (RX12, TX12, 85)) hK hP hD (ci := 11) (q0 := 0) rfl mwd_o0) rfl rfl hl.1 rfl (lv_room (Nat.le_of_ble_eq_true rfl)) dX12_statement_315 ⟨Nat.le_of_ble_eq_true rfl, Nat.le_of_ble_eq_true rfl⟩) hP hD hS hA (fun u H locs hw hP hD hS => ?_)
                    obtain ⟨n_86, f_87⟩ := u
                    try dsimp only at hw
                    have hP : va_P D vwCl (mwd y ad zw (tI (sI (sI (tI (tI (sI (tI (sI (tI (sI (sI (sI (sI (sI (sI (sI (sI (sI (sI (sI (sI (sI (sI (sI (tI σ 24 f_5) 31 0) 40 0) 2 n_7) 2 n_10) 2 n_13) 2 n_16) 4 n_17) 2 n_20) 4 n_21) 2 n_72) 4 n_73) 5 n_74) 6 n_75) 23 n_76) 29 n_77) 27 f_78) 32 n_79) 30 f_80) 31 n_81) 24 f_82) 26 f_83) 40 n_84) 29 n_86) 27 f_87)) H := hP
                    have hD : va_D A (mwd y ad zw (tI (sI (sI (tI (tI (sI (tI (sI (tI (sI (sI (sI (sI (sI (sI (sI (sI (sI (sI (sI (sI (sI (sI (sI (tI σ 24 f_5) 31 0) 40 0) 2 n_7) 2 n_10) 2 n_13) 2 n_16) 4 n_17) 2 n_20) 4 n_21) 2 n_72) 4 n_73) 5 n_74) 6 n_75) 23 n_76) 29 n_77) 27 f_78) 32 n_79) 30 f_80) 31 n_81) 24 f_82) 26 f_83) 40 n_84) 29 n_86) 27 f_87)) := hD
                    replace hw : n_86.toInt = (n_77).toInt + 1 ∧ f_87 = upd (f_78) (n_77).toInt.toNat (500 : Int32) := hw
                    obtain ⟨hcd1, hcd2⟩ := hw
                    refine lv_aload_n hx hb dX12_statement_318 rfl (lv_at hl 1 rfl) ?_
                    refine lv_bipush (v := 59) hx hb dX12_statement_319 (by decide) ?_
                    refine x_callvW (va_runV (As := [.int 59]) (rest := []) ⟨hx, hb, hml, hown, hts⟩ (q_asksSign l D y H.size ad zw (tI (sI (sI (tI (tI (sI (tI (sI (tI (sI (sI (sI (sI (sI (sI (sI (sI (sI (sI (sI (sI (sI (sI (sI (tI σ 24 f_5) 31 0) 40 0) 2 n_7) 2 n_10) 2 n_13) 2 n_16) 4 n_17) 2 n_20) 4 n_21) 2 n_72) 4 n_73) 5 n_74) 6 n_75) 23 n_76) 29 n_77) 27 f_78) 32 n_79) 30 f_80) 31 n_81) 24 f_82) 26 f_83) 40 n_84) 29 n_86) 27 f_87) 59 (by first | omega | decide) (show 0 ≤ (n_72).toInt from by first | omega | decide) (show (n_72).toInt ≤ ((σ.1 3)).toInt from by first | omega | decide) (show ((σ.1 3)).toInt ≤ 700 from by first | omega | decide)) (cwV 1 hts g_q_statement_6 rfl rfl rfl (by decide +kernel) ⟨Nat.le_of_ble_eq_true rfl, Nat.le_of_ble_eq_true rfl⟩) (x_preV (q := (RX12, TX12, 85)) hK hP hD (ci := 11) (q0 := 0) rfl mwd_o0) rfl rfl hl.1 rfl (lv_room (Nat.le_of_ble_eq_true rfl)) dX12_statement_321 ⟨Nat.le_of_ble_eq_true rfl, Nat.le_of_ble_eq_true rfl⟩) hP hD hS hA (fun u H locs hw hP hD hS => ?_)
                    obtain ⟨n_88, n_89, n_90⟩ := u
                    try dsimp only at hw
                    have hP : va_P D vwCl (mwd y ad zw (sI (sI (sI (tI (sI (sI (tI (tI (sI (tI (sI (tI (sI (sI (sI (sI (sI (sI (sI (sI (sI (sI (sI (sI (sI (sI (sI (tI σ 24 f_5) 31 0) 40 0) 2 n_7) 2 n_10) 2 n_13) 2 n_16) 4 n_17) 2 n_20) 4 n_21) 2 n_72) 4 n_73) 5 n_74) 6 n_75) 23 n_76) 29 n_77) 27 f_78) 32 n_79) 30 f_80) 31 n_81) 24 f_82) 26 f_83) 40 n_84) 29 n_86) 27 f_87) 2 n_88) 5 n_89) 6 n_90)) H := hP
                    have hD : va_D A (mwd y ad zw (sI (sI (sI (tI (sI (sI (tI (tI (sI (tI (sI (tI (sI (sI (sI (sI (sI (sI (sI (sI (sI (sI (sI (sI (sI (sI (sI (tI σ 24 f_5) 31 0) 40 0) 2 n_7) 2 n_10) 2 n_13) 2 n_16) 4 n_17) 2 n_20) 4 n_21) 2 n_72) 4 n_73) 5 n_74) 6 n_75) 23 n_76) 29 n_77) 27 f_78) 32 n_79) 30 f_80) 31 n_81) 24 f_82) 26 f_83) 40 n_84) 29 n_86) 27 f_87) 2 n_88) 5 n_89) 6 n_90)) := hD
                    replace hw : (n_72).toInt ≤ n_88.toInt ∧ n_88.toInt ≤ ((σ.1 3)).toInt ∧ (n_89.toInt = 0 → (n_74).toInt = 0 ∧ (n_72).toInt + 1 ≤ n_88.toInt) := hw
                    have hsg321 : XE (n_89.toInt = 0) (n_74.toInt = 0 ∧ n_72.toInt + 1 ≤ n_88.toInt) := fun h9 => hw.2.2 h9
                    replace hw := And.intro hw.1 hw.2.1
                    have hsw321 := hw
                    refine lv_goto (tgt := 371) hx hb dX12_statement_324 (by decide) ?_
                    have hP : va_P D vwCl (mwd y ad zw (tI (sI (tI (tI (tI (tI (tJ (sI (tI (sI (tI (tI (sI (tI (sI (tI (sI (sI (sI (sI (sI (sI σ 2 n_88) 4 n_73) 5 n_89) 6 n_90) 23 n_76) 29 n_86) 27 f_87) 32 n_79) 30 f_80) 31 n_81) 24 f_82) 26 f_83) 40 n_84) 41 (σ.2.2.1 41)) 33 (σ.1 33)) 34 (σ.2.2.2 34)) 35 (σ.2.2.1 35)) 36 (σ.2.2.1 36)) 37 (σ.2.2.1 37)) 38 (σ.2.2.1 38)) 39 (σ.1 39)) 25 (σ.2.2.1 25))) H := hP
                    have hD : va_D A (mwd y ad zw (tI (sI (tI (tI (tI (tI (tJ (sI (tI (sI (tI (tI (sI (tI (sI (tI (sI (sI (sI (sI (sI (sI σ 2 n_88) 4 n_73) 5 n_89) 6 n_90) 23 n_76) 29 n_86) 27 f_87) 32 n_79) 30 f_80) 31 n_81) 24 f_82) 26 f_83) 40 n_84) 41 (σ.2.2.1 41)) 33 (σ.1 33)) 34 (σ.2.2.2 34)) 35 (σ.2.2.1 35)) 36 (σ.2.2.1 36)) 37 (σ.2.2.1 37)) 38 (σ.2.2.1 38)) 39 (σ.1 39)) 25 (σ.2.2.1 25))) := hD
                    exact x_vretW (u := (n_88, n_73, n_89, n_90, n_76, n_86, f_87, n_79, f_80, n_81, f_82, f_83, n_84, (σ.2.2.1 41), (σ.1 33), (σ.2.2.2 34), (σ.2.2.1 35), (σ.2.2.1 36), (σ.2.2.1 37), (σ.2.2.1 38), (σ.1 39), (σ.2.2.1 25))) hx hb hr hQ (by (try dsimp only); exact ⟨⟨by omega, by omega, hff, fun h9 => by obtain ⟨h71, h72⟩ := hsg321 h9; exact ⟨by omega, ⟨by omega, by omega, by omega, by omega, by omega, by omega, by omega, by omega, by omega, by omega, by omega⟩, by omega, by omega, by omega, by omega, by omega, by rw [hcd2, show n_86.toInt.toNat = n_77.toInt.toNat + 1 by omega]; exact PE_setw hpe1 hP2 (by omega) (Or.inr rfl)⟩⟩, hB35, hg_85, hB25⟩) hP hD hK hS dX12_statement_371 hlocks
                  · clear hpi
                    refine lv_aload_n hx hb dX12_statement_311 rfl (lv_at hl 1 rfl) ?_
                    refine lv_sipush (v := 500) hx hb dX12_statement_312 (by decide) ?_
                    refine x_callvW (va_runV (As := [.int 500]) (rest := []) ⟨hx, hb, hml, hown, hts⟩ (q_code l D y H.size ad zw (sI (tI (tI (sI (tI (sI (tI (sI (sI (sI (sI (sI (sI (sI (sI (sI (sI (sI (sI (sI (sI (sI (tI σ 24 f_5) 31 0) 40 0) 2 n_7) 2 n_10) 2 n_13) 2 n_16) 4 n_17) 2 n_20) 4 n_21) 2 n_72) 4 n_73) 5 n_74) 6 n_75) 23 n_76) 29 n_77) 27 f_78) 32 n_79) 30 f_80) 31 n_81) 24 f_82) 26 f_83) 40 n_84) 500 (show 0 ≤ (n_77).toInt from by first | omega | decide) (show (n_77).toInt < 1200 from by first | omega | decide)) (cwV 1 hts g_q_statement_5 rfl rfl rfl (by decide +kernel) ⟨Nat.le_of_ble_eq_true rfl, Nat.le_of_ble_eq_true rfl⟩) (x_preV (q := (RX12, TX12, 85)) hK hP hD (ci := 11) (q0 := 0) rfl mwd_o0) rfl rfl hl.1 rfl (lv_room (Nat.le_of_ble_eq_true rfl)) dX12_statement_315 ⟨Nat.le_of_ble_eq_true rfl, Nat.le_of_ble_eq_true rfl⟩) hP hD hS hA (fun u H locs hw hP hD hS => ?_)
                    obtain ⟨n_91, f_92⟩ := u
                    try dsimp only at hw
                    have hP : va_P D vwCl (mwd y ad zw (tI (sI (sI (tI (tI (sI (tI (sI (tI (sI (sI (sI (sI (sI (sI (sI (sI (sI (sI (sI (sI (sI (sI (sI (tI σ 24 f_5) 31 0) 40 0) 2 n_7) 2 n_10) 2 n_13) 2 n_16) 4 n_17) 2 n_20) 4 n_21) 2 n_72) 4 n_73) 5 n_74) 6 n_75) 23 n_76) 29 n_77) 27 f_78) 32 n_79) 30 f_80) 31 n_81) 24 f_82) 26 f_83) 40 n_84) 29 n_91) 27 f_92)) H := hP
                    have hD : va_D A (mwd y ad zw (tI (sI (sI (tI (tI (sI (tI (sI (tI (sI (sI (sI (sI (sI (sI (sI (sI (sI (sI (sI (sI (sI (sI (sI (tI σ 24 f_5) 31 0) 40 0) 2 n_7) 2 n_10) 2 n_13) 2 n_16) 4 n_17) 2 n_20) 4 n_21) 2 n_72) 4 n_73) 5 n_74) 6 n_75) 23 n_76) 29 n_77) 27 f_78) 32 n_79) 30 f_80) 31 n_81) 24 f_82) 26 f_83) 40 n_84) 29 n_91) 27 f_92)) := hD
                    replace hw : n_91.toInt = (n_77).toInt + 1 ∧ f_92 = upd (f_78) (n_77).toInt.toNat (500 : Int32) := hw
                    obtain ⟨hcd1, hcd2⟩ := hw
                    refine lv_aload_n hx hb dX12_statement_318 rfl (lv_at hl 1 rfl) ?_
                    refine lv_bipush (v := 59) hx hb dX12_statement_319 (by decide) ?_
                    refine x_callvW (va_runV (As := [.int 59]) (rest := []) ⟨hx, hb, hml, hown, hts⟩ (q_asksSign l D y H.size ad zw (tI (sI (sI (tI (tI (sI (tI (sI (tI (sI (sI (sI (sI (sI (sI (sI (sI (sI (sI (sI (sI (sI (sI (sI (tI σ 24 f_5) 31 0) 40 0) 2 n_7) 2 n_10) 2 n_13) 2 n_16) 4 n_17) 2 n_20) 4 n_21) 2 n_72) 4 n_73) 5 n_74) 6 n_75) 23 n_76) 29 n_77) 27 f_78) 32 n_79) 30 f_80) 31 n_81) 24 f_82) 26 f_83) 40 n_84) 29 n_91) 27 f_92) 59 (by first | omega | decide) (show 0 ≤ (n_72).toInt from by first | omega | decide) (show (n_72).toInt ≤ ((σ.1 3)).toInt from by first | omega | decide) (show ((σ.1 3)).toInt ≤ 700 from by first | omega | decide)) (cwV 1 hts g_q_statement_6 rfl rfl rfl (by decide +kernel) ⟨Nat.le_of_ble_eq_true rfl, Nat.le_of_ble_eq_true rfl⟩) (x_preV (q := (RX12, TX12, 85)) hK hP hD (ci := 11) (q0 := 0) rfl mwd_o0) rfl rfl hl.1 rfl (lv_room (Nat.le_of_ble_eq_true rfl)) dX12_statement_321 ⟨Nat.le_of_ble_eq_true rfl, Nat.le_of_ble_eq_true rfl⟩) hP hD hS hA (fun u H locs hw hP hD hS => ?_)
                    obtain ⟨n_93, n_94, n_95⟩ := u
                    try dsimp only at hw
                    have hP : va_P D vwCl (mwd y ad zw (sI (sI (sI (tI (sI (sI (tI (tI (sI (tI (sI (tI (sI (sI (sI (sI (sI (sI (sI (sI (sI (sI (sI (sI (sI (sI (sI (tI σ 24 f_5) 31 0) 40 0) 2 n_7) 2 n_10) 2 n_13) 2 n_16) 4 n_17) 2 n_20) 4 n_21) 2 n_72) 4 n_73) 5 n_74) 6 n_75) 23 n_76) 29 n_77) 27 f_78) 32 n_79) 30 f_80) 31 n_81) 24 f_82) 26 f_83) 40 n_84) 29 n_91) 27 f_92) 2 n_93) 5 n_94) 6 n_95)) H := hP
                    have hD : va_D A (mwd y ad zw (sI (sI (sI (tI (sI (sI (tI (tI (sI (tI (sI (tI (sI (sI (sI (sI (sI (sI (sI (sI (sI (sI (sI (sI (sI (sI (sI (tI σ 24 f_5) 31 0) 40 0) 2 n_7) 2 n_10) 2 n_13) 2 n_16) 4 n_17) 2 n_20) 4 n_21) 2 n_72) 4 n_73) 5 n_74) 6 n_75) 23 n_76) 29 n_77) 27 f_78) 32 n_79) 30 f_80) 31 n_81) 24 f_82) 26 f_83) 40 n_84) 29 n_91) 27 f_92) 2 n_93) 5 n_94) 6 n_95)) := hD
                    replace hw : (n_72).toInt ≤ n_93.toInt ∧ n_93.toInt ≤ ((σ.1 3)).toInt ∧ (n_94.toInt = 0 → (n_74).toInt = 0 ∧ (n_72).toInt + 1 ≤ n_93.toInt) := hw
                    have hsg321 : XE (n_94.toInt = 0) (n_74.toInt = 0 ∧ n_72.toInt + 1 ≤ n_93.toInt) := fun h9 => hw.2.2 h9
                    replace hw := And.intro hw.1 hw.2.1
                    have hsw321 := hw
                    refine lv_goto (tgt := 371) hx hb dX12_statement_324 (by decide) ?_
                    have hP : va_P D vwCl (mwd y ad zw (tI (sI (tI (tI (tI (tI (tJ (sI (tI (sI (tI (tI (sI (tI (sI (tI (sI (sI (sI (sI (sI (sI σ 2 n_93) 4 n_73) 5 n_94) 6 n_95) 23 n_76) 29 n_91) 27 f_92) 32 n_79) 30 f_80) 31 n_81) 24 f_82) 26 f_83) 40 n_84) 41 (σ.2.2.1 41)) 33 (σ.1 33)) 34 (σ.2.2.2 34)) 35 (σ.2.2.1 35)) 36 (σ.2.2.1 36)) 37 (σ.2.2.1 37)) 38 (σ.2.2.1 38)) 39 (σ.1 39)) 25 (σ.2.2.1 25))) H := hP
                    have hD : va_D A (mwd y ad zw (tI (sI (tI (tI (tI (tI (tJ (sI (tI (sI (tI (tI (sI (tI (sI (tI (sI (sI (sI (sI (sI (sI σ 2 n_93) 4 n_73) 5 n_94) 6 n_95) 23 n_76) 29 n_91) 27 f_92) 32 n_79) 30 f_80) 31 n_81) 24 f_82) 26 f_83) 40 n_84) 41 (σ.2.2.1 41)) 33 (σ.1 33)) 34 (σ.2.2.2 34)) 35 (σ.2.2.1 35)) 36 (σ.2.2.1 36)) 37 (σ.2.2.1 37)) 38 (σ.2.2.1 38)) 39 (σ.1 39)) 25 (σ.2.2.1 25))) := hD
                    exact x_vretW (u := (n_93, n_73, n_94, n_95, n_76, n_91, f_92, n_79, f_80, n_81, f_82, f_83, n_84, (σ.2.2.1 41), (σ.1 33), (σ.2.2.2 34), (σ.2.2.1 35), (σ.2.2.1 36), (σ.2.2.1 37), (σ.2.2.1 38), (σ.1 39), (σ.2.2.1 25))) hx hb hr hQ (by (try dsimp only); exact ⟨⟨by omega, by omega, hff, fun h9 => by obtain ⟨h71, h72⟩ := hsg321 h9; exfalso; omega⟩, hB35, hg_85, hB25⟩) hP hD hK hS dX12_statement_371 hlocks
            · have kc_18 : r_15.toInt ≠ 0 := by have h9 := c_18; simp only [ge_iff_le, gt_iff_lt, x_lt, x_le, x_eq, ne_eq, Int32.not_lt, Int32.not_le] at h9; simp only [Int32.reduceToInt] at h9; omega
              exfalso
              omega
          · skip
            refine lv_if_eq (tgt := 296) hx hb dX12_statement_286 (by decide) (fun c_96 => ?_) (fun c_96 => ?_)
            · have kc_96 : r_15.toInt = 0 := by have h9 := c_96; simp only [ge_iff_le, gt_iff_lt, x_lt, x_le, x_eq, ne_eq, Int32.not_lt, Int32.not_le] at h9; simp only [Int32.reduceToInt] at h9; omega
              exfalso
              omega
            · have kc_96 : r_15.toInt ≠ 0 := by have h9 := c_96; simp only [ge_iff_le, gt_iff_lt, x_lt, x_le, x_eq, ne_eq, Int32.not_lt, Int32.not_le] at h9; simp only [Int32.reduceToInt] at h9; omega
              refine lv_aload_n hx hb dX12_statement_289 rfl (lv_at hl 1 rfl) ?_
              have hpe1 : PE (σ.2.2.1 27) (σ.1 29).toInt.toNat (f_5 4).toInt (σ.1 39).toInt.toNat (σ.2.2.1 36) (σ.2.2.1 37) (σ.2.2.1 38) [] true none := by rw [s4f_5]; exact hpe
              refine x_callvW (va_runV (As := []) (rest := []) ⟨hx, hb, hml, hown, hts⟩ (q_setStatement l D y H.size ad zw (sI (sI (sI (sI (sI (sI (sI (tI σ 24 f_5) 31 0) 40 0) 2 n_7) 2 n_10) 2 n_13) 2 n_16) 4 n_17) (show 0 ≤ (n_16).toInt from by first | omega | decide) (show (n_16).toInt ≤ ((σ.1 3)).toInt from by first | omega | decide) (show ((σ.1 3)).toInt ≤ 700 from by first | omega | decide) (show ((σ.1 5)).toInt = 0 from by first | omega | decide) (show 0 ≤ ((σ.1 33)).toInt from by first | omega | decide) (show ((σ.1 33)).toInt ≤ 24 from by first | omega | decide) (show 0 ≤ ((σ.1 32)).toInt from by first | omega | decide) (show ((σ.1 32)).toInt ≤ 8 from by first | omega | decide) (show 0 ≤ ((σ.1 29)).toInt from by first | omega | decide) (show 0 ≤ (f_5 4).toInt from by first | omega | decide) (show (f_5 4).toInt ≤ (n_16).toInt + 20 from by first | omega | decide) (show ((0 : Int32)).toInt = 0 from by first | omega | decide) (show 0 ≤ ((σ.1 39)).toInt from by first | omega | decide) (show ((σ.1 29)).toInt + ((σ.1 39)).toInt + 3 ≤ (n_16).toInt from by first | omega | decide) hpe1 hB35 hB26) (cwV 0 hts g_q_statement_7 rfl rfl rfl (by decide +kernel) ⟨Nat.le_of_ble_eq_true rfl, Nat.le_of_ble_eq_true rfl⟩) (x_preV (q := (RX12, TX12, 85)) hK hP hD (ci := 11) (q0 := 0) rfl mwd_o0) rfl rfl hl.1 rfl (lv_room (Nat.le_of_ble_eq_true rfl)) dX12_statement_290 ⟨Nat.le_of_ble_eq_true rfl, Nat.le_of_ble_eq_true rfl⟩) hP hD hS hA (fun u H locs hw hP hD hS => ?_)
              obtain ⟨n_97, n_98, n_99, n_100, n_101, n_102, f_103, n_104, f_105, n_106, f_107, f_108, n_109, f_110⟩ := u
              try dsimp only at hw
              have hP : va_P D vwCl (mwd y ad zw (tI (sI (tI (tI (sI (tI (sI (tI (sI (sI (sI (sI (sI (sI (sI (sI (sI (sI (sI (sI (sI (tI σ 24 f_5) 31 0) 40 0) 2 n_7) 2 n_10) 2 n_13) 2 n_16) 4 n_17) 2 n_97) 4 n_98) 5 n_99) 6 n_100) 23 n_101) 29 n_102) 27 f_103) 32 n_104) 30 f_105) 31 n_106) 24 f_107) 26 f_108) 40 n_109) 41 f_110)) H := hP
              have hD : va_D A (mwd y ad zw (tI (sI (tI (tI (sI (tI (sI (tI (sI (sI (sI (sI (sI (sI (sI (sI (sI (sI (sI (sI (sI (tI σ 24 f_5) 31 0) 40 0) 2 n_7) 2 n_10) 2 n_13) 2 n_16) 4 n_17) 2 n_97) 4 n_98) 5 n_99) 6 n_100) 23 n_101) 29 n_102) 27 f_103) 32 n_104) 30 f_105) 31 n_106) 24 f_107) 26 f_108) 40 n_109) 41 f_110)) := hD
              replace hw : ((n_16).toInt ≤ n_97.toInt ∧ n_97.toInt ≤ ((σ.1 3)).toInt ∧ (∀ k : Nat, k ≠ 4 → f_107 k = f_5 k) ∧ (f_5 4).toInt ≤ (f_107 4).toInt ∧ (n_99.toInt = 0 → (n_16).toInt + 1 ≤ n_97.toInt ∧ (f_107 4).toInt - n_97.toInt ≤ (f_5 4).toInt - (n_16).toInt ∧ n_104.toInt = ((σ.1 32)).toInt ∧ 0 ≤ n_102.toInt ∧ n_102.toInt + ((σ.1 39)).toInt ≤ n_97.toInt ∧ PE f_103 n_102.toInt.toNat (f_107 4).toInt ((σ.1 39)).toInt.toNat ((σ.2.2.1 36)) ((σ.2.2.1 37)) ((σ.2.2.1 38)) [] true none)) ∧ bI f_108 0 9999 := hw
              obtain ⟨hw, hg_111⟩ := hw
              obtain ⟨hp1, hp2, hp3, hp4, hpi⟩ := hw
              have hff : ∀ q : Nat, 5 ≤ q → f_107 q = σ.2.2.1 24 q := fun q h9 => (hp3 q (by omega)).trans (hff_5 q h9)
              have hc0 : (f_107 0).toInt = (f_5 0).toInt := congrArg Int32.toInt (hp3 0 (by decide))
              have hc1 : (f_107 1).toInt = (f_5 1).toInt := congrArg Int32.toInt (hp3 1 (by decide))
              have hc2 : (f_107 2).toInt = (f_5 2).toInt := congrArg Int32.toInt (hp3 2 (by decide))
              have hc3 : (f_107 3).toInt = (f_5 3).toInt := congrArg Int32.toInt (hp3 3 (by decide))
              refine lv_goto (tgt := 371) hx hb dX12_statement_293 (by decide) ?_
              have hP : va_P D vwCl (mwd y ad zw (tI (sI (tI (tI (tI (tI (tJ (sI (tI (sI (tI (tI (sI (tI (sI (tI (sI (sI (sI (sI (sI (sI σ 2 n_97) 4 n_98) 5 n_99) 6 n_100) 23 n_101) 29 n_102) 27 f_103) 32 n_104) 30 f_105) 31 n_106) 24 f_107) 26 f_108) 40 n_109) 41 f_110) 33 (σ.1 33)) 34 (σ.2.2.2 34)) 35 (σ.2.2.1 35)) 36 (σ.2.2.1 36)) 37 (σ.2.2.1 37)) 38 (σ.2.2.1 38)) 39 (σ.1 39)) 25 (σ.2.2.1 25))) H := hP
              have hD : va_D A (mwd y ad zw (tI (sI (tI (tI (tI (tI (tJ (sI (tI (sI (tI (tI (sI (tI (sI (tI (sI (sI (sI (sI (sI (sI σ 2 n_97) 4 n_98) 5 n_99) 6 n_100) 23 n_101) 29 n_102) 27 f_103) 32 n_104) 30 f_105) 31 n_106) 24 f_107) 26 f_108) 40 n_109) 41 f_110) 33 (σ.1 33)) 34 (σ.2.2.2 34)) 35 (σ.2.2.1 35)) 36 (σ.2.2.1 36)) 37 (σ.2.2.1 37)) 38 (σ.2.2.1 38)) 39 (σ.1 39)) 25 (σ.2.2.1 25))) := hD
              exact x_vretW (u := (n_97, n_98, n_99, n_100, n_101, n_102, f_103, n_104, f_105, n_106, f_107, f_108, n_109, f_110, (σ.1 33), (σ.2.2.2 34), (σ.2.2.1 35), (σ.2.2.1 36), (σ.2.2.1 37), (σ.2.2.1 38), (σ.1 39), (σ.2.2.1 25))) hx hb hr hQ (by (try dsimp only); exact ⟨⟨by omega, by omega, hff, fun h9 => by obtain ⟨h81, h82, h83, h84, h85, h86⟩ := hpi h9; exact ⟨by omega, ⟨by omega, by omega, by omega, by omega, by omega, by omega, by omega, by omega, by omega, by omega, by omega⟩, by omega, by omega, by omega, by omega, by omega, h86⟩⟩, hB35, hg_111, hB25⟩) hP hD hK hS dX12_statement_371 hlocks
        · have kc_14 : r_12.toInt ≠ 0 := by have h9 := c_14; simp only [ge_iff_le, gt_iff_lt, x_lt, x_le, x_eq, ne_eq, Int32.not_lt, Int32.not_le] at h9; simp only [Int32.reduceToInt] at h9; omega
          refine lv_aload_n hx hb dX12_statement_223 rfl (lv_at hl 1 rfl) ?_
          refine lv_iconst (v := 2) hx hb dX12_statement_224 (by decide) ?_
          refine lv_bipush (v := 12) hx hb dX12_statement_225 (by decide) ?_
          refine lv_iload_n hx hb dX12_statement_227 rfl (lv_at hl 0 rfl) ?_
          refine x_callvW (va_runV (As := [.int 2, .int 12, .int (σ.1 2)]) (rest := []) ⟨hx, hb, hml, hown, hts⟩ (q_tells l D y H.size ad zw (sI (sI (sI (sI (sI (tI σ 24 f_5) 31 0) 40 0) 2 n_7) 2 n_10) 2 n_13) 2 12 (σ.1 2) (by first | omega | decide) (by first | omega | decide)) (cwV 3 hts g_q_statement_8 rfl rfl rfl (by decide +kernel) ⟨Nat.le_of_ble_eq_true rfl, Nat.le_of_ble_eq_true rfl⟩) (x_preV (q := (RX12, TX12, 85)) hK hP hD (ci := 11) (q0 := 0) rfl mwd_o0) rfl rfl hl.1 rfl (lv_room (Nat.le_of_ble_eq_true rfl)) dX12_statement_228 ⟨Nat.le_of_ble_eq_true rfl, Nat.le_of_ble_eq_true rfl⟩) hP hD hS hA (fun u H locs hw hP hD hS => ?_)
          obtain ⟨n_112, n_113⟩ := u
          try dsimp only at hw
          have hP : va_P D vwCl (mwd y ad zw (sI (sI (sI (sI (sI (sI (sI (tI σ 24 f_5) 31 0) 40 0) 2 n_7) 2 n_10) 2 n_13) 5 n_112) 6 n_113)) H := hP
          have hD : va_D A (mwd y ad zw (sI (sI (sI (sI (sI (sI (sI (tI σ 24 f_5) 31 0) 40 0) 2 n_7) 2 n_10) 2 n_13) 5 n_112) 6 n_113)) := hD
          replace hw : n_112.toInt ≠ 0 ∨ (n_112 = ((σ.1 5)) ∧ ((σ.1 39)).toInt ≤ 0 ∧ (f_5 (2 : Int32).toInt.toNat).toInt ≠ (12 : Int32).toInt) := hw
          have htl : XE (n_112.toInt = 0) ((σ.1 39).toInt ≤ 0 ∧ (f_5 2).toInt ≠ 12) := fun h9 => by rcases hw with h8 | ⟨h8, h7, h6⟩ <;> first | exact absurd h9 h8 | exact ⟨h7, h6⟩
          clear hw
          refine lv_aload_n hx hb dX12_statement_231 rfl (lv_at hl 1 rfl) ?_
          refine lv_aload_n hx hb dX12_statement_232 rfl (lv_at hl 1 rfl) ?_
          refine va_get (D := D) (ci := 11) (v := .ref (ad 11)) (C := RX12) (T := TX12) (N := 85) hx hb hts inX12 hown hK hP 0 mwd_o0 rfl 11 (by decide) fl24 (fun _ h9 => h9) rfl dX12_statement_233 ?_
          refine x_callvW (va_runV (As := [.ref (ad 11)]) (rest := []) ⟨hx, hb, hml, hown, hts⟩ (q_asks l D y H.size ad zw (sI (sI (sI (sI (sI (sI (sI (tI σ 24 f_5) 31 0) 40 0) 2 n_7) 2 n_10) 2 n_13) 5 n_112) 6 n_113) (ad 11) 3 4 (zw 11) (fun _ => rfl) (by decide) (by decide) (show 0 ≤ (n_13).toInt from by first | omega | decide) (show (n_13).toInt ≤ ((σ.1 3)).toInt from by first | omega | decide) (show ((σ.1 3)).toInt ≤ 700 from by first | omega | decide)) (cwV 1 hts g_q_statement_9 rfl rfl rfl (by decide +kernel) ⟨Nat.le_of_ble_eq_true rfl, Nat.le_of_ble_eq_true rfl⟩) (x_preV (q := (RX12, TX12, 85)) hK hP hD (ci := 11) (q0 := 0) rfl mwd_o0) rfl rfl hl.1 rfl (lv_room (Nat.le_of_ble_eq_true rfl)) dX12_statement_236 ⟨Nat.le_of_ble_eq_true rfl, Nat.le_of_ble_eq_true rfl⟩) hP hD hS hA (fun u H locs hw hP hD hS => ?_)
          obtain ⟨n_114, n_115, n_116, n_117⟩ := u
          try dsimp only at hw
          have hP : va_P D vwCl (mwd y ad zw (sI (sI (sI (sI (sI (sI (sI (sI (sI (sI (sI (tI σ 24 f_5) 31 0) 40 0) 2 n_7) 2 n_10) 2 n_13) 5 n_112) 6 n_113) 2 n_114) 4 n_115) 5 n_116) 6 n_117)) H := hP
          have hD : va_D A (mwd y ad zw (sI (sI (sI (sI (sI (sI (sI (sI (sI (sI (sI (tI σ 24 f_5) 31 0) 40 0) 2 n_7) 2 n_10) 2 n_13) 5 n_112) 6 n_113) 2 n_114) 4 n_115) 5 n_116) 6 n_117)) := hD
          replace hw : (n_13).toInt ≤ n_114.toInt ∧ n_114.toInt ≤ ((σ.1 3)).toInt ∧ (n_116.toInt = 0 → (n_112).toInt = 0 ∧ (n_13).toInt + 3 ≤ n_114.toInt) := hw
          have hak : XE (n_116.toInt = 0) (n_112.toInt = 0 ∧ n_13.toInt + 3 ≤ n_114.toInt) := fun h9 => ⟨(hw.2.2 h9).1, by have h8 := (hw.2.2 h9).2; omega⟩
          replace hw := And.intro hw.1 hw.2.1
          have hakw := hw
          refine lv_aload_n hx hb dX12_statement_239 rfl (lv_at hl 1 rfl) ?_
          refine va_get (D := D) (ci := 11) (v := .int n_116) (C := RX12) (T := TX12) (N := 85) hx hb hts inX12 hown hK hP 0 mwd_o0 rfl 5 (by decide) fl191 (fun _ h9 => h9) rfl dX12_statement_240 ?_
          refine lv_if_ne (tgt := 259) hx hb dX12_statement_243 (by decide) (fun c_118 => ?_) (fun c_118 => ?_)
          · have kc_118 : n_116.toInt ≠ 0 := by have h9 := c_118; simp only [ge_iff_le, gt_iff_lt, x_lt, x_le, x_eq, ne_eq, Int32.not_lt, Int32.not_le] at h9; simp only [Int32.reduceToInt] at h9; omega
            refine lv_aload_n hx hb dX12_statement_259 rfl (lv_at hl 1 rfl) ?_
            refine lv_bipush (v := 59) hx hb dX12_statement_260 (by decide) ?_
            refine x_callvW (va_runV (As := [.int 59]) (rest := []) ⟨hx, hb, hml, hown, hts⟩ (q_asksSign l D y H.size ad zw (sI (sI (sI (sI (sI (sI (sI (sI (sI (sI (sI (tI σ 24 f_5) 31 0) 40 0) 2 n_7) 2 n_10) 2 n_13) 5 n_112) 6 n_113) 2 n_114) 4 n_115) 5 n_116) 6 n_117) 59 (by first | omega | decide) (show 0 ≤ (n_114).toInt from by first | omega | decide) (show (n_114).toInt ≤ ((σ.1 3)).toInt from by first | omega | decide) (show ((σ.1 3)).toInt ≤ 700 from by first | omega | decide)) (cwV 1 hts g_q_statement_6 rfl rfl rfl (by decide +kernel) ⟨Nat.le_of_ble_eq_true rfl, Nat.le_of_ble_eq_true rfl⟩) (x_preV (q := (RX12, TX12, 85)) hK hP hD (ci := 11) (q0 := 0) rfl mwd_o0) rfl rfl hl.1 rfl (lv_room (Nat.le_of_ble_eq_true rfl)) dX12_statement_262 ⟨Nat.le_of_ble_eq_true rfl, Nat.le_of_ble_eq_true rfl⟩) hP hD hS hA (fun u H locs hw hP hD hS => ?_)
            obtain ⟨n_119, n_120, n_121⟩ := u
            try dsimp only at hw
            have hP : va_P D vwCl (mwd y ad zw (sI (sI (sI (sI (sI (sI (sI (sI (sI (sI (sI (sI (sI (sI (tI σ 24 f_5) 31 0) 40 0) 2 n_7) 2 n_10) 2 n_13) 5 n_112) 6 n_113) 2 n_114) 4 n_115) 5 n_116) 6 n_117) 2 n_119) 5 n_120) 6 n_121)) H := hP
            have hD : va_D A (mwd y ad zw (sI (sI (sI (sI (sI (sI (sI (sI (sI (sI (sI (sI (sI (sI (tI σ 24 f_5) 31 0) 40 0) 2 n_7) 2 n_10) 2 n_13) 5 n_112) 6 n_113) 2 n_114) 4 n_115) 5 n_116) 6 n_117) 2 n_119) 5 n_120) 6 n_121)) := hD
            replace hw : (n_114).toInt ≤ n_119.toInt ∧ n_119.toInt ≤ ((σ.1 3)).toInt ∧ (n_120.toInt = 0 → (n_116).toInt = 0 ∧ (n_114).toInt + 1 ≤ n_119.toInt) := hw
            have hsg262 : XE (n_120.toInt = 0) (n_116.toInt = 0 ∧ n_114.toInt + 1 ≤ n_119.toInt) := fun h9 => hw.2.2 h9
            replace hw := And.intro hw.1 hw.2.1
            have hsw262 := hw
            refine lv_aload_n hx hb dX12_statement_265 rfl (lv_at hl 1 rfl) ?_
            refine va_get (D := D) (ci := 11) (v := .ref (ad 24)) (C := RX12) (T := TX12) (N := 85) hx hb hts inX12 hown hK hP 0 mwd_o0 rfl 24 (by decide) fl60 (fun _ h9 => h9) rfl dX12_statement_266 ?_
            refine lv_iconst (v := 2) hx hb dX12_statement_269 (by decide) ?_
            refine lv_dup2_11 hx hb dX12_statement_270 rfl rfl ?_
            refine va_iald hx hb hK hP 16 2 mwd_a16 rfl (x_in (by decide) (by decide)) dX12_statement_271 ?_
            refine lv_topi (fun i_122 ei_122 => ?_)
            have ei_122 : i_122 = f_5 (Int32.toNatClampNeg 2) := ei_122
            have gi_122 : i_122.toInt = (f_5 2).toInt := by rw [ei_122]; rfl
            refine lv_iconst (v := 1) hx hb dX12_statement_272 (by decide) ?_
            refine lv_iadd hx hb dX12_statement_273 ?_
            refine lv_topi (fun i_123 ei_123 => ?_)
            have vi_123 : i_123.toInt = i_122.toInt + 1 := by have h9 := x_add ei_123 (by omega) (by omega); omega
            refine va_iast hx hb hK hP hD hS 16 2 mwd_a16 rfl (x_in (by decide) (by decide)) dX12_statement_274 (fun H locs hP hD hS => ?_)
            obtain ⟨f_124, ef_124⟩ : ∃ z9 : Nat → Int32, z9 = (upd f_5 (Int32.toNatClampNeg 2) i_123) := ⟨_, rfl⟩
            have hP : va_P D vwCl (mwd y ad zw (tI (sI (sI (sI (sI (sI (sI (sI (sI (sI (sI (sI (sI (sI (sI (tI σ 24 f_5) 31 0) 40 0) 2 n_7) 2 n_10) 2 n_13) 5 n_112) 6 n_113) 2 n_114) 4 n_115) 5 n_116) 6 n_117) 2 n_119) 5 n_120) 6 n_121) 24 f_124)) H := by rw [ef_124]; exact x_trP hP mwd_s16
            have hD : va_D A (mwd y ad zw (tI (sI (sI (sI (sI (sI (sI (sI (sI (sI (sI (sI (sI (sI (sI (tI σ 24 f_5) 31 0) 40 0) 2 n_7) 2 n_10) 2 n_13) 5 n_112) 6 n_113) 2 n_114) 4 n_115) 5 n_116) 6 n_117) 2 n_119) 5 n_120) 6 n_121) 24 f_124)) := by rw [ef_124]; exact x_trD hD mwd_s16
            have s0f_124 : (f_124 0).toInt = (f_5 0).toInt := by rw [ef_124]; exact congrArg Int32.toInt (x_upd_ne _ _ (show 0 ≠ 2 by decide))
            have s1f_124 : (f_124 1).toInt = (f_5 1).toInt := by rw [ef_124]; exact congrArg Int32.toInt (x_upd_ne _ _ (show 1 ≠ 2 by decide))
            have s2f_124 : (f_124 2).toInt = i_123.toInt := by rw [ef_124]; exact congrArg Int32.toInt (x_upd_same _ 2 _)
            have s3f_124 : (f_124 3).toInt = (f_5 3).toInt := by rw [ef_124]; exact congrArg Int32.toInt (x_upd_ne _ _ (show 3 ≠ 2 by decide))
            have s4f_124 : (f_124 4).toInt = (f_5 4).toInt := by rw [ef_124]; exact congrArg Int32.toInt (x_upd_ne _ _ (show 4 ≠ 2 by decide))
            have hff_124 : ∀ q : Nat, 5 ≤ q → f_124 q = σ.2.2.1 24 q := fun q h9 => by rw [ef_124]; exact (x_upd_ne _ _ (show q ≠ 2 by omega)).trans (hff_5 q h9)
            refine lv_goto (tgt := 371) hx hb dX12_statement_275 (by decide) ?_
            have hP : va_P D vwCl (mwd y ad zw (tI (sI (tI (tI (tI (tI (tJ (sI (tI (sI (tI (tI (sI (tI (sI (tI (sI (sI (sI (sI (sI (sI σ 2 n_119) 4 n_115) 5 n_120) 6 n_121) 23 (σ.1 23)) 29 (σ.1 29)) 27 (σ.2.2.1 27)) 32 (σ.1 32)) 30 (σ.2.2.1 30)) 31 0) 24 f_124) 26 (σ.2.2.1 26)) 40 0) 41 (σ.2.2.1 41)) 33 (σ.1 33)) 34 (σ.2.2.2 34)) 35 (σ.2.2.1 35)) 36 (σ.2.2.1 36)) 37 (σ.2.2.1 37)) 38 (σ.2.2.1 38)) 39 (σ.1 39)) 25 (σ.2.2.1 25))) H := hP
            have hD : va_D A (mwd y ad zw (tI (sI (tI (tI (tI (tI (tJ (sI (tI (sI (tI (tI (sI (tI (sI (tI (sI (sI (sI (sI (sI (sI σ 2 n_119) 4 n_115) 5 n_120) 6 n_121) 23 (σ.1 23)) 29 (σ.1 29)) 27 (σ.2.2.1 27)) 32 (σ.1 32)) 30 (σ.2.2.1 30)) 31 0) 24 f_124) 26 (σ.2.2.1 26)) 40 0) 41 (σ.2.2.1 41)) 33 (σ.1 33)) 34 (σ.2.2.2 34)) 35 (σ.2.2.1 35)) 36 (σ.2.2.1 36)) 37 (σ.2.2.1 37)) 38 (σ.2.2.1 38)) 39 (σ.1 39)) 25 (σ.2.2.1 25))) := hD
            exact x_vretW (u := (n_119, n_115, n_120, n_121, (σ.1 23), (σ.1 29), (σ.2.2.1 27), (σ.1 32), (σ.2.2.1 30), 0, f_124, (σ.2.2.1 26), 0, (σ.2.2.1 41), (σ.1 33), (σ.2.2.2 34), (σ.2.2.1 35), (σ.2.2.1 36), (σ.2.2.1 37), (σ.2.2.1 38), (σ.1 39), (σ.2.2.1 25))) hx hb hr hQ (by (try dsimp only); exact ⟨⟨by omega, by omega, hff_124, fun h9 => by obtain ⟨hx0, hy0⟩ := hsg262 h9; exfalso; omega⟩, hB35, hB26, hB25⟩) hP hD hK hS dX12_statement_371 hlocks
          · have kc_118 : n_116.toInt = 0 := by have h9 := c_118; simp only [ge_iff_le, gt_iff_lt, x_lt, x_le, x_eq, ne_eq, Int32.not_lt, Int32.not_le] at h9; simp only [Int32.reduceToInt] at h9; omega
            refine lv_aload_n hx hb dX12_statement_246 rfl (lv_at hl 1 rfl) ?_
            refine lv_bipush (v := 8) hx hb dX12_statement_247 (by decide) ?_
            refine lv_aload_n hx hb dX12_statement_249 rfl (lv_at hl 1 rfl) ?_
            refine va_get (D := D) (ci := 11) (v := .ref (ad 24)) (C := RX12) (T := TX12) (N := 85) hx hb hts inX12 hown hK hP 0 mwd_o0 rfl 24 (by decide) fl60 (fun _ h9 => h9) rfl dX12_statement_250 ?_
            refine lv_iconst (v := 2) hx hb dX12_statement_253 (by decide) ?_
            refine va_iald hx hb hK hP 16 2 mwd_a16 rfl (x_in (by decide) (by decide)) dX12_statement_254 ?_
            refine lv_topi (fun i_125 ei_125 => ?_)
            have ei_125 : i_125 = f_5 (Int32.toNatClampNeg 2) := ei_125
            have gi_125 : i_125.toInt = (f_5 2).toInt := by rw [ei_125]; rfl
            refine lv_iadd hx hb dX12_statement_255 ?_
            refine lv_topi (fun i_126 ei_126 => ?_)
            have vi_126 : i_126.toInt = 8 + i_125.toInt := by have h9 := x_add ei_126 (by omega) (by omega); omega
            obtain ⟨hak1, hak2⟩ := hak (by omega)
            obtain ⟨htl1, htl2⟩ := htl (by omega)
            refine x_callvW (va_runV (As := [.int i_126]) (rest := []) ⟨hx, hb, hml, hown, hts⟩ (q_names l D y H.size ad zw (sI (sI (sI (sI (sI (sI (sI (sI (sI (sI (sI (tI σ 24 f_5) 31 0) 40 0) 2 n_7) 2 n_10) 2 n_13) 5 n_112) 6 n_113) 2 n_114) 4 n_115) 5 n_116) 6 n_117) i_126 (by first | omega | decide) (by first | omega | decide) (show 0 ≤ ((σ.1 33)).toInt from by first | omega | decide) (show ((σ.1 33)).toInt ≤ 23 from by first | omega | decide) (show 0 ≤ (n_114).toInt from by first | omega | decide) (show (n_114).toInt ≤ ((σ.1 3)).toInt from by first | omega | decide) (show ((σ.1 3)).toInt ≤ 700 from by first | omega | decide) hB35) (cwV 1 hts g_q_statement_10 rfl rfl rfl (by decide +kernel) ⟨Nat.le_of_ble_eq_true rfl, Nat.le_of_ble_eq_true rfl⟩) (x_preV (q := (RX12, TX12, 85)) hK hP hD (ci := 11) (q0 := 0) rfl mwd_o0) rfl rfl hl.1 rfl (lv_room (Nat.le_of_ble_eq_true rfl)) dX12_statement_256 ⟨Nat.le_of_ble_eq_true rfl, Nat.le_of_ble_eq_true rfl⟩) hP hD hS hA (fun u H locs hw hP hD hS => ?_)
            obtain ⟨n_127, n_128, n_129, n_130, n_131, n_132, f_133, f_134⟩ := u
            try dsimp only at hw
            have hP : va_P D vwCl (mwd y ad zw (tI (tJ (sI (sI (sI (sI (sI (sI (sI (sI (sI (sI (sI (sI (sI (sI (sI (sI (sI (tI σ 24 f_5) 31 0) 40 0) 2 n_7) 2 n_10) 2 n_13) 5 n_112) 6 n_113) 2 n_114) 4 n_115) 5 n_116) 6 n_117) 2 n_127) 4 n_128) 5 n_129) 6 n_130) 23 n_131) 33 n_132) 34 f_133) 35 f_134)) H := hP
            have hD : va_D A (mwd y ad zw (tI (tJ (sI (sI (sI (sI (sI (sI (sI (sI (sI (sI (sI (sI (sI (sI (sI (sI (sI (tI σ 24 f_5) 31 0) 40 0) 2 n_7) 2 n_10) 2 n_13) 5 n_112) 6 n_113) 2 n_114) 4 n_115) 5 n_116) 6 n_117) 2 n_127) 4 n_128) 5 n_129) 6 n_130) 23 n_131) 33 n_132) 34 f_133) 35 f_134)) := hD
            replace hw : ((n_114).toInt ≤ n_127.toInt ∧ n_127.toInt ≤ ((σ.1 3)).toInt ∧ (n_129.toInt = 0 → (n_116).toInt = 0 ∧ (n_114).toInt + 1 ≤ n_127.toInt) ∧ n_132.toInt = ((σ.1 33)).toInt + 1) ∧ bI f_134 0 23 := hw
            obtain ⟨hw, hg_135⟩ := hw
            have hnm : XE (n_129.toInt = 0) (n_116.toInt = 0 ∧ n_114.toInt + 1 ≤ n_127.toInt) := fun h9 => hw.2.2.1 h9
            replace hw := And.intro hw.1 (And.intro hw.2.1 hw.2.2.2)
            have hnmw := hw
            refine lv_aload_n hx hb dX12_statement_259 rfl (lv_at hl 1 rfl) ?_
            refine lv_bipush (v := 59) hx hb dX12_statement_260 (by decide) ?_
            refine x_callvW (va_runV (As := [.int 59]) (rest := []) ⟨hx, hb, hml, hown, hts⟩ (q_asksSign l D y H.size ad zw (tI (tJ (sI (sI (sI (sI (sI (sI (sI (sI (sI (sI (sI (sI (sI (sI (sI (sI (sI (tI σ 24 f_5) 31 0) 40 0) 2 n_7) 2 n_10) 2 n_13) 5 n_112) 6 n_113) 2 n_114) 4 n_115) 5 n_116) 6 n_117) 2 n_127) 4 n_128) 5 n_129) 6 n_130) 23 n_131) 33 n_132) 34 f_133) 35 f_134) 59 (by first | omega | decide) (show 0 ≤ (n_127).toInt from by first | omega | decide) (show (n_127).toInt ≤ ((σ.1 3)).toInt from by first | omega | decide) (show ((σ.1 3)).toInt ≤ 700 from by first | omega | decide)) (cwV 1 hts g_q_statement_6 rfl rfl rfl (by decide +kernel) ⟨Nat.le_of_ble_eq_true rfl, Nat.le_of_ble_eq_true rfl⟩) (x_preV (q := (RX12, TX12, 85)) hK hP hD (ci := 11) (q0 := 0) rfl mwd_o0) rfl rfl hl.1 rfl (lv_room (Nat.le_of_ble_eq_true rfl)) dX12_statement_262 ⟨Nat.le_of_ble_eq_true rfl, Nat.le_of_ble_eq_true rfl⟩) hP hD hS hA (fun u H locs hw hP hD hS => ?_)
            obtain ⟨n_136, n_137, n_138⟩ := u
            try dsimp only at hw
            have hP : va_P D vwCl (mwd y ad zw (sI (sI (sI (tI (tJ (sI (sI (sI (sI (sI (sI (sI (sI (sI (sI (sI (sI (sI (sI (sI (sI (sI (tI σ 24 f_5) 31 0) 40 0) 2 n_7) 2 n_10) 2 n_13) 5 n_112) 6 n_113) 2 n_114) 4 n_115) 5 n_116) 6 n_117) 2 n_127) 4 n_128) 5 n_129) 6 n_130) 23 n_131) 33 n_132) 34 f_133) 35 f_134) 2 n_136) 5 n_137) 6 n_138)) H := hP
            have hD : va_D A (mwd y ad zw (sI (sI (sI (tI (tJ (sI (sI (sI (sI (sI (sI (sI (sI (sI (sI (sI (sI (sI (sI (sI (sI (sI (tI σ 24 f_5) 31 0) 40 0) 2 n_7) 2 n_10) 2 n_13) 5 n_112) 6 n_113) 2 n_114) 4 n_115) 5 n_116) 6 n_117) 2 n_127) 4 n_128) 5 n_129) 6 n_130) 23 n_131) 33 n_132) 34 f_133) 35 f_134) 2 n_136) 5 n_137) 6 n_138)) := hD
            replace hw : (n_127).toInt ≤ n_136.toInt ∧ n_136.toInt ≤ ((σ.1 3)).toInt ∧ (n_137.toInt = 0 → (n_129).toInt = 0 ∧ (n_127).toInt + 1 ≤ n_136.toInt) := hw
            have hsg262 : XE (n_137.toInt = 0) (n_129.toInt = 0 ∧ n_127.toInt + 1 ≤ n_136.toInt) := fun h9 => hw.2.2 h9
            replace hw := And.intro hw.1 hw.2.1
            have hsw262 := hw
            refine lv_aload_n hx hb dX12_statement_265 rfl (lv_at hl 1 rfl) ?_
            refine va_get (D := D) (ci := 11) (v := .ref (ad 24)) (C := RX12) (T := TX12) (N := 85) hx hb hts inX12 hown hK hP 0 mwd_o0 rfl 24 (by decide) fl60 (fun _ h9 => h9) rfl dX12_statement_266 ?_
            refine lv_iconst (v := 2) hx hb dX12_statement_269 (by decide) ?_
            refine lv_dup2_11 hx hb dX12_statement_270 rfl rfl ?_
            refine va_iald hx hb hK hP 16 2 mwd_a16 rfl (x_in (by decide) (by decide)) dX12_statement_271 ?_
            refine lv_topi (fun i_139 ei_139 => ?_)
            have ei_139 : i_139 = f_5 (Int32.toNatClampNeg 2) := ei_139
            have gi_139 : i_139.toInt = (f_5 2).toInt := by rw [ei_139]; rfl
            refine lv_iconst (v := 1) hx hb dX12_statement_272 (by decide) ?_
            refine lv_iadd hx hb dX12_statement_273 ?_
            refine lv_topi (fun i_140 ei_140 => ?_)
            have vi_140 : i_140.toInt = i_139.toInt + 1 := by have h9 := x_add ei_140 (by omega) (by omega); omega
            refine va_iast hx hb hK hP hD hS 16 2 mwd_a16 rfl (x_in (by decide) (by decide)) dX12_statement_274 (fun H locs hP hD hS => ?_)
            obtain ⟨f_141, ef_141⟩ : ∃ z9 : Nat → Int32, z9 = (upd f_5 (Int32.toNatClampNeg 2) i_140) := ⟨_, rfl⟩
            have hP : va_P D vwCl (mwd y ad zw (tI (sI (sI (sI (tI (tJ (sI (sI (sI (sI (sI (sI (sI (sI (sI (sI (sI (sI (sI (sI (sI (sI (sI (tI σ 24 f_5) 31 0) 40 0) 2 n_7) 2 n_10) 2 n_13) 5 n_112) 6 n_113) 2 n_114) 4 n_115) 5 n_116) 6 n_117) 2 n_127) 4 n_128) 5 n_129) 6 n_130) 23 n_131) 33 n_132) 34 f_133) 35 f_134) 2 n_136) 5 n_137) 6 n_138) 24 f_141)) H := by rw [ef_141]; exact x_trP hP mwd_s16
            have hD : va_D A (mwd y ad zw (tI (sI (sI (sI (tI (tJ (sI (sI (sI (sI (sI (sI (sI (sI (sI (sI (sI (sI (sI (sI (sI (sI (sI (tI σ 24 f_5) 31 0) 40 0) 2 n_7) 2 n_10) 2 n_13) 5 n_112) 6 n_113) 2 n_114) 4 n_115) 5 n_116) 6 n_117) 2 n_127) 4 n_128) 5 n_129) 6 n_130) 23 n_131) 33 n_132) 34 f_133) 35 f_134) 2 n_136) 5 n_137) 6 n_138) 24 f_141)) := by rw [ef_141]; exact x_trD hD mwd_s16
            have s0f_141 : (f_141 0).toInt = (f_5 0).toInt := by rw [ef_141]; exact congrArg Int32.toInt (x_upd_ne _ _ (show 0 ≠ 2 by decide))
            have s1f_141 : (f_141 1).toInt = (f_5 1).toInt := by rw [ef_141]; exact congrArg Int32.toInt (x_upd_ne _ _ (show 1 ≠ 2 by decide))
            have s2f_141 : (f_141 2).toInt = i_140.toInt := by rw [ef_141]; exact congrArg Int32.toInt (x_upd_same _ 2 _)
            have s3f_141 : (f_141 3).toInt = (f_5 3).toInt := by rw [ef_141]; exact congrArg Int32.toInt (x_upd_ne _ _ (show 3 ≠ 2 by decide))
            have s4f_141 : (f_141 4).toInt = (f_5 4).toInt := by rw [ef_141]; exact congrArg Int32.toInt (x_upd_ne _ _ (show 4 ≠ 2 by decide))
            have hff_141 : ∀ q : Nat, 5 ≤ q → f_141 q = σ.2.2.1 24 q := fun q h9 => by rw [ef_141]; exact (x_upd_ne _ _ (show q ≠ 2 by omega)).trans (hff_5 q h9)
            refine lv_goto (tgt := 371) hx hb dX12_statement_275 (by decide) ?_
            have hP : va_P D vwCl (mwd y ad zw (tI (sI (tI (tI (tI (tI (tJ (sI (tI (sI (tI (tI (sI (tI (sI (tI (sI (sI (sI (sI (sI (sI σ 2 n_136) 4 n_128) 5 n_137) 6 n_138) 23 n_131) 29 (σ.1 29)) 27 (σ.2.2.1 27)) 32 (σ.1 32)) 30 (σ.2.2.1 30)) 31 0) 24 f_141) 26 (σ.2.2.1 26)) 40 0) 41 (σ.2.2.1 41)) 33 n_132) 34 f_133) 35 f_134) 36 (σ.2.2.1 36)) 37 (σ.2.2.1 37)) 38 (σ.2.2.1 38)) 39 (σ.1 39)) 25 (σ.2.2.1 25))) H := hP
            have hD : va_D A (mwd y ad zw (tI (sI (tI (tI (tI (tI (tJ (sI (tI (sI (tI (tI (sI (tI (sI (tI (sI (sI (sI (sI (sI (sI σ 2 n_136) 4 n_128) 5 n_137) 6 n_138) 23 n_131) 29 (σ.1 29)) 27 (σ.2.2.1 27)) 32 (σ.1 32)) 30 (σ.2.2.1 30)) 31 0) 24 f_141) 26 (σ.2.2.1 26)) 40 0) 41 (σ.2.2.1 41)) 33 n_132) 34 f_133) 35 f_134) 36 (σ.2.2.1 36)) 37 (σ.2.2.1 37)) 38 (σ.2.2.1 38)) 39 (σ.1 39)) 25 (σ.2.2.1 25))) := hD
            exact x_vretW (u := (n_136, n_128, n_137, n_138, n_131, (σ.1 29), (σ.2.2.1 27), (σ.1 32), (σ.2.2.1 30), 0, f_141, (σ.2.2.1 26), 0, (σ.2.2.1 41), n_132, f_133, f_134, (σ.2.2.1 36), (σ.2.2.1 37), (σ.2.2.1 38), (σ.1 39), (σ.2.2.1 25))) hx hb hr hQ (by (try dsimp only); exact ⟨⟨by omega, by omega, hff_141, fun h9 => by obtain ⟨hx0, hy0⟩ := hsg262 h9; obtain ⟨hn1, hn2⟩ := hnm hx0; exact ⟨by omega, ⟨by omega, by omega, by omega, by omega, by omega, by omega, by omega, by omega, by omega, by omega, by omega⟩, by omega, by omega, by omega, by omega, by omega, by rw [show (f_141 4).toInt = (σ.2.2.1 24 4).toInt by omega]; exact hpe⟩⟩, hg_135, hB26, hB25⟩) hP hD hK hS dX12_statement_371 hlocks
      · have kc_11 : r_9.toInt ≠ 0 := by have h9 := c_11; simp only [ge_iff_le, gt_iff_lt, x_lt, x_le, x_eq, ne_eq, Int32.not_lt, Int32.not_le] at h9; simp only [Int32.reduceToInt] at h9; omega
        refine lv_aload_n hx hb dX12_statement_117 rfl (lv_at hl 1 rfl) ?_
        refine lv_iconst (v := 1) hx hb dX12_statement_118 (by decide) ?_
        refine lv_iconst (v := 4) hx hb dX12_statement_119 (by decide) ?_
        refine lv_iload_n hx hb dX12_statement_120 rfl (lv_at hl 0 rfl) ?_
        refine x_callvW (va_runV (As := [.int 1, .int 4, .int (σ.1 2)]) (rest := []) ⟨hx, hb, hml, hown, hts⟩ (q_tells l D y H.size ad zw (sI (sI (sI (sI (tI σ 24 f_5) 31 0) 40 0) 2 n_7) 2 n_10) 1 4 (σ.1 2) (by first | omega | decide) (by first | omega | decide)) (cwV 3 hts g_q_statement_8 rfl rfl rfl (by decide +kernel) ⟨Nat.le_of_ble_eq_true rfl, Nat.le_of_ble_eq_true rfl⟩) (x_preV (q := (RX12, TX12, 85)) hK hP hD (ci := 11) (q0 := 0) rfl mwd_o0) rfl rfl hl.1 rfl (lv_room (Nat.le_of_ble_eq_true rfl)) dX12_statement_121 ⟨Nat.le_of_ble_eq_true rfl, Nat.le_of_ble_eq_true rfl⟩) hP hD hS hA (fun u H locs hw hP hD hS => ?_)
        obtain ⟨n_142, n_143⟩ := u
        try dsimp only at hw
        have hP : va_P D vwCl (mwd y ad zw (sI (sI (sI (sI (sI (sI (tI σ 24 f_5) 31 0) 40 0) 2 n_7) 2 n_10) 5 n_142) 6 n_143)) H := hP
        have hD : va_D A (mwd y ad zw (sI (sI (sI (sI (sI (sI (tI σ 24 f_5) 31 0) 40 0) 2 n_7) 2 n_10) 5 n_142) 6 n_143)) := hD
        replace hw : n_142.toInt ≠ 0 ∨ (n_142 = ((σ.1 5)) ∧ ((σ.1 39)).toInt ≤ 0 ∧ (f_5 (1 : Int32).toInt.toNat).toInt ≠ (4 : Int32).toInt) := hw
        have htl : XE (n_142.toInt = 0) ((σ.1 39).toInt ≤ 0 ∧ (f_5 1).toInt ≠ 4) := fun h9 => by rcases hw with h8 | ⟨h8, h7, h6⟩ <;> first | exact absurd h9 h8 | exact ⟨h7, h6⟩
        clear hw
        refine lv_aload_n hx hb dX12_statement_124 rfl (lv_at hl 1 rfl) ?_
        refine lv_aload_n hx hb dX12_statement_125 rfl (lv_at hl 1 rfl) ?_
        refine va_get (D := D) (ci := 11) (v := .ref (ad 10)) (C := RX12) (T := TX12) (N := 85) hx hb hts inX12 hown hK hP 0 mwd_o0 rfl 10 (by decide) fl21 (fun _ h9 => h9) rfl dX12_statement_126 ?_
        refine x_callvW (va_runV (As := [.ref (ad 10)]) (rest := []) ⟨hx, hb, hml, hown, hts⟩ (q_asks l D y H.size ad zw (sI (sI (sI (sI (sI (sI (tI σ 24 f_5) 31 0) 40 0) 2 n_7) 2 n_10) 5 n_142) 6 n_143) (ad 10) 3 3 (zw 10) (fun _ => rfl) (by decide) (by decide) (show 0 ≤ (n_10).toInt from by first | omega | decide) (show (n_10).toInt ≤ ((σ.1 3)).toInt from by first | omega | decide) (show ((σ.1 3)).toInt ≤ 700 from by first | omega | decide)) (cwV 1 hts g_q_statement_9 rfl rfl rfl (by decide +kernel) ⟨Nat.le_of_ble_eq_true rfl, Nat.le_of_ble_eq_true rfl⟩) (x_preV (q := (RX12, TX12, 85)) hK hP hD (ci := 11) (q0 := 0) rfl mwd_o0) rfl rfl hl.1 rfl (lv_room (Nat.le_of_ble_eq_true rfl)) dX12_statement_129 ⟨Nat.le_of_ble_eq_true rfl, Nat.le_of_ble_eq_true rfl⟩) hP hD hS hA (fun u H locs hw hP hD hS => ?_)
        obtain ⟨n_144, n_145, n_146, n_147⟩ := u
        try dsimp only at hw
        have hP : va_P D vwCl (mwd y ad zw (sI (sI (sI (sI (sI (sI (sI (sI (sI (sI (tI σ 24 f_5) 31 0) 40 0) 2 n_7) 2 n_10) 5 n_142) 6 n_143) 2 n_144) 4 n_145) 5 n_146) 6 n_147)) H := hP
        have hD : va_D A (mwd y ad zw (sI (sI (sI (sI (sI (sI (sI (sI (sI (sI (tI σ 24 f_5) 31 0) 40 0) 2 n_7) 2 n_10) 5 n_142) 6 n_143) 2 n_144) 4 n_145) 5 n_146) 6 n_147)) := hD
        replace hw : (n_10).toInt ≤ n_144.toInt ∧ n_144.toInt ≤ ((σ.1 3)).toInt ∧ (n_146.toInt = 0 → (n_142).toInt = 0 ∧ (n_10).toInt + 3 ≤ n_144.toInt) := hw
        have hak : XE (n_146.toInt = 0) (n_142.toInt = 0 ∧ n_10.toInt + 3 ≤ n_144.toInt) := fun h9 => ⟨(hw.2.2 h9).1, by have h8 := (hw.2.2 h9).2; omega⟩
        replace hw := And.intro hw.1 hw.2.1
        have hakw := hw
        refine lv_aload_n hx hb dX12_statement_132 rfl (lv_at hl 1 rfl) ?_
        refine va_get (D := D) (ci := 11) (v := .int n_146) (C := RX12) (T := TX12) (N := 85) hx hb hts inX12 hown hK hP 0 mwd_o0 rfl 5 (by decide) fl191 (fun _ h9 => h9) rfl dX12_statement_133 ?_
        refine lv_if_ne (tgt := 152) hx hb dX12_statement_136 (by decide) (fun c_148 => ?_) (fun c_148 => ?_)
        · have kc_148 : n_146.toInt ≠ 0 := by have h9 := c_148; simp only [ge_iff_le, gt_iff_lt, x_lt, x_le, x_eq, ne_eq, Int32.not_lt, Int32.not_le] at h9; simp only [Int32.reduceToInt] at h9; omega
          refine lv_aload_n hx hb dX12_statement_152 rfl (lv_at hl 1 rfl) ?_
          refine lv_bipush (v := 91) hx hb dX12_statement_153 (by decide) ?_
          refine x_callvW (va_runV (As := [.int 91]) (rest := []) ⟨hx, hb, hml, hown, hts⟩ (q_asksSign l D y H.size ad zw (sI (sI (sI (sI (sI (sI (sI (sI (sI (sI (tI σ 24 f_5) 31 0) 40 0) 2 n_7) 2 n_10) 5 n_142) 6 n_143) 2 n_144) 4 n_145) 5 n_146) 6 n_147) 91 (by first | omega | decide) (show 0 ≤ (n_144).toInt from by first | omega | decide) (show (n_144).toInt ≤ ((σ.1 3)).toInt from by first | omega | decide) (show ((σ.1 3)).toInt ≤ 700 from by first | omega | decide)) (cwV 1 hts g_q_statement_6 rfl rfl rfl (by decide +kernel) ⟨Nat.le_of_ble_eq_true rfl, Nat.le_of_ble_eq_true rfl⟩) (x_preV (q := (RX12, TX12, 85)) hK hP hD (ci := 11) (q0 := 0) rfl mwd_o0) rfl rfl hl.1 rfl (lv_room (Nat.le_of_ble_eq_true rfl)) dX12_statement_155 ⟨Nat.le_of_ble_eq_true rfl, Nat.le_of_ble_eq_true rfl⟩) hP hD hS hA (fun u H locs hw hP hD hS => ?_)
          obtain ⟨n_149, n_150, n_151⟩ := u
          try dsimp only at hw
          have hP : va_P D vwCl (mwd y ad zw (sI (sI (sI (sI (sI (sI (sI (sI (sI (sI (sI (sI (sI (tI σ 24 f_5) 31 0) 40 0) 2 n_7) 2 n_10) 5 n_142) 6 n_143) 2 n_144) 4 n_145) 5 n_146) 6 n_147) 2 n_149) 5 n_150) 6 n_151)) H := hP
          have hD : va_D A (mwd y ad zw (sI (sI (sI (sI (sI (sI (sI (sI (sI (sI (sI (sI (sI (tI σ 24 f_5) 31 0) 40 0) 2 n_7) 2 n_10) 5 n_142) 6 n_143) 2 n_144) 4 n_145) 5 n_146) 6 n_147) 2 n_149) 5 n_150) 6 n_151)) := hD
          replace hw : (n_144).toInt ≤ n_149.toInt ∧ n_149.toInt ≤ ((σ.1 3)).toInt ∧ (n_150.toInt = 0 → (n_146).toInt = 0 ∧ (n_144).toInt + 1 ≤ n_149.toInt) := hw
          have hsg155 : XE (n_150.toInt = 0) (n_146.toInt = 0 ∧ n_144.toInt + 1 ≤ n_149.toInt) := fun h9 => hw.2.2 h9
          replace hw := And.intro hw.1 hw.2.1
          have hsw155 := hw
          refine lv_aload_n hx hb dX12_statement_158 rfl (lv_at hl 1 rfl) ?_
          refine lv_iconst (v := 1) hx hb dX12_statement_159 (by decide) ?_
          refine lv_bipush (v := 16) hx hb dX12_statement_160 (by decide) ?_
          refine x_calliW (va_runV (As := [.int 1, .int 16]) (rest := []) ⟨hx, hb, hml, hown, hts⟩ (q_number l D y H.size ad zw (sI (sI (sI (sI (sI (sI (sI (sI (sI (sI (sI (sI (sI (tI σ 24 f_5) 31 0) 40 0) 2 n_7) 2 n_10) 5 n_142) 6 n_143) 2 n_144) 4 n_145) 5 n_146) 6 n_147) 2 n_149) 5 n_150) 6 n_151) 1 16 (show 0 ≤ (n_149).toInt from by first | omega | decide) (show (n_149).toInt ≤ ((σ.1 3)).toInt from by first | omega | decide) (show ((σ.1 3)).toInt ≤ 700 from by first | omega | decide)) (cwV 2 hts g_q_statement_11 rfl rfl rfl (by decide +kernel) ⟨Nat.le_of_ble_eq_true rfl, Nat.le_of_ble_eq_true rfl⟩) (x_preV (q := (RX12, TX12, 85)) hK hP hD (ci := 11) (q0 := 0) rfl mwd_o0) rfl rfl hl.1 rfl (lv_room (Nat.le_of_ble_eq_true rfl)) dX12_statement_162 ⟨Nat.le_of_ble_eq_true rfl, Nat.le_of_ble_eq_true rfl⟩) hP hD hS hA (fun r_152 u H locs hw hP hD hS => ?_)
          obtain ⟨n_153, n_154, n_155, n_156⟩ := u
          try dsimp only at hw
          have hP : va_P D vwCl (mwd y ad zw (sI (sI (sI (sI (sI (sI (sI (sI (sI (sI (sI (sI (sI (sI (sI (sI (sI (tI σ 24 f_5) 31 0) 40 0) 2 n_7) 2 n_10) 5 n_142) 6 n_143) 2 n_144) 4 n_145) 5 n_146) 6 n_147) 2 n_149) 5 n_150) 6 n_151) 2 n_153) 4 n_154) 5 n_155) 6 n_156)) H := hP
          have hD : va_D A (mwd y ad zw (sI (sI (sI (sI (sI (sI (sI (sI (sI (sI (sI (sI (sI (sI (sI (sI (sI (tI σ 24 f_5) 31 0) 40 0) 2 n_7) 2 n_10) 5 n_142) 6 n_143) 2 n_144) 4 n_145) 5 n_146) 6 n_147) 2 n_149) 5 n_150) 6 n_151) 2 n_153) 4 n_154) 5 n_155) 6 n_156)) := hD
          replace hw : (n_149).toInt ≤ n_153.toInt ∧ n_153.toInt ≤ ((σ.1 3)).toInt ∧ 0 ≤ r_152.toInt ∧ r_152.toInt ≤ 9999 ∧ (n_155.toInt = 0 → (n_150).toInt = 0 ∧ (n_149).toInt + 1 ≤ n_153.toInt ∧ (1 : Int32).toInt ≤ r_152.toInt ∧ r_152.toInt ≤ (16 : Int32).toInt) := hw
          have hnu : XE (n_155.toInt = 0) (n_150.toInt = 0 ∧ n_149.toInt + 1 ≤ n_153.toInt ∧ 1 ≤ r_152.toInt ∧ r_152.toInt ≤ 16) := fun h9 => ⟨(hw.2.2.2.2 h9).1, (hw.2.2.2.2 h9).2.1, (hw.2.2.2.2 h9).2.2.1, (hw.2.2.2.2 h9).2.2.2⟩
          replace hw := And.intro hw.1 hw.2.1
          have hnuw := hw
          refine lv_istore_n (lv' := [(2, .int r_152), (1, .int (σ.1 2)), (0, .ref (ad 1))]) hx hb dX12_statement_165 rfl hl (by decide) rfl (fun ls hl => ?_)
          refine lv_aload_n hx hb dX12_statement_166 rfl (lv_at hl 2 rfl) ?_
          refine lv_bipush (v := 93) hx hb dX12_statement_167 (by decide) ?_
          refine x_callvW (va_runV (As := [.int 93]) (rest := []) ⟨hx, hb, hml, hown, hts⟩ (q_asksSign l D y H.size ad zw (sI (sI (sI (sI (sI (sI (sI (sI (sI (sI (sI (sI (sI (sI (sI (sI (sI (tI σ 24 f_5) 31 0) 40 0) 2 n_7) 2 n_10) 5 n_142) 6 n_143) 2 n_144) 4 n_145) 5 n_146) 6 n_147) 2 n_149) 5 n_150) 6 n_151) 2 n_153) 4 n_154) 5 n_155) 6 n_156) 93 (by first | omega | decide) (show 0 ≤ (n_153).toInt from by first | omega | decide) (show (n_153).toInt ≤ ((σ.1 3)).toInt from by first | omega | decide) (show ((σ.1 3)).toInt ≤ 700 from by first | omega | decide)) (cwV 1 hts g_q_statement_6 rfl rfl rfl (by decide +kernel) ⟨Nat.le_of_ble_eq_true rfl, Nat.le_of_ble_eq_true rfl⟩) (x_preV (q := (RX12, TX12, 85)) hK hP hD (ci := 11) (q0 := 0) rfl mwd_o0) rfl rfl hl.1 rfl (lv_room (Nat.le_of_ble_eq_true rfl)) dX12_statement_169 ⟨Nat.le_of_ble_eq_true rfl, Nat.le_of_ble_eq_true rfl⟩) hP hD hS hA (fun u H locs hw hP hD hS => ?_)
          obtain ⟨n_157, n_158, n_159⟩ := u
          try dsimp only at hw
          have hP : va_P D vwCl (mwd y ad zw (sI (sI (sI (sI (sI (sI (sI (sI (sI (sI (sI (sI (sI (sI (sI (sI (sI (sI (sI (sI (tI σ 24 f_5) 31 0) 40 0) 2 n_7) 2 n_10) 5 n_142) 6 n_143) 2 n_144) 4 n_145) 5 n_146) 6 n_147) 2 n_149) 5 n_150) 6 n_151) 2 n_153) 4 n_154) 5 n_155) 6 n_156) 2 n_157) 5 n_158) 6 n_159)) H := hP
          have hD : va_D A (mwd y ad zw (sI (sI (sI (sI (sI (sI (sI (sI (sI (sI (sI (sI (sI (sI (sI (sI (sI (sI (sI (sI (tI σ 24 f_5) 31 0) 40 0) 2 n_7) 2 n_10) 5 n_142) 6 n_143) 2 n_144) 4 n_145) 5 n_146) 6 n_147) 2 n_149) 5 n_150) 6 n_151) 2 n_153) 4 n_154) 5 n_155) 6 n_156) 2 n_157) 5 n_158) 6 n_159)) := hD
          replace hw : (n_153).toInt ≤ n_157.toInt ∧ n_157.toInt ≤ ((σ.1 3)).toInt ∧ (n_158.toInt = 0 → (n_155).toInt = 0 ∧ (n_153).toInt + 1 ≤ n_157.toInt) := hw
          have hsg169 : XE (n_158.toInt = 0) (n_155.toInt = 0 ∧ n_153.toInt + 1 ≤ n_157.toInt) := fun h9 => hw.2.2 h9
          replace hw := And.intro hw.1 hw.2.1
          have hsw169 := hw
          refine lv_aload_n hx hb dX12_statement_172 rfl (lv_at hl 2 rfl) ?_
          refine lv_bipush (v := 59) hx hb dX12_statement_173 (by decide) ?_
          refine x_callvW (va_runV (As := [.int 59]) (rest := []) ⟨hx, hb, hml, hown, hts⟩ (q_asksSign l D y H.size ad zw (sI (sI (sI (sI (sI (sI (sI (sI (sI (sI (sI (sI (sI (sI (sI (sI (sI (sI (sI (sI (tI σ 24 f_5) 31 0) 40 0) 2 n_7) 2 n_10) 5 n_142) 6 n_143) 2 n_144) 4 n_145) 5 n_146) 6 n_147) 2 n_149) 5 n_150) 6 n_151) 2 n_153) 4 n_154) 5 n_155) 6 n_156) 2 n_157) 5 n_158) 6 n_159) 59 (by first | omega | decide) (show 0 ≤ (n_157).toInt from by first | omega | decide) (show (n_157).toInt ≤ ((σ.1 3)).toInt from by first | omega | decide) (show ((σ.1 3)).toInt ≤ 700 from by first | omega | decide)) (cwV 1 hts g_q_statement_6 rfl rfl rfl (by decide +kernel) ⟨Nat.le_of_ble_eq_true rfl, Nat.le_of_ble_eq_true rfl⟩) (x_preV (q := (RX12, TX12, 85)) hK hP hD (ci := 11) (q0 := 0) rfl mwd_o0) rfl rfl hl.1 rfl (lv_room (Nat.le_of_ble_eq_true rfl)) dX12_statement_175 ⟨Nat.le_of_ble_eq_true rfl, Nat.le_of_ble_eq_true rfl⟩) hP hD hS hA (fun u H locs hw hP hD hS => ?_)
          obtain ⟨n_160, n_161, n_162⟩ := u
          try dsimp only at hw
          have hP : va_P D vwCl (mwd y ad zw (sI (sI (sI (sI (sI (sI (sI (sI (sI (sI (sI (sI (sI (sI (sI (sI (sI (sI (sI (sI (sI (sI (sI (tI σ 24 f_5) 31 0) 40 0) 2 n_7) 2 n_10) 5 n_142) 6 n_143) 2 n_144) 4 n_145) 5 n_146) 6 n_147) 2 n_149) 5 n_150) 6 n_151) 2 n_153) 4 n_154) 5 n_155) 6 n_156) 2 n_157) 5 n_158) 6 n_159) 2 n_160) 5 n_161) 6 n_162)) H := hP
          have hD : va_D A (mwd y ad zw (sI (sI (sI (sI (sI (sI (sI (sI (sI (sI (sI (sI (sI (sI (sI (sI (sI (sI (sI (sI (sI (sI (sI (tI σ 24 f_5) 31 0) 40 0) 2 n_7) 2 n_10) 5 n_142) 6 n_143) 2 n_144) 4 n_145) 5 n_146) 6 n_147) 2 n_149) 5 n_150) 6 n_151) 2 n_153) 4 n_154) 5 n_155) 6 n_156) 2 n_157) 5 n_158) 6 n_159) 2 n_160) 5 n_161) 6 n_162)) := hD
          replace hw : (n_157).toInt ≤ n_160.toInt ∧ n_160.toInt ≤ ((σ.1 3)).toInt ∧ (n_161.toInt = 0 → (n_158).toInt = 0 ∧ (n_157).toInt + 1 ≤ n_160.toInt) := hw
          have hsg175 : XE (n_161.toInt = 0) (n_158.toInt = 0 ∧ n_157.toInt + 1 ≤ n_160.toInt) := fun h9 => hw.2.2 h9
          replace hw := And.intro hw.1 hw.2.1
          have hsw175 := hw
          refine lv_aload_n hx hb dX12_statement_178 rfl (lv_at hl 2 rfl) ?_
          refine va_get (D := D) (ci := 11) (v := .int n_161) (C := RX12) (T := TX12) (N := 85) hx hb hts inX12 hown hK hP 0 mwd_o0 rfl 5 (by decide) fl191 (fun _ h9 => h9) rfl dX12_statement_179 ?_
          refine lv_if_ne (tgt := 199) hx hb dX12_statement_182 (by decide) (fun c_163 => ?_) (fun c_163 => ?_)
          · have kc_163 : n_161.toInt ≠ 0 := by have h9 := c_163; simp only [ge_iff_le, gt_iff_lt, x_lt, x_le, x_eq, ne_eq, Int32.not_lt, Int32.not_le] at h9; simp only [Int32.reduceToInt] at h9; omega
            refine lv_aload_n hx hb dX12_statement_199 rfl (lv_at hl 2 rfl) ?_
            refine va_get (D := D) (ci := 11) (v := .ref (ad 24)) (C := RX12) (T := TX12) (N := 85) hx hb hts inX12 hown hK hP 0 mwd_o0 rfl 24 (by decide) fl60 (fun _ h9 => h9) rfl dX12_statement_200 ?_
            refine lv_iconst (v := 1) hx hb dX12_statement_203 (by decide) ?_
            refine lv_dup2_11 hx hb dX12_statement_204 rfl rfl ?_
            refine va_iald hx hb hK hP 16 2 mwd_a16 rfl (x_in (by decide) (by decide)) dX12_statement_205 ?_
            refine lv_topi (fun i_164 ei_164 => ?_)
            have ei_164 : i_164 = f_5 (Int32.toNatClampNeg 1) := ei_164
            have gi_164 : i_164.toInt = (f_5 1).toInt := by rw [ei_164]; rfl
            refine lv_iconst (v := 1) hx hb dX12_statement_206 (by decide) ?_
            refine lv_iadd hx hb dX12_statement_207 ?_
            refine lv_topi (fun i_165 ei_165 => ?_)
            have vi_165 : i_165.toInt = i_164.toInt + 1 := by have h9 := x_add ei_165 (by omega) (by omega); omega
            refine va_iast hx hb hK hP hD hS 16 2 mwd_a16 rfl (x_in (by decide) (by decide)) dX12_statement_208 (fun H locs hP hD hS => ?_)
            obtain ⟨f_166, ef_166⟩ : ∃ z9 : Nat → Int32, z9 = (upd f_5 (Int32.toNatClampNeg 1) i_165) := ⟨_, rfl⟩
            have hP : va_P D vwCl (mwd y ad zw (tI (sI (sI (sI (sI (sI (sI (sI (sI (sI (sI (sI (sI (sI (sI (sI (sI (sI (sI (sI (sI (sI (sI (sI (tI σ 24 f_5) 31 0) 40 0) 2 n_7) 2 n_10) 5 n_142) 6 n_143) 2 n_144) 4 n_145) 5 n_146) 6 n_147) 2 n_149) 5 n_150) 6 n_151) 2 n_153) 4 n_154) 5 n_155) 6 n_156) 2 n_157) 5 n_158) 6 n_159) 2 n_160) 5 n_161) 6 n_162) 24 f_166)) H := by rw [ef_166]; exact x_trP hP mwd_s16
            have hD : va_D A (mwd y ad zw (tI (sI (sI (sI (sI (sI (sI (sI (sI (sI (sI (sI (sI (sI (sI (sI (sI (sI (sI (sI (sI (sI (sI (sI (tI σ 24 f_5) 31 0) 40 0) 2 n_7) 2 n_10) 5 n_142) 6 n_143) 2 n_144) 4 n_145) 5 n_146) 6 n_147) 2 n_149) 5 n_150) 6 n_151) 2 n_153) 4 n_154) 5 n_155) 6 n_156) 2 n_157) 5 n_158) 6 n_159) 2 n_160) 5 n_161) 6 n_162) 24 f_166)) := by rw [ef_166]; exact x_trD hD mwd_s16
            have s0f_166 : (f_166 0).toInt = (f_5 0).toInt := by rw [ef_166]; exact congrArg Int32.toInt (x_upd_ne _ _ (show 0 ≠ 1 by decide))
            have s1f_166 : (f_166 1).toInt = i_165.toInt := by rw [ef_166]; exact congrArg Int32.toInt (x_upd_same _ 1 _)
            have s2f_166 : (f_166 2).toInt = (f_5 2).toInt := by rw [ef_166]; exact congrArg Int32.toInt (x_upd_ne _ _ (show 2 ≠ 1 by decide))
            have s3f_166 : (f_166 3).toInt = (f_5 3).toInt := by rw [ef_166]; exact congrArg Int32.toInt (x_upd_ne _ _ (show 3 ≠ 1 by decide))
            have s4f_166 : (f_166 4).toInt = (f_5 4).toInt := by rw [ef_166]; exact congrArg Int32.toInt (x_upd_ne _ _ (show 4 ≠ 1 by decide))
            have hff_166 : ∀ q : Nat, 5 ≤ q → f_166 q = σ.2.2.1 24 q := fun q h9 => by rw [ef_166]; exact (x_upd_ne _ _ (show q ≠ 1 by omega)).trans (hff_5 q h9)
            refine lv_goto (tgt := 371) hx hb dX12_statement_209 (by decide) ?_
            have hP : va_P D vwCl (mwd y ad zw (tI (sI (tI (tI (tI (tI (tJ (sI (tI (sI (tI (tI (sI (tI (sI (tI (sI (sI (sI (sI (sI (sI σ 2 n_160) 4 n_154) 5 n_161) 6 n_162) 23 (σ.1 23)) 29 (σ.1 29)) 27 (σ.2.2.1 27)) 32 (σ.1 32)) 30 (σ.2.2.1 30)) 31 0) 24 f_166) 26 (σ.2.2.1 26)) 40 0) 41 (σ.2.2.1 41)) 33 (σ.1 33)) 34 (σ.2.2.2 34)) 35 (σ.2.2.1 35)) 36 (σ.2.2.1 36)) 37 (σ.2.2.1 37)) 38 (σ.2.2.1 38)) 39 (σ.1 39)) 25 (σ.2.2.1 25))) H := hP
            have hD : va_D A (mwd y ad zw (tI (sI (tI (tI (tI (tI (tJ (sI (tI (sI (tI (tI (sI (tI (sI (tI (sI (sI (sI (sI (sI (sI σ 2 n_160) 4 n_154) 5 n_161) 6 n_162) 23 (σ.1 23)) 29 (σ.1 29)) 27 (σ.2.2.1 27)) 32 (σ.1 32)) 30 (σ.2.2.1 30)) 31 0) 24 f_166) 26 (σ.2.2.1 26)) 40 0) 41 (σ.2.2.1 41)) 33 (σ.1 33)) 34 (σ.2.2.2 34)) 35 (σ.2.2.1 35)) 36 (σ.2.2.1 36)) 37 (σ.2.2.1 37)) 38 (σ.2.2.1 38)) 39 (σ.1 39)) 25 (σ.2.2.1 25))) := hD
            exact x_vretW (u := (n_160, n_154, n_161, n_162, (σ.1 23), (σ.1 29), (σ.2.2.1 27), (σ.1 32), (σ.2.2.1 30), 0, f_166, (σ.2.2.1 26), 0, (σ.2.2.1 41), (σ.1 33), (σ.2.2.2 34), (σ.2.2.1 35), (σ.2.2.1 36), (σ.2.2.1 37), (σ.2.2.1 38), (σ.1 39), (σ.2.2.1 25))) hx hb hr hQ (by (try dsimp only); exact ⟨⟨by omega, by omega, hff_166, fun h9 => by obtain ⟨hx0, hy0⟩ := hsg175 h9; obtain ⟨hx1, hy1⟩ := hsg169 hx0; obtain ⟨hx2, hy2, _, _⟩ := hnu hx1; obtain ⟨hx3, hy3⟩ := hsg155 hx2; exfalso; omega⟩, hB35, hB26, hB25⟩) hP hD hK hS dX12_statement_371 hlocks
          · have kc_163 : n_161.toInt = 0 := by have h9 := c_163; simp only [ge_iff_le, gt_iff_lt, x_lt, x_le, x_eq, ne_eq, Int32.not_lt, Int32.not_le] at h9; simp only [Int32.reduceToInt] at h9; omega
            obtain ⟨hq1, hq2⟩ := hsg175 (by omega)
            obtain ⟨hq3, hq4⟩ := hsg169 hq1
            obtain ⟨hq5, hq6, hq7, hq8⟩ := hnu hq3
            refine lv_aload_n hx hb dX12_statement_185 rfl (lv_at hl 2 rfl) ?_
            refine va_get (D := D) (ci := 11) (v := .ref (ad 25)) (C := RX12) (T := TX12) (N := 85) hx hb hts inX12 hown hK hP 0 mwd_o0 rfl 25 (by decide) fl63 (fun _ h9 => h9) rfl dX12_statement_186 ?_
            refine lv_iconst (v := 0) hx hb dX12_statement_189 (by decide) ?_
            refine lv_aload_n hx hb dX12_statement_190 rfl (lv_at hl 2 rfl) ?_
            refine va_get (D := D) (ci := 11) (v := .ref (ad 24)) (C := RX12) (T := TX12) (N := 85) hx hb hts inX12 hown hK hP 0 mwd_o0 rfl 24 (by decide) fl60 (fun _ h9 => h9) rfl dX12_statement_191 ?_
            refine lv_iconst (v := 1) hx hb dX12_statement_194 (by decide) ?_
            refine va_iald hx hb hK hP 16 2 mwd_a16 rfl (x_in (by decide) (by decide)) dX12_statement_195 ?_
            refine lv_topi (fun i_167 ei_167 => ?_)
            have ei_167 : i_167 = f_5 (Int32.toNatClampNeg 1) := ei_167
            have gi_167 : i_167.toInt = (f_5 1).toInt := by rw [ei_167]; rfl
            refine lv_iadd hx hb dX12_statement_196 ?_
            refine lv_topi (fun i_168 ei_168 => ?_)
            have vi_168 : i_168.toInt = 0 + i_167.toInt := by have h9 := x_add ei_168 (by omega) (by omega); omega
            refine lv_iload_n hx hb dX12_statement_197 rfl (lv_at hl 0 rfl) ?_
            refine va_iast hx hb hK hP hD hS 17 2 mwd_a17 rfl (x_in (by omega) (by omega)) dX12_statement_198 (fun H locs hP hD hS => ?_)
            obtain ⟨f_169, ef_169⟩ : ∃ z9 : Nat → Int32, z9 = (upd (σ.2.2.1 25) (Int32.toNatClampNeg i_168) r_152) := ⟨_, rfl⟩
            have hP : va_P D vwCl (mwd y ad zw (tI (sI (sI (sI (sI (sI (sI (sI (sI (sI (sI (sI (sI (sI (sI (sI (sI (sI (sI (sI (sI (sI (sI (sI (tI σ 24 f_5) 31 0) 40 0) 2 n_7) 2 n_10) 5 n_142) 6 n_143) 2 n_144) 4 n_145) 5 n_146) 6 n_147) 2 n_149) 5 n_150) 6 n_151) 2 n_153) 4 n_154) 5 n_155) 6 n_156) 2 n_157) 5 n_158) 6 n_159) 2 n_160) 5 n_161) 6 n_162) 25 f_169)) H := by rw [ef_169]; exact x_trP hP mwd_s17
            have hD : va_D A (mwd y ad zw (tI (sI (sI (sI (sI (sI (sI (sI (sI (sI (sI (sI (sI (sI (sI (sI (sI (sI (sI (sI (sI (sI (sI (sI (tI σ 24 f_5) 31 0) 40 0) 2 n_7) 2 n_10) 5 n_142) 6 n_143) 2 n_144) 4 n_145) 5 n_146) 6 n_147) 2 n_149) 5 n_150) 6 n_151) 2 n_153) 4 n_154) 5 n_155) 6 n_156) 2 n_157) 5 n_158) 6 n_159) 2 n_160) 5 n_161) 6 n_162) 25 f_169)) := by rw [ef_169]; exact x_trD hD mwd_s17
            have hvf_169 : bI f_169 0 16 := by rw [ef_169]; exact b_upd hB25 (by omega) (by omega)
            refine lv_aload_n hx hb dX12_statement_199 rfl (lv_at hl 2 rfl) ?_
            refine va_get (D := D) (ci := 11) (v := .ref (ad 24)) (C := RX12) (T := TX12) (N := 85) hx hb hts inX12 hown hK hP 0 mwd_o0 rfl 24 (by decide) fl60 (fun _ h9 => h9) rfl dX12_statement_200 ?_
            refine lv_iconst (v := 1) hx hb dX12_statement_203 (by decide) ?_
            refine lv_dup2_11 hx hb dX12_statement_204 rfl rfl ?_
            refine va_iald hx hb hK hP 16 2 mwd_a16 rfl (x_in (by decide) (by decide)) dX12_statement_205 ?_
            refine lv_topi (fun i_170 ei_170 => ?_)
            have ei_170 : i_170 = f_5 (Int32.toNatClampNeg 1) := ei_170
            have gi_170 : i_170.toInt = (f_5 1).toInt := by rw [ei_170]; rfl
            refine lv_iconst (v := 1) hx hb dX12_statement_206 (by decide) ?_
            refine lv_iadd hx hb dX12_statement_207 ?_
            refine lv_topi (fun i_171 ei_171 => ?_)
            have vi_171 : i_171.toInt = i_170.toInt + 1 := by have h9 := x_add ei_171 (by omega) (by omega); omega
            refine va_iast hx hb hK hP hD hS 16 2 mwd_a16 rfl (x_in (by decide) (by decide)) dX12_statement_208 (fun H locs hP hD hS => ?_)
            obtain ⟨f_172, ef_172⟩ : ∃ z9 : Nat → Int32, z9 = (upd f_5 (Int32.toNatClampNeg 1) i_171) := ⟨_, rfl⟩
            have hP : va_P D vwCl (mwd y ad zw (tI (tI (sI (sI (sI (sI (sI (sI (sI (sI (sI (sI (sI (sI (sI (sI (sI (sI (sI (sI (sI (sI (sI (sI (sI (tI σ 24 f_5) 31 0) 40 0) 2 n_7) 2 n_10) 5 n_142) 6 n_143) 2 n_144) 4 n_145) 5 n_146) 6 n_147) 2 n_149) 5 n_150) 6 n_151) 2 n_153) 4 n_154) 5 n_155) 6 n_156) 2 n_157) 5 n_158) 6 n_159) 2 n_160) 5 n_161) 6 n_162) 25 f_169) 24 f_172)) H := by rw [ef_172]; exact x_trP hP mwd_s16
            have hD : va_D A (mwd y ad zw (tI (tI (sI (sI (sI (sI (sI (sI (sI (sI (sI (sI (sI (sI (sI (sI (sI (sI (sI (sI (sI (sI (sI (sI (sI (tI σ 24 f_5) 31 0) 40 0) 2 n_7) 2 n_10) 5 n_142) 6 n_143) 2 n_144) 4 n_145) 5 n_146) 6 n_147) 2 n_149) 5 n_150) 6 n_151) 2 n_153) 4 n_154) 5 n_155) 6 n_156) 2 n_157) 5 n_158) 6 n_159) 2 n_160) 5 n_161) 6 n_162) 25 f_169) 24 f_172)) := by rw [ef_172]; exact x_trD hD mwd_s16
            have s0f_172 : (f_172 0).toInt = (f_5 0).toInt := by rw [ef_172]; exact congrArg Int32.toInt (x_upd_ne _ _ (show 0 ≠ 1 by decide))
            have s1f_172 : (f_172 1).toInt = i_171.toInt := by rw [ef_172]; exact congrArg Int32.toInt (x_upd_same _ 1 _)
            have s2f_172 : (f_172 2).toInt = (f_5 2).toInt := by rw [ef_172]; exact congrArg Int32.toInt (x_upd_ne _ _ (show 2 ≠ 1 by decide))
            have s3f_172 : (f_172 3).toInt = (f_5 3).toInt := by rw [ef_172]; exact congrArg Int32.toInt (x_upd_ne _ _ (show 3 ≠ 1 by decide))
            have s4f_172 : (f_172 4).toInt = (f_5 4).toInt := by rw [ef_172]; exact congrArg Int32.toInt (x_upd_ne _ _ (show 4 ≠ 1 by decide))
            have hff_172 : ∀ q : Nat, 5 ≤ q → f_172 q = σ.2.2.1 24 q := fun q h9 => by rw [ef_172]; exact (x_upd_ne _ _ (show q ≠ 1 by omega)).trans (hff_5 q h9)
            refine lv_goto (tgt := 371) hx hb dX12_statement_209 (by decide) ?_
            have hP : va_P D vwCl (mwd y ad zw (tI (sI (tI (tI (tI (tI (tJ (sI (tI (sI (tI (tI (sI (tI (sI (tI (sI (sI (sI (sI (sI (sI σ 2 n_160) 4 n_154) 5 n_161) 6 n_162) 23 (σ.1 23)) 29 (σ.1 29)) 27 (σ.2.2.1 27)) 32 (σ.1 32)) 30 (σ.2.2.1 30)) 31 0) 24 f_172) 26 (σ.2.2.1 26)) 40 0) 41 (σ.2.2.1 41)) 33 (σ.1 33)) 34 (σ.2.2.2 34)) 35 (σ.2.2.1 35)) 36 (σ.2.2.1 36)) 37 (σ.2.2.1 37)) 38 (σ.2.2.1 38)) 39 (σ.1 39)) 25 f_169)) H := hP
            have hD : va_D A (mwd y ad zw (tI (sI (tI (tI (tI (tI (tJ (sI (tI (sI (tI (tI (sI (tI (sI (tI (sI (sI (sI (sI (sI (sI σ 2 n_160) 4 n_154) 5 n_161) 6 n_162) 23 (σ.1 23)) 29 (σ.1 29)) 27 (σ.2.2.1 27)) 32 (σ.1 32)) 30 (σ.2.2.1 30)) 31 0) 24 f_172) 26 (σ.2.2.1 26)) 40 0) 41 (σ.2.2.1 41)) 33 (σ.1 33)) 34 (σ.2.2.2 34)) 35 (σ.2.2.1 35)) 36 (σ.2.2.1 36)) 37 (σ.2.2.1 37)) 38 (σ.2.2.1 38)) 39 (σ.1 39)) 25 f_169)) := hD
            exact x_vretW (u := (n_160, n_154, n_161, n_162, (σ.1 23), (σ.1 29), (σ.2.2.1 27), (σ.1 32), (σ.2.2.1 30), 0, f_172, (σ.2.2.1 26), 0, (σ.2.2.1 41), (σ.1 33), (σ.2.2.2 34), (σ.2.2.1 35), (σ.2.2.1 36), (σ.2.2.1 37), (σ.2.2.1 38), (σ.1 39), f_169)) hx hb hr hQ (by (try dsimp only); exact ⟨⟨by omega, by omega, hff_172, fun h9 => by obtain ⟨hx0, hy0⟩ := hsg175 h9; obtain ⟨hx1, hy1⟩ := hsg169 hx0; obtain ⟨hx2, hy2, _, _⟩ := hnu hx1; obtain ⟨hx3, hy3⟩ := hsg155 hx2; exfalso; omega⟩, hB35, hB26, hvf_169⟩) hP hD hK hS dX12_statement_371 hlocks
        · have kc_148 : n_146.toInt = 0 := by have h9 := c_148; simp only [ge_iff_le, gt_iff_lt, x_lt, x_le, x_eq, ne_eq, Int32.not_lt, Int32.not_le] at h9; simp only [Int32.reduceToInt] at h9; omega
          refine lv_aload_n hx hb dX12_statement_139 rfl (lv_at hl 1 rfl) ?_
          refine lv_bipush (v := 20) hx hb dX12_statement_140 (by decide) ?_
          refine lv_aload_n hx hb dX12_statement_142 rfl (lv_at hl 1 rfl) ?_
          refine va_get (D := D) (ci := 11) (v := .ref (ad 24)) (C := RX12) (T := TX12) (N := 85) hx hb hts inX12 hown hK hP 0 mwd_o0 rfl 24 (by decide) fl60 (fun _ h9 => h9) rfl dX12_statement_143 ?_
          refine lv_iconst (v := 1) hx hb dX12_statement_146 (by decide) ?_
          refine va_iald hx hb hK hP 16 2 mwd_a16 rfl (x_in (by decide) (by decide)) dX12_statement_147 ?_
          refine lv_topi (fun i_173 ei_173 => ?_)
          have ei_173 : i_173 = f_5 (Int32.toNatClampNeg 1) := ei_173
          have gi_173 : i_173.toInt = (f_5 1).toInt := by rw [ei_173]; rfl
          refine lv_iadd hx hb dX12_statement_148 ?_
          refine lv_topi (fun i_174 ei_174 => ?_)
          have vi_174 : i_174.toInt = 20 + i_173.toInt := by have h9 := x_add ei_174 (by omega) (by omega); omega
          obtain ⟨hak1, hak2⟩ := hak (by omega)
          obtain ⟨htl1, htl2⟩ := htl (by omega)
          refine x_callvW (va_runV (As := [.int i_174]) (rest := []) ⟨hx, hb, hml, hown, hts⟩ (q_names l D y H.size ad zw (sI (sI (sI (sI (sI (sI (sI (sI (sI (sI (tI σ 24 f_5) 31 0) 40 0) 2 n_7) 2 n_10) 5 n_142) 6 n_143) 2 n_144) 4 n_145) 5 n_146) 6 n_147) i_174 (by first | omega | decide) (by first | omega | decide) (show 0 ≤ ((σ.1 33)).toInt from by first | omega | decide) (show ((σ.1 33)).toInt ≤ 23 from by first | omega | decide) (show 0 ≤ (n_144).toInt from by first | omega | decide) (show (n_144).toInt ≤ ((σ.1 3)).toInt from by first | omega | decide) (show ((σ.1 3)).toInt ≤ 700 from by first | omega | decide) hB35) (cwV 1 hts g_q_statement_10 rfl rfl rfl (by decide +kernel) ⟨Nat.le_of_ble_eq_true rfl, Nat.le_of_ble_eq_true rfl⟩) (x_preV (q := (RX12, TX12, 85)) hK hP hD (ci := 11) (q0 := 0) rfl mwd_o0) rfl rfl hl.1 rfl (lv_room (Nat.le_of_ble_eq_true rfl)) dX12_statement_149 ⟨Nat.le_of_ble_eq_true rfl, Nat.le_of_ble_eq_true rfl⟩) hP hD hS hA (fun u H locs hw hP hD hS => ?_)
          obtain ⟨n_175, n_176, n_177, n_178, n_179, n_180, f_181, f_182⟩ := u
          try dsimp only at hw
          have hP : va_P D vwCl (mwd y ad zw (tI (tJ (sI (sI (sI (sI (sI (sI (sI (sI (sI (sI (sI (sI (sI (sI (sI (sI (tI σ 24 f_5) 31 0) 40 0) 2 n_7) 2 n_10) 5 n_142) 6 n_143) 2 n_144) 4 n_145) 5 n_146) 6 n_147) 2 n_175) 4 n_176) 5 n_177) 6 n_178) 23 n_179) 33 n_180) 34 f_181) 35 f_182)) H := hP
          have hD : va_D A (mwd y ad zw (tI (tJ (sI (sI (sI (sI (sI (sI (sI (sI (sI (sI (sI (sI (sI (sI (sI (sI (tI σ 24 f_5) 31 0) 40 0) 2 n_7) 2 n_10) 5 n_142) 6 n_143) 2 n_144) 4 n_145) 5 n_146) 6 n_147) 2 n_175) 4 n_176) 5 n_177) 6 n_178) 23 n_179) 33 n_180) 34 f_181) 35 f_182)) := hD
          replace hw : ((n_144).toInt ≤ n_175.toInt ∧ n_175.toInt ≤ ((σ.1 3)).toInt ∧ (n_177.toInt = 0 → (n_146).toInt = 0 ∧ (n_144).toInt + 1 ≤ n_175.toInt) ∧ n_180.toInt = ((σ.1 33)).toInt + 1) ∧ bI f_182 0 23 := hw
          obtain ⟨hw, hg_183⟩ := hw
          have hnm : XE (n_177.toInt = 0) (n_146.toInt = 0 ∧ n_144.toInt + 1 ≤ n_175.toInt) := fun h9 => hw.2.2.1 h9
          replace hw := And.intro hw.1 (And.intro hw.2.1 hw.2.2.2)
          have hnmw := hw
          refine lv_aload_n hx hb dX12_statement_152 rfl (lv_at hl 1 rfl) ?_
          refine lv_bipush (v := 91) hx hb dX12_statement_153 (by decide) ?_
          refine x_callvW (va_runV (As := [.int 91]) (rest := []) ⟨hx, hb, hml, hown, hts⟩ (q_asksSign l D y H.size ad zw (tI (tJ (sI (sI (sI (sI (sI (sI (sI (sI (sI (sI (sI (sI (sI (sI (sI (sI (tI σ 24 f_5) 31 0) 40 0) 2 n_7) 2 n_10) 5 n_142) 6 n_143) 2 n_144) 4 n_145) 5 n_146) 6 n_147) 2 n_175) 4 n_176) 5 n_177) 6 n_178) 23 n_179) 33 n_180) 34 f_181) 35 f_182) 91 (by first | omega | decide) (show 0 ≤ (n_175).toInt from by first | omega | decide) (show (n_175).toInt ≤ ((σ.1 3)).toInt from by first | omega | decide) (show ((σ.1 3)).toInt ≤ 700 from by first | omega | decide)) (cwV 1 hts g_q_statement_6 rfl rfl rfl (by decide +kernel) ⟨Nat.le_of_ble_eq_true rfl, Nat.le_of_ble_eq_true rfl⟩) (x_preV (q := (RX12, TX12, 85)) hK hP hD (ci := 11) (q0 := 0) rfl mwd_o0) rfl rfl hl.1 rfl (lv_room (Nat.le_of_ble_eq_true rfl)) dX12_statement_155 ⟨Nat.le_of_ble_eq_true rfl, Nat.le_of_ble_eq_true rfl⟩) hP hD hS hA (fun u H locs hw hP hD hS => ?_)
          obtain ⟨n_184, n_185, n_186⟩ := u
          try dsimp only at hw
          have hP : va_P D vwCl (mwd y ad zw (sI (sI (sI (tI (tJ (sI (sI (sI (sI (sI (sI (sI (sI (sI (sI (sI (sI (sI (sI (sI (sI (tI σ 24 f_5) 31 0) 40 0) 2 n_7) 2 n_10) 5 n_142) 6 n_143) 2 n_144) 4 n_145) 5 n_146) 6 n_147) 2 n_175) 4 n_176) 5 n_177) 6 n_178) 23 n_179) 33 n_180) 34 f_181) 35 f_182) 2 n_184) 5 n_185) 6 n_186)) H := hP
          have hD : va_D A (mwd y ad zw (sI (sI (sI (tI (tJ (sI (sI (sI (sI (sI (sI (sI (sI (sI (sI (sI (sI (sI (sI (sI (sI (tI σ 24 f_5) 31 0) 40 0) 2 n_7) 2 n_10) 5 n_142) 6 n_143) 2 n_144) 4 n_145) 5 n_146) 6 n_147) 2 n_175) 4 n_176) 5 n_177) 6 n_178) 23 n_179) 33 n_180) 34 f_181) 35 f_182) 2 n_184) 5 n_185) 6 n_186)) := hD
          replace hw : (n_175).toInt ≤ n_184.toInt ∧ n_184.toInt ≤ ((σ.1 3)).toInt ∧ (n_185.toInt = 0 → (n_177).toInt = 0 ∧ (n_175).toInt + 1 ≤ n_184.toInt) := hw
          have hsg155 : XE (n_185.toInt = 0) (n_177.toInt = 0 ∧ n_175.toInt + 1 ≤ n_184.toInt) := fun h9 => hw.2.2 h9
          replace hw := And.intro hw.1 hw.2.1
          have hsw155 := hw
          refine lv_aload_n hx hb dX12_statement_158 rfl (lv_at hl 1 rfl) ?_
          refine lv_iconst (v := 1) hx hb dX12_statement_159 (by decide) ?_
          refine lv_bipush (v := 16) hx hb dX12_statement_160 (by decide) ?_
          refine x_calliW (va_runV (As := [.int 1, .int 16]) (rest := []) ⟨hx, hb, hml, hown, hts⟩ (q_number l D y H.size ad zw (sI (sI (sI (tI (tJ (sI (sI (sI (sI (sI (sI (sI (sI (sI (sI (sI (sI (sI (sI (sI (sI (tI σ 24 f_5) 31 0) 40 0) 2 n_7) 2 n_10) 5 n_142) 6 n_143) 2 n_144) 4 n_145) 5 n_146) 6 n_147) 2 n_175) 4 n_176) 5 n_177) 6 n_178) 23 n_179) 33 n_180) 34 f_181) 35 f_182) 2 n_184) 5 n_185) 6 n_186) 1 16 (show 0 ≤ (n_184).toInt from by first | omega | decide) (show (n_184).toInt ≤ ((σ.1 3)).toInt from by first | omega | decide) (show ((σ.1 3)).toInt ≤ 700 from by first | omega | decide)) (cwV 2 hts g_q_statement_11 rfl rfl rfl (by decide +kernel) ⟨Nat.le_of_ble_eq_true rfl, Nat.le_of_ble_eq_true rfl⟩) (x_preV (q := (RX12, TX12, 85)) hK hP hD (ci := 11) (q0 := 0) rfl mwd_o0) rfl rfl hl.1 rfl (lv_room (Nat.le_of_ble_eq_true rfl)) dX12_statement_162 ⟨Nat.le_of_ble_eq_true rfl, Nat.le_of_ble_eq_true rfl⟩) hP hD hS hA (fun r_187 u H locs hw hP hD hS => ?_)
          obtain ⟨n_188, n_189, n_190, n_191⟩ := u
          try dsimp only at hw
          have hP : va_P D vwCl (mwd y ad zw (sI (sI (sI (sI (sI (sI (sI (tI (tJ (sI (sI (sI (sI (sI (sI (sI (sI (sI (sI (sI (sI (sI (sI (sI (sI (tI σ 24 f_5) 31 0) 40 0) 2 n_7) 2 n_10) 5 n_142) 6 n_143) 2 n_144) 4 n_145) 5 n_146) 6 n_147) 2 n_175) 4 n_176) 5 n_177) 6 n_178) 23 n_179) 33 n_180) 34 f_181) 35 f_182) 2 n_184) 5 n_185) 6 n_186) 2 n_188) 4 n_189) 5 n_190) 6 n_191)) H := hP
          have hD : va_D A (mwd y ad zw (sI (sI (sI (sI (sI (sI (sI (tI (tJ (sI (sI (sI (sI (sI (sI (sI (sI (sI (sI (sI (sI (sI (sI (sI (sI (tI σ 24 f_5) 31 0) 40 0) 2 n_7) 2 n_10) 5 n_142) 6 n_143) 2 n_144) 4 n_145) 5 n_146) 6 n_147) 2 n_175) 4 n_176) 5 n_177) 6 n_178) 23 n_179) 33 n_180) 34 f_181) 35 f_182) 2 n_184) 5 n_185) 6 n_186) 2 n_188) 4 n_189) 5 n_190) 6 n_191)) := hD
          replace hw : (n_184).toInt ≤ n_188.toInt ∧ n_188.toInt ≤ ((σ.1 3)).toInt ∧ 0 ≤ r_187.toInt ∧ r_187.toInt ≤ 9999 ∧ (n_190.toInt = 0 → (n_185).toInt = 0 ∧ (n_184).toInt + 1 ≤ n_188.toInt ∧ (1 : Int32).toInt ≤ r_187.toInt ∧ r_187.toInt ≤ (16 : Int32).toInt) := hw
          have hnu : XE (n_190.toInt = 0) (n_185.toInt = 0 ∧ n_184.toInt + 1 ≤ n_188.toInt ∧ 1 ≤ r_187.toInt ∧ r_187.toInt ≤ 16) := fun h9 => ⟨(hw.2.2.2.2 h9).1, (hw.2.2.2.2 h9).2.1, (hw.2.2.2.2 h9).2.2.1, (hw.2.2.2.2 h9).2.2.2⟩
          replace hw := And.intro hw.1 hw.2.1
          have hnuw := hw
          refine lv_istore_n (lv' := [(2, .int r_187), (1, .int (σ.1 2)), (0, .ref (ad 1))]) hx hb dX12_statement_165 rfl hl (by decide) rfl (fun ls hl => ?_)
          refine lv_aload_n hx hb dX12_statement_166 rfl (lv_at hl 2 rfl) ?_
          refine lv_bipush (v := 93) hx hb dX12_statement_167 (by decide) ?_
          refine x_callvW (va_runV (As := [.int 93]) (rest := []) ⟨hx, hb, hml, hown, hts⟩ (q_asksSign l D y H.size ad zw (sI (sI (sI (sI (sI (sI (sI (tI (tJ (sI (sI (sI (sI (sI (sI (sI (sI (sI (sI (sI (sI (sI (sI (sI (sI (tI σ 24 f_5) 31 0) 40 0) 2 n_7) 2 n_10) 5 n_142) 6 n_143) 2 n_144) 4 n_145) 5 n_146) 6 n_147) 2 n_175) 4 n_176) 5 n_177) 6 n_178) 23 n_179) 33 n_180) 34 f_181) 35 f_182) 2 n_184) 5 n_185) 6 n_186) 2 n_188) 4 n_189) 5 n_190) 6 n_191) 93 (by first | omega | decide) (show 0 ≤ (n_188).toInt from by first | omega | decide) (show (n_188).toInt ≤ ((σ.1 3)).toInt from by first | omega | decide) (show ((σ.1 3)).toInt ≤ 700 from by first | omega | decide)) (cwV 1 hts g_q_statement_6 rfl rfl rfl (by decide +kernel) ⟨Nat.le_of_ble_eq_true rfl, Nat.le_of_ble_eq_true rfl⟩) (x_preV (q := (RX12, TX12, 85)) hK hP hD (ci := 11) (q0 := 0) rfl mwd_o0) rfl rfl hl.1 rfl (lv_room (Nat.le_of_ble_eq_true rfl)) dX12_statement_169 ⟨Nat.le_of_ble_eq_true rfl, Nat.le_of_ble_eq_true rfl⟩) hP hD hS hA (fun u H locs hw hP hD hS => ?_)
          obtain ⟨n_192, n_193, n_194⟩ := u
          try dsimp only at hw
          have hP : va_P D vwCl (mwd y ad zw (sI (sI (sI (sI (sI (sI (sI (sI (sI (sI (tI (tJ (sI (sI (sI (sI (sI (sI (sI (sI (sI (sI (sI (sI (sI (sI (sI (sI (tI σ 24 f_5) 31 0) 40 0) 2 n_7) 2 n_10) 5 n_142) 6 n_143) 2 n_144) 4 n_145) 5 n_146) 6 n_147) 2 n_175) 4 n_176) 5 n_177) 6 n_178) 23 n_179) 33 n_180) 34 f_181) 35 f_182) 2 n_184) 5 n_185) 6 n_186) 2 n_188) 4 n_189) 5 n_190) 6 n_191) 2 n_192) 5 n_193) 6 n_194)) H := hP
          have hD : va_D A (mwd y ad zw (sI (sI (sI (sI (sI (sI (sI (sI (sI (sI (tI (tJ (sI (sI (sI (sI (sI (sI (sI (sI (sI (sI (sI (sI (sI (sI (sI (sI (tI σ 24 f_5) 31 0) 40 0) 2 n_7) 2 n_10) 5 n_142) 6 n_143) 2 n_144) 4 n_145) 5 n_146) 6 n_147) 2 n_175) 4 n_176) 5 n_177) 6 n_178) 23 n_179) 33 n_180) 34 f_181) 35 f_182) 2 n_184) 5 n_185) 6 n_186) 2 n_188) 4 n_189) 5 n_190) 6 n_191) 2 n_192) 5 n_193) 6 n_194)) := hD
          replace hw : (n_188).toInt ≤ n_192.toInt ∧ n_192.toInt ≤ ((σ.1 3)).toInt ∧ (n_193.toInt = 0 → (n_190).toInt = 0 ∧ (n_188).toInt + 1 ≤ n_192.toInt) := hw
          have hsg169 : XE (n_193.toInt = 0) (n_190.toInt = 0 ∧ n_188.toInt + 1 ≤ n_192.toInt) := fun h9 => hw.2.2 h9
          replace hw := And.intro hw.1 hw.2.1
          have hsw169 := hw
          refine lv_aload_n hx hb dX12_statement_172 rfl (lv_at hl 2 rfl) ?_
          refine lv_bipush (v := 59) hx hb dX12_statement_173 (by decide) ?_
          refine x_callvW (va_runV (As := [.int 59]) (rest := []) ⟨hx, hb, hml, hown, hts⟩ (q_asksSign l D y H.size ad zw (sI (sI (sI (sI (sI (sI (sI (sI (sI (sI (tI (tJ (sI (sI (sI (sI (sI (sI (sI (sI (sI (sI (sI (sI (sI (sI (sI (sI (tI σ 24 f_5) 31 0) 40 0) 2 n_7) 2 n_10) 5 n_142) 6 n_143) 2 n_144) 4 n_145) 5 n_146) 6 n_147) 2 n_175) 4 n_176) 5 n_177) 6 n_178) 23 n_179) 33 n_180) 34 f_181) 35 f_182) 2 n_184) 5 n_185) 6 n_186) 2 n_188) 4 n_189) 5 n_190) 6 n_191) 2 n_192) 5 n_193) 6 n_194) 59 (by first | omega | decide) (show 0 ≤ (n_192).toInt from by first | omega | decide) (show (n_192).toInt ≤ ((σ.1 3)).toInt from by first | omega | decide) (show ((σ.1 3)).toInt ≤ 700 from by first | omega | decide)) (cwV 1 hts g_q_statement_6 rfl rfl rfl (by decide +kernel) ⟨Nat.le_of_ble_eq_true rfl, Nat.le_of_ble_eq_true rfl⟩) (x_preV (q := (RX12, TX12, 85)) hK hP hD (ci := 11) (q0 := 0) rfl mwd_o0) rfl rfl hl.1 rfl (lv_room (Nat.le_of_ble_eq_true rfl)) dX12_statement_175 ⟨Nat.le_of_ble_eq_true rfl, Nat.le_of_ble_eq_true rfl⟩) hP hD hS hA (fun u H locs hw hP hD hS => ?_)
          obtain ⟨n_195, n_196, n_197⟩ := u
          try dsimp only at hw
          have hP : va_P D vwCl (mwd y ad zw (sI (sI (sI (sI (sI (sI (sI (sI (sI (sI (sI (sI (sI (tI (tJ (sI (sI (sI (sI (sI (sI (sI (sI (sI (sI (sI (sI (sI (sI (sI (sI (tI σ 24 f_5) 31 0) 40 0) 2 n_7) 2 n_10) 5 n_142) 6 n_143) 2 n_144) 4 n_145) 5 n_146) 6 n_147) 2 n_175) 4 n_176) 5 n_177) 6 n_178) 23 n_179) 33 n_180) 34 f_181) 35 f_182) 2 n_184) 5 n_185) 6 n_186) 2 n_188) 4 n_189) 5 n_190) 6 n_191) 2 n_192) 5 n_193) 6 n_194) 2 n_195) 5 n_196) 6 n_197)) H := hP
          have hD : va_D A (mwd y ad zw (sI (sI (sI (sI (sI (sI (sI (sI (sI (sI (sI (sI (sI (tI (tJ (sI (sI (sI (sI (sI (sI (sI (sI (sI (sI (sI (sI (sI (sI (sI (sI (tI σ 24 f_5) 31 0) 40 0) 2 n_7) 2 n_10) 5 n_142) 6 n_143) 2 n_144) 4 n_145) 5 n_146) 6 n_147) 2 n_175) 4 n_176) 5 n_177) 6 n_178) 23 n_179) 33 n_180) 34 f_181) 35 f_182) 2 n_184) 5 n_185) 6 n_186) 2 n_188) 4 n_189) 5 n_190) 6 n_191) 2 n_192) 5 n_193) 6 n_194) 2 n_195) 5 n_196) 6 n_197)) := hD
          replace hw : (n_192).toInt ≤ n_195.toInt ∧ n_195.toInt ≤ ((σ.1 3)).toInt ∧ (n_196.toInt = 0 → (n_193).toInt = 0 ∧ (n_192).toInt + 1 ≤ n_195.toInt) := hw
          have hsg175 : XE (n_196.toInt = 0) (n_193.toInt = 0 ∧ n_192.toInt + 1 ≤ n_195.toInt) := fun h9 => hw.2.2 h9
          replace hw := And.intro hw.1 hw.2.1
          have hsw175 := hw
          refine lv_aload_n hx hb dX12_statement_178 rfl (lv_at hl 2 rfl) ?_
          refine va_get (D := D) (ci := 11) (v := .int n_196) (C := RX12) (T := TX12) (N := 85) hx hb hts inX12 hown hK hP 0 mwd_o0 rfl 5 (by decide) fl191 (fun _ h9 => h9) rfl dX12_statement_179 ?_
          refine lv_if_ne (tgt := 199) hx hb dX12_statement_182 (by decide) (fun c_198 => ?_) (fun c_198 => ?_)
          · have kc_198 : n_196.toInt ≠ 0 := by have h9 := c_198; simp only [ge_iff_le, gt_iff_lt, x_lt, x_le, x_eq, ne_eq, Int32.not_lt, Int32.not_le] at h9; simp only [Int32.reduceToInt] at h9; omega
            refine lv_aload_n hx hb dX12_statement_199 rfl (lv_at hl 2 rfl) ?_
            refine va_get (D := D) (ci := 11) (v := .ref (ad 24)) (C := RX12) (T := TX12) (N := 85) hx hb hts inX12 hown hK hP 0 mwd_o0 rfl 24 (by decide) fl60 (fun _ h9 => h9) rfl dX12_statement_200 ?_
            refine lv_iconst (v := 1) hx hb dX12_statement_203 (by decide) ?_
            refine lv_dup2_11 hx hb dX12_statement_204 rfl rfl ?_
            refine va_iald hx hb hK hP 16 2 mwd_a16 rfl (x_in (by decide) (by decide)) dX12_statement_205 ?_
            refine lv_topi (fun i_199 ei_199 => ?_)
            have ei_199 : i_199 = f_5 (Int32.toNatClampNeg 1) := ei_199
            have gi_199 : i_199.toInt = (f_5 1).toInt := by rw [ei_199]; rfl
            refine lv_iconst (v := 1) hx hb dX12_statement_206 (by decide) ?_
            refine lv_iadd hx hb dX12_statement_207 ?_
            refine lv_topi (fun i_200 ei_200 => ?_)
            have vi_200 : i_200.toInt = i_199.toInt + 1 := by have h9 := x_add ei_200 (by omega) (by omega); omega
            refine va_iast hx hb hK hP hD hS 16 2 mwd_a16 rfl (x_in (by decide) (by decide)) dX12_statement_208 (fun H locs hP hD hS => ?_)
            obtain ⟨f_201, ef_201⟩ : ∃ z9 : Nat → Int32, z9 = (upd f_5 (Int32.toNatClampNeg 1) i_200) := ⟨_, rfl⟩
            have hP : va_P D vwCl (mwd y ad zw (tI (sI (sI (sI (sI (sI (sI (sI (sI (sI (sI (sI (sI (sI (tI (tJ (sI (sI (sI (sI (sI (sI (sI (sI (sI (sI (sI (sI (sI (sI (sI (sI (tI σ 24 f_5) 31 0) 40 0) 2 n_7) 2 n_10) 5 n_142) 6 n_143) 2 n_144) 4 n_145) 5 n_146) 6 n_147) 2 n_175) 4 n_176) 5 n_177) 6 n_178) 23 n_179) 33 n_180) 34 f_181) 35 f_182) 2 n_184) 5 n_185) 6 n_186) 2 n_188) 4 n_189) 5 n_190) 6 n_191) 2 n_192) 5 n_193) 6 n_194) 2 n_195) 5 n_196) 6 n_197) 24 f_201)) H := by rw [ef_201]; exact x_trP hP mwd_s16
            have hD : va_D A (mwd y ad zw (tI (sI (sI (sI (sI (sI (sI (sI (sI (sI (sI (sI (sI (sI (tI (tJ (sI (sI (sI (sI (sI (sI (sI (sI (sI (sI (sI (sI (sI (sI (sI (sI (tI σ 24 f_5) 31 0) 40 0) 2 n_7) 2 n_10) 5 n_142) 6 n_143) 2 n_144) 4 n_145) 5 n_146) 6 n_147) 2 n_175) 4 n_176) 5 n_177) 6 n_178) 23 n_179) 33 n_180) 34 f_181) 35 f_182) 2 n_184) 5 n_185) 6 n_186) 2 n_188) 4 n_189) 5 n_190) 6 n_191) 2 n_192) 5 n_193) 6 n_194) 2 n_195) 5 n_196) 6 n_197) 24 f_201)) := by rw [ef_201]; exact x_trD hD mwd_s16
            have s0f_201 : (f_201 0).toInt = (f_5 0).toInt := by rw [ef_201]; exact congrArg Int32.toInt (x_upd_ne _ _ (show 0 ≠ 1 by decide))
            have s1f_201 : (f_201 1).toInt = i_200.toInt := by rw [ef_201]; exact congrArg Int32.toInt (x_upd_same _ 1 _)
            have s2f_201 : (f_201 2).toInt = (f_5 2).toInt := by rw [ef_201]; exact congrArg Int32.toInt (x_upd_ne _ _ (show 2 ≠ 1 by decide))
            have s3f_201 : (f_201 3).toInt = (f_5 3).toInt := by rw [ef_201]; exact congrArg Int32.toInt (x_upd_ne _ _ (show 3 ≠ 1 by decide))
            have s4f_201 : (f_201 4).toInt = (f_5 4).toInt := by rw [ef_201]; exact congrArg Int32.toInt (x_upd_ne _ _ (show 4 ≠ 1 by decide))
            have hff_201 : ∀ q : Nat, 5 ≤ q → f_201 q = σ.2.2.1 24 q := fun q h9 => by rw [ef_201]; exact (x_upd_ne _ _ (show q ≠ 1 by omega)).trans (hff_5 q h9)
            refine lv_goto (tgt := 371) hx hb dX12_statement_209 (by decide) ?_
            have hP : va_P D vwCl (mwd y ad zw (tI (sI (tI (tI (tI (tI (tJ (sI (tI (sI (tI (tI (sI (tI (sI (tI (sI (sI (sI (sI (sI (sI σ 2 n_195) 4 n_189) 5 n_196) 6 n_197) 23 n_179) 29 (σ.1 29)) 27 (σ.2.2.1 27)) 32 (σ.1 32)) 30 (σ.2.2.1 30)) 31 0) 24 f_201) 26 (σ.2.2.1 26)) 40 0) 41 (σ.2.2.1 41)) 33 n_180) 34 f_181) 35 f_182) 36 (σ.2.2.1 36)) 37 (σ.2.2.1 37)) 38 (σ.2.2.1 38)) 39 (σ.1 39)) 25 (σ.2.2.1 25))) H := hP
            have hD : va_D A (mwd y ad zw (tI (sI (tI (tI (tI (tI (tJ (sI (tI (sI (tI (tI (sI (tI (sI (tI (sI (sI (sI (sI (sI (sI σ 2 n_195) 4 n_189) 5 n_196) 6 n_197) 23 n_179) 29 (σ.1 29)) 27 (σ.2.2.1 27)) 32 (σ.1 32)) 30 (σ.2.2.1 30)) 31 0) 24 f_201) 26 (σ.2.2.1 26)) 40 0) 41 (σ.2.2.1 41)) 33 n_180) 34 f_181) 35 f_182) 36 (σ.2.2.1 36)) 37 (σ.2.2.1 37)) 38 (σ.2.2.1 38)) 39 (σ.1 39)) 25 (σ.2.2.1 25))) := hD
            exact x_vretW (u := (n_195, n_189, n_196, n_197, n_179, (σ.1 29), (σ.2.2.1 27), (σ.1 32), (σ.2.2.1 30), 0, f_201, (σ.2.2.1 26), 0, (σ.2.2.1 41), n_180, f_181, f_182, (σ.2.2.1 36), (σ.2.2.1 37), (σ.2.2.1 38), (σ.1 39), (σ.2.2.1 25))) hx hb hr hQ (by (try dsimp only); exact ⟨⟨by omega, by omega, hff_201, fun h9 => by obtain ⟨hx0, hy0⟩ := hsg175 h9; obtain ⟨hx1, hy1⟩ := hsg169 hx0; obtain ⟨hx2, hy2, _, _⟩ := hnu hx1; obtain ⟨hx3, hy3⟩ := hsg155 hx2; obtain ⟨hn1, hn2⟩ := hnm hx3; exact ⟨by omega, ⟨by omega, by omega, by omega, by omega, by omega, by omega, by omega, by omega, by omega, by omega, by omega⟩, by omega, by omega, by omega, by omega, by omega, by rw [show (f_201 4).toInt = (σ.2.2.1 24 4).toInt by omega]; exact hpe⟩⟩, hg_183, hB26, hB25⟩) hP hD hK hS dX12_statement_371 hlocks
          · have kc_198 : n_196.toInt = 0 := by have h9 := c_198; simp only [ge_iff_le, gt_iff_lt, x_lt, x_le, x_eq, ne_eq, Int32.not_lt, Int32.not_le] at h9; simp only [Int32.reduceToInt] at h9; omega
            obtain ⟨hq1, hq2⟩ := hsg175 (by omega)
            obtain ⟨hq3, hq4⟩ := hsg169 hq1
            obtain ⟨hq5, hq6, hq7, hq8⟩ := hnu hq3
            refine lv_aload_n hx hb dX12_statement_185 rfl (lv_at hl 2 rfl) ?_
            refine va_get (D := D) (ci := 11) (v := .ref (ad 25)) (C := RX12) (T := TX12) (N := 85) hx hb hts inX12 hown hK hP 0 mwd_o0 rfl 25 (by decide) fl63 (fun _ h9 => h9) rfl dX12_statement_186 ?_
            refine lv_iconst (v := 0) hx hb dX12_statement_189 (by decide) ?_
            refine lv_aload_n hx hb dX12_statement_190 rfl (lv_at hl 2 rfl) ?_
            refine va_get (D := D) (ci := 11) (v := .ref (ad 24)) (C := RX12) (T := TX12) (N := 85) hx hb hts inX12 hown hK hP 0 mwd_o0 rfl 24 (by decide) fl60 (fun _ h9 => h9) rfl dX12_statement_191 ?_
            refine lv_iconst (v := 1) hx hb dX12_statement_194 (by decide) ?_
            refine va_iald hx hb hK hP 16 2 mwd_a16 rfl (x_in (by decide) (by decide)) dX12_statement_195 ?_
            refine lv_topi (fun i_202 ei_202 => ?_)
            have ei_202 : i_202 = f_5 (Int32.toNatClampNeg 1) := ei_202
            have gi_202 : i_202.toInt = (f_5 1).toInt := by rw [ei_202]; rfl
            refine lv_iadd hx hb dX12_statement_196 ?_
            refine lv_topi (fun i_203 ei_203 => ?_)
            have vi_203 : i_203.toInt = 0 + i_202.toInt := by have h9 := x_add ei_203 (by omega) (by omega); omega
            refine lv_iload_n hx hb dX12_statement_197 rfl (lv_at hl 0 rfl) ?_
            refine va_iast hx hb hK hP hD hS 17 2 mwd_a17 rfl (x_in (by omega) (by omega)) dX12_statement_198 (fun H locs hP hD hS => ?_)
            obtain ⟨f_204, ef_204⟩ : ∃ z9 : Nat → Int32, z9 = (upd (σ.2.2.1 25) (Int32.toNatClampNeg i_203) r_187) := ⟨_, rfl⟩
            have hP : va_P D vwCl (mwd y ad zw (tI (sI (sI (sI (sI (sI (sI (sI (sI (sI (sI (sI (sI (sI (tI (tJ (sI (sI (sI (sI (sI (sI (sI (sI (sI (sI (sI (sI (sI (sI (sI (sI (tI σ 24 f_5) 31 0) 40 0) 2 n_7) 2 n_10) 5 n_142) 6 n_143) 2 n_144) 4 n_145) 5 n_146) 6 n_147) 2 n_175) 4 n_176) 5 n_177) 6 n_178) 23 n_179) 33 n_180) 34 f_181) 35 f_182) 2 n_184) 5 n_185) 6 n_186) 2 n_188) 4 n_189) 5 n_190) 6 n_191) 2 n_192) 5 n_193) 6 n_194) 2 n_195) 5 n_196) 6 n_197) 25 f_204)) H := by rw [ef_204]; exact x_trP hP mwd_s17
            have hD : va_D A (mwd y ad zw (tI (sI (sI (sI (sI (sI (sI (sI (sI (sI (sI (sI (sI (sI (tI (tJ (sI (sI (sI (sI (sI (sI (sI (sI (sI (sI (sI (sI (sI (sI (sI (sI (tI σ 24 f_5) 31 0) 40 0) 2 n_7) 2 n_10) 5 n_142) 6 n_143) 2 n_144) 4 n_145) 5 n_146) 6 n_147) 2 n_175) 4 n_176) 5 n_177) 6 n_178) 23 n_179) 33 n_180) 34 f_181) 35 f_182) 2 n_184) 5 n_185) 6 n_186) 2 n_188) 4 n_189) 5 n_190) 6 n_191) 2 n_192) 5 n_193) 6 n_194) 2 n_195) 5 n_196) 6 n_197) 25 f_204)) := by rw [ef_204]; exact x_trD hD mwd_s17
            have hvf_204 : bI f_204 0 16 := by rw [ef_204]; exact b_upd hB25 (by omega) (by omega)
            refine lv_aload_n hx hb dX12_statement_199 rfl (lv_at hl 2 rfl) ?_
            refine va_get (D := D) (ci := 11) (v := .ref (ad 24)) (C := RX12) (T := TX12) (N := 85) hx hb hts inX12 hown hK hP 0 mwd_o0 rfl 24 (by decide) fl60 (fun _ h9 => h9) rfl dX12_statement_200 ?_
            refine lv_iconst (v := 1) hx hb dX12_statement_203 (by decide) ?_
            refine lv_dup2_11 hx hb dX12_statement_204 rfl rfl ?_
            refine va_iald hx hb hK hP 16 2 mwd_a16 rfl (x_in (by decide) (by decide)) dX12_statement_205 ?_
            refine lv_topi (fun i_205 ei_205 => ?_)
            have ei_205 : i_205 = f_5 (Int32.toNatClampNeg 1) := ei_205
            have gi_205 : i_205.toInt = (f_5 1).toInt := by rw [ei_205]; rfl
            refine lv_iconst (v := 1) hx hb dX12_statement_206 (by decide) ?_
            refine lv_iadd hx hb dX12_statement_207 ?_
            refine lv_topi (fun i_206 ei_206 => ?_)
            have vi_206 : i_206.toInt = i_205.toInt + 1 := by have h9 := x_add ei_206 (by omega) (by omega); omega
            refine va_iast hx hb hK hP hD hS 16 2 mwd_a16 rfl (x_in (by decide) (by decide)) dX12_statement_208 (fun H locs hP hD hS => ?_)
            obtain ⟨f_207, ef_207⟩ : ∃ z9 : Nat → Int32, z9 = (upd f_5 (Int32.toNatClampNeg 1) i_206) := ⟨_, rfl⟩
            have hP : va_P D vwCl (mwd y ad zw (tI (tI (sI (sI (sI (sI (sI (sI (sI (sI (sI (sI (sI (sI (sI (tI (tJ (sI (sI (sI (sI (sI (sI (sI (sI (sI (sI (sI (sI (sI (sI (sI (sI (tI σ 24 f_5) 31 0) 40 0) 2 n_7) 2 n_10) 5 n_142) 6 n_143) 2 n_144) 4 n_145) 5 n_146) 6 n_147) 2 n_175) 4 n_176) 5 n_177) 6 n_178) 23 n_179) 33 n_180) 34 f_181) 35 f_182) 2 n_184) 5 n_185) 6 n_186) 2 n_188) 4 n_189) 5 n_190) 6 n_191) 2 n_192) 5 n_193) 6 n_194) 2 n_195) 5 n_196) 6 n_197) 25 f_204) 24 f_207)) H := by rw [ef_207]; exact x_trP hP mwd_s16
            have hD : va_D A (mwd y ad zw (tI (tI (sI (sI (sI (sI (sI (sI (sI (sI (sI (sI (sI (sI (sI (tI (tJ (sI (sI (sI (sI (sI (sI (sI (sI (sI (sI (sI (sI (sI (sI (sI (sI (tI σ 24 f_5) 31 0) 40 0) 2 n_7) 2 n_10) 5 n_142) 6 n_143) 2 n_144) 4 n_145) 5 n_146) 6 n_147) 2 n_175) 4 n_176) 5 n_177) 6 n_178) 23 n_179) 33 n_180) 34 f_181) 35 f_182) 2 n_184) 5 n_185) 6 n_186) 2 n_188) 4 n_189) 5 n_190) 6 n_191) 2 n_192) 5 n_193) 6 n_194) 2 n_195) 5 n_196) 6 n_197) 25 f_204) 24 f_207)) := by rw [ef_207]; exact x_trD hD mwd_s16
            have s0f_207 : (f_207 0).toInt = (f_5 0).toInt := by rw [ef_207]; exact congrArg Int32.toInt (x_upd_ne _ _ (show 0 ≠ 1 by decide))
            have s1f_207 : (f_207 1).toInt = i_206.toInt := by rw [ef_207]; exact congrArg Int32.toInt (x_upd_same _ 1 _)
            have s2f_207 : (f_207 2).toInt = (f_5 2).toInt := by rw [ef_207]; exact congrArg Int32.toInt (x_upd_ne _ _ (show 2 ≠ 1 by decide))
            have s3f_207 : (f_207 3).toInt = (f_5 3).toInt := by rw [ef_207]; exact congrArg Int32.toInt (x_upd_ne _ _ (show 3 ≠ 1 by decide))
            have s4f_207 : (f_207 4).toInt = (f_5 4).toInt := by rw [ef_207]; exact congrArg Int32.toInt (x_upd_ne _ _ (show 4 ≠ 1 by decide))
            have hff_207 : ∀ q : Nat, 5 ≤ q → f_207 q = σ.2.2.1 24 q := fun q h9 => by rw [ef_207]; exact (x_upd_ne _ _ (show q ≠ 1 by omega)).trans (hff_5 q h9)
            refine lv_goto (tgt := 371) hx hb dX12_statement_209 (by decide) ?_
            have hP : va_P D vwCl (mwd y ad zw (tI (sI (tI (tI (tI (tI (tJ (sI (tI (sI (tI (tI (sI (tI (sI (tI (sI (sI (sI (sI (sI (sI σ 2 n_195) 4 n_189) 5 n_196) 6 n_197) 23 n_179) 29 (σ.1 29)) 27 (σ.2.2.1 27)) 32 (σ.1 32)) 30 (σ.2.2.1 30)) 31 0) 24 f_207) 26 (σ.2.2.1 26)) 40 0) 41 (σ.2.2.1 41)) 33 n_180) 34 f_181) 35 f_182) 36 (σ.2.2.1 36)) 37 (σ.2.2.1 37)) 38 (σ.2.2.1 38)) 39 (σ.1 39)) 25 f_204)) H := hP
            have hD : va_D A (mwd y ad zw (tI (sI (tI (tI (tI (tI (tJ (sI (tI (sI (tI (tI (sI (tI (sI (tI (sI (sI (sI (sI (sI (sI σ 2 n_195) 4 n_189) 5 n_196) 6 n_197) 23 n_179) 29 (σ.1 29)) 27 (σ.2.2.1 27)) 32 (σ.1 32)) 30 (σ.2.2.1 30)) 31 0) 24 f_207) 26 (σ.2.2.1 26)) 40 0) 41 (σ.2.2.1 41)) 33 n_180) 34 f_181) 35 f_182) 36 (σ.2.2.1 36)) 37 (σ.2.2.1 37)) 38 (σ.2.2.1 38)) 39 (σ.1 39)) 25 f_204)) := hD
            exact x_vretW (u := (n_195, n_189, n_196, n_197, n_179, (σ.1 29), (σ.2.2.1 27), (σ.1 32), (σ.2.2.1 30), 0, f_207, (σ.2.2.1 26), 0, (σ.2.2.1 41), n_180, f_181, f_182, (σ.2.2.1 36), (σ.2.2.1 37), (σ.2.2.1 38), (σ.1 39), f_204)) hx hb hr hQ (by (try dsimp only); exact ⟨⟨by omega, by omega, hff_207, fun h9 => by obtain ⟨hx0, hy0⟩ := hsg175 h9; obtain ⟨hx1, hy1⟩ := hsg169 hx0; obtain ⟨hx2, hy2, _, _⟩ := hnu hx1; obtain ⟨hx3, hy3⟩ := hsg155 hx2; obtain ⟨hn1, hn2⟩ := hnm hx3; exact ⟨by omega, ⟨by omega, by omega, by omega, by omega, by omega, by omega, by omega, by omega, by omega, by omega, by omega⟩, by omega, by omega, by omega, by omega, by omega, by rw [show (f_207 4).toInt = (σ.2.2.1 24 4).toInt by omega]; exact hpe⟩⟩, hg_183, hB26, hvf_204⟩) hP hD hK hS dX12_statement_371 hlocks
    · have kc_8 : r_6.toInt ≠ 0 := by have h9 := c_8; simp only [ge_iff_le, gt_iff_lt, x_lt, x_le, x_eq, ne_eq, Int32.not_lt, Int32.not_le] at h9; simp only [Int32.reduceToInt] at h9; omega
      refine lv_aload_n hx hb dX12_statement_54 rfl (lv_at hl 1 rfl) ?_
      refine lv_iconst (v := 0) hx hb dX12_statement_55 (by decide) ?_
      refine lv_bipush (v := 8) hx hb dX12_statement_56 (by decide) ?_
      refine lv_iload_n hx hb dX12_statement_58 rfl (lv_at hl 0 rfl) ?_
      refine x_callvW (va_runV (As := [.int 0, .int 8, .int (σ.1 2)]) (rest := []) ⟨hx, hb, hml, hown, hts⟩ (q_tells l D y H.size ad zw (sI (sI (sI (tI σ 24 f_5) 31 0) 40 0) 2 n_7) 0 8 (σ.1 2) (by first | omega | decide) (by first | omega | decide)) (cwV 3 hts g_q_statement_8 rfl rfl rfl (by decide +kernel) ⟨Nat.le_of_ble_eq_true rfl, Nat.le_of_ble_eq_true rfl⟩) (x_preV (q := (RX12, TX12, 85)) hK hP hD (ci := 11) (q0 := 0) rfl mwd_o0) rfl rfl hl.1 rfl (lv_room (Nat.le_of_ble_eq_true rfl)) dX12_statement_59 ⟨Nat.le_of_ble_eq_true rfl, Nat.le_of_ble_eq_true rfl⟩) hP hD hS hA (fun u H locs hw hP hD hS => ?_)
      obtain ⟨n_208, n_209⟩ := u
      try dsimp only at hw
      have hP : va_P D vwCl (mwd y ad zw (sI (sI (sI (sI (sI (tI σ 24 f_5) 31 0) 40 0) 2 n_7) 5 n_208) 6 n_209)) H := hP
      have hD : va_D A (mwd y ad zw (sI (sI (sI (sI (sI (tI σ 24 f_5) 31 0) 40 0) 2 n_7) 5 n_208) 6 n_209)) := hD
      replace hw : n_208.toInt ≠ 0 ∨ (n_208 = ((σ.1 5)) ∧ ((σ.1 39)).toInt ≤ 0 ∧ (f_5 (0 : Int32).toInt.toNat).toInt ≠ (8 : Int32).toInt) := hw
      have htl : XE (n_208.toInt = 0) ((σ.1 39).toInt ≤ 0 ∧ (f_5 0).toInt ≠ 8) := fun h9 => by rcases hw with h8 | ⟨h8, h7, h6⟩ <;> first | exact absurd h9 h8 | exact ⟨h7, h6⟩
      clear hw
      refine lv_aload_n hx hb dX12_statement_62 rfl (lv_at hl 1 rfl) ?_
      refine lv_aload_n hx hb dX12_statement_63 rfl (lv_at hl 1 rfl) ?_
      refine va_get (D := D) (ci := 11) (v := .ref (ad 9)) (C := RX12) (T := TX12) (N := 85) hx hb hts inX12 hown hK hP 0 mwd_o0 rfl 9 (by decide) fl17 (fun _ h9 => h9) rfl dX12_statement_64 ?_
      refine x_callvW (va_runV (As := [.ref (ad 9)]) (rest := []) ⟨hx, hb, hml, hown, hts⟩ (q_asks l D y H.size ad zw (sI (sI (sI (sI (sI (tI σ 24 f_5) 31 0) 40 0) 2 n_7) 5 n_208) 6 n_209) (ad 9) 5 2 (zw 9) (fun _ => rfl) (by decide) (by decide) (show 0 ≤ (n_7).toInt from by first | omega | decide) (show (n_7).toInt ≤ ((σ.1 3)).toInt from by first | omega | decide) (show ((σ.1 3)).toInt ≤ 700 from by first | omega | decide)) (cwV 1 hts g_q_statement_9 rfl rfl rfl (by decide +kernel) ⟨Nat.le_of_ble_eq_true rfl, Nat.le_of_ble_eq_true rfl⟩) (x_preV (q := (RX12, TX12, 85)) hK hP hD (ci := 11) (q0 := 0) rfl mwd_o0) rfl rfl hl.1 rfl (lv_room (Nat.le_of_ble_eq_true rfl)) dX12_statement_67 ⟨Nat.le_of_ble_eq_true rfl, Nat.le_of_ble_eq_true rfl⟩) hP hD hS hA (fun u H locs hw hP hD hS => ?_)
      obtain ⟨n_210, n_211, n_212, n_213⟩ := u
      try dsimp only at hw
      have hP : va_P D vwCl (mwd y ad zw (sI (sI (sI (sI (sI (sI (sI (sI (sI (tI σ 24 f_5) 31 0) 40 0) 2 n_7) 5 n_208) 6 n_209) 2 n_210) 4 n_211) 5 n_212) 6 n_213)) H := hP
      have hD : va_D A (mwd y ad zw (sI (sI (sI (sI (sI (sI (sI (sI (sI (tI σ 24 f_5) 31 0) 40 0) 2 n_7) 5 n_208) 6 n_209) 2 n_210) 4 n_211) 5 n_212) 6 n_213)) := hD
      replace hw : (n_7).toInt ≤ n_210.toInt ∧ n_210.toInt ≤ ((σ.1 3)).toInt ∧ (n_212.toInt = 0 → (n_208).toInt = 0 ∧ (n_7).toInt + 5 ≤ n_210.toInt) := hw
      have hak : XE (n_212.toInt = 0) (n_208.toInt = 0 ∧ n_7.toInt + 5 ≤ n_210.toInt) := fun h9 => ⟨(hw.2.2 h9).1, by have h8 := (hw.2.2 h9).2; omega⟩
      replace hw := And.intro hw.1 hw.2.1
      have hakw := hw
      refine lv_aload_n hx hb dX12_statement_70 rfl (lv_at hl 1 rfl) ?_
      refine va_get (D := D) (ci := 11) (v := .int n_212) (C := RX12) (T := TX12) (N := 85) hx hb hts inX12 hown hK hP 0 mwd_o0 rfl 5 (by decide) fl191 (fun _ h9 => h9) rfl dX12_statement_71 ?_
      refine lv_if_ne (tgt := 87) hx hb dX12_statement_74 (by decide) (fun c_214 => ?_) (fun c_214 => ?_)
      · have kc_214 : n_212.toInt ≠ 0 := by have h9 := c_214; simp only [ge_iff_le, gt_iff_lt, x_lt, x_le, x_eq, ne_eq, Int32.not_lt, Int32.not_le] at h9; simp only [Int32.reduceToInt] at h9; omega
        refine lv_aload_n hx hb dX12_statement_87 rfl (lv_at hl 1 rfl) ?_
        refine lv_bipush (v := 59) hx hb dX12_statement_88 (by decide) ?_
        refine x_callvW (va_runV (As := [.int 59]) (rest := []) ⟨hx, hb, hml, hown, hts⟩ (q_asksSign l D y H.size ad zw (sI (sI (sI (sI (sI (sI (sI (sI (sI (tI σ 24 f_5) 31 0) 40 0) 2 n_7) 5 n_208) 6 n_209) 2 n_210) 4 n_211) 5 n_212) 6 n_213) 59 (by first | omega | decide) (show 0 ≤ (n_210).toInt from by first | omega | decide) (show (n_210).toInt ≤ ((σ.1 3)).toInt from by first | omega | decide) (show ((σ.1 3)).toInt ≤ 700 from by first | omega | decide)) (cwV 1 hts g_q_statement_6 rfl rfl rfl (by decide +kernel) ⟨Nat.le_of_ble_eq_true rfl, Nat.le_of_ble_eq_true rfl⟩) (x_preV (q := (RX12, TX12, 85)) hK hP hD (ci := 11) (q0 := 0) rfl mwd_o0) rfl rfl hl.1 rfl (lv_room (Nat.le_of_ble_eq_true rfl)) dX12_statement_90 ⟨Nat.le_of_ble_eq_true rfl, Nat.le_of_ble_eq_true rfl⟩) hP hD hS hA (fun u H locs hw hP hD hS => ?_)
        obtain ⟨n_215, n_216, n_217⟩ := u
        try dsimp only at hw
        have hP : va_P D vwCl (mwd y ad zw (sI (sI (sI (sI (sI (sI (sI (sI (sI (sI (sI (sI (tI σ 24 f_5) 31 0) 40 0) 2 n_7) 5 n_208) 6 n_209) 2 n_210) 4 n_211) 5 n_212) 6 n_213) 2 n_215) 5 n_216) 6 n_217)) H := hP
        have hD : va_D A (mwd y ad zw (sI (sI (sI (sI (sI (sI (sI (sI (sI (sI (sI (sI (tI σ 24 f_5) 31 0) 40 0) 2 n_7) 5 n_208) 6 n_209) 2 n_210) 4 n_211) 5 n_212) 6 n_213) 2 n_215) 5 n_216) 6 n_217)) := hD
        replace hw : (n_210).toInt ≤ n_215.toInt ∧ n_215.toInt ≤ ((σ.1 3)).toInt ∧ (n_216.toInt = 0 → (n_212).toInt = 0 ∧ (n_210).toInt + 1 ≤ n_215.toInt) := hw
        have hsg90 : XE (n_216.toInt = 0) (n_212.toInt = 0 ∧ n_210.toInt + 1 ≤ n_215.toInt) := fun h9 => hw.2.2 h9
        replace hw := And.intro hw.1 hw.2.1
        have hsw90 := hw
        refine lv_aload_n hx hb dX12_statement_93 rfl (lv_at hl 1 rfl) ?_
        refine va_get (D := D) (ci := 11) (v := .ref (ad 24)) (C := RX12) (T := TX12) (N := 85) hx hb hts inX12 hown hK hP 0 mwd_o0 rfl 24 (by decide) fl60 (fun _ h9 => h9) rfl dX12_statement_94 ?_
        refine lv_iconst (v := 0) hx hb dX12_statement_97 (by decide) ?_
        refine lv_dup2_11 hx hb dX12_statement_98 rfl rfl ?_
        refine va_iald hx hb hK hP 16 2 mwd_a16 rfl (x_in (by decide) (by decide)) dX12_statement_99 ?_
        refine lv_topi (fun i_218 ei_218 => ?_)
        have ei_218 : i_218 = f_5 (Int32.toNatClampNeg 0) := ei_218
        have gi_218 : i_218.toInt = (f_5 0).toInt := by rw [ei_218]; rfl
        refine lv_iconst (v := 1) hx hb dX12_statement_100 (by decide) ?_
        refine lv_iadd hx hb dX12_statement_101 ?_
        refine lv_topi (fun i_219 ei_219 => ?_)
        have vi_219 : i_219.toInt = i_218.toInt + 1 := by have h9 := x_add ei_219 (by omega) (by omega); omega
        refine va_iast hx hb hK hP hD hS 16 2 mwd_a16 rfl (x_in (by decide) (by decide)) dX12_statement_102 (fun H locs hP hD hS => ?_)
        obtain ⟨f_220, ef_220⟩ : ∃ z9 : Nat → Int32, z9 = (upd f_5 (Int32.toNatClampNeg 0) i_219) := ⟨_, rfl⟩
        have hP : va_P D vwCl (mwd y ad zw (tI (sI (sI (sI (sI (sI (sI (sI (sI (sI (sI (sI (sI (tI σ 24 f_5) 31 0) 40 0) 2 n_7) 5 n_208) 6 n_209) 2 n_210) 4 n_211) 5 n_212) 6 n_213) 2 n_215) 5 n_216) 6 n_217) 24 f_220)) H := by rw [ef_220]; exact x_trP hP mwd_s16
        have hD : va_D A (mwd y ad zw (tI (sI (sI (sI (sI (sI (sI (sI (sI (sI (sI (sI (sI (tI σ 24 f_5) 31 0) 40 0) 2 n_7) 5 n_208) 6 n_209) 2 n_210) 4 n_211) 5 n_212) 6 n_213) 2 n_215) 5 n_216) 6 n_217) 24 f_220)) := by rw [ef_220]; exact x_trD hD mwd_s16
        have s0f_220 : (f_220 0).toInt = i_219.toInt := by rw [ef_220]; exact congrArg Int32.toInt (x_upd_same _ 0 _)
        have s1f_220 : (f_220 1).toInt = (f_5 1).toInt := by rw [ef_220]; exact congrArg Int32.toInt (x_upd_ne _ _ (show 1 ≠ 0 by decide))
        have s2f_220 : (f_220 2).toInt = (f_5 2).toInt := by rw [ef_220]; exact congrArg Int32.toInt (x_upd_ne _ _ (show 2 ≠ 0 by decide))
        have s3f_220 : (f_220 3).toInt = (f_5 3).toInt := by rw [ef_220]; exact congrArg Int32.toInt (x_upd_ne _ _ (show 3 ≠ 0 by decide))
        have s4f_220 : (f_220 4).toInt = (f_5 4).toInt := by rw [ef_220]; exact congrArg Int32.toInt (x_upd_ne _ _ (show 4 ≠ 0 by decide))
        have hff_220 : ∀ q : Nat, 5 ≤ q → f_220 q = σ.2.2.1 24 q := fun q h9 => by rw [ef_220]; exact (x_upd_ne _ _ (show q ≠ 0 by omega)).trans (hff_5 q h9)
        refine lv_goto (tgt := 371) hx hb dX12_statement_103 (by decide) ?_
        have hP : va_P D vwCl (mwd y ad zw (tI (sI (tI (tI (tI (tI (tJ (sI (tI (sI (tI (tI (sI (tI (sI (tI (sI (sI (sI (sI (sI (sI σ 2 n_215) 4 n_211) 5 n_216) 6 n_217) 23 (σ.1 23)) 29 (σ.1 29)) 27 (σ.2.2.1 27)) 32 (σ.1 32)) 30 (σ.2.2.1 30)) 31 0) 24 f_220) 26 (σ.2.2.1 26)) 40 0) 41 (σ.2.2.1 41)) 33 (σ.1 33)) 34 (σ.2.2.2 34)) 35 (σ.2.2.1 35)) 36 (σ.2.2.1 36)) 37 (σ.2.2.1 37)) 38 (σ.2.2.1 38)) 39 (σ.1 39)) 25 (σ.2.2.1 25))) H := hP
        have hD : va_D A (mwd y ad zw (tI (sI (tI (tI (tI (tI (tJ (sI (tI (sI (tI (tI (sI (tI (sI (tI (sI (sI (sI (sI (sI (sI σ 2 n_215) 4 n_211) 5 n_216) 6 n_217) 23 (σ.1 23)) 29 (σ.1 29)) 27 (σ.2.2.1 27)) 32 (σ.1 32)) 30 (σ.2.2.1 30)) 31 0) 24 f_220) 26 (σ.2.2.1 26)) 40 0) 41 (σ.2.2.1 41)) 33 (σ.1 33)) 34 (σ.2.2.2 34)) 35 (σ.2.2.1 35)) 36 (σ.2.2.1 36)) 37 (σ.2.2.1 37)) 38 (σ.2.2.1 38)) 39 (σ.1 39)) 25 (σ.2.2.1 25))) := hD
        exact x_vretW (u := (n_215, n_211, n_216, n_217, (σ.1 23), (σ.1 29), (σ.2.2.1 27), (σ.1 32), (σ.2.2.1 30), 0, f_220, (σ.2.2.1 26), 0, (σ.2.2.1 41), (σ.1 33), (σ.2.2.2 34), (σ.2.2.1 35), (σ.2.2.1 36), (σ.2.2.1 37), (σ.2.2.1 38), (σ.1 39), (σ.2.2.1 25))) hx hb hr hQ (by (try dsimp only); exact ⟨⟨by omega, by omega, hff_220, fun h9 => by obtain ⟨hx0, hy0⟩ := hsg90 h9; exfalso; omega⟩, hB35, hB26, hB25⟩) hP hD hK hS dX12_statement_371 hlocks
      · have kc_214 : n_212.toInt = 0 := by have h9 := c_214; simp only [ge_iff_le, gt_iff_lt, x_lt, x_le, x_eq, ne_eq, Int32.not_lt, Int32.not_le] at h9; simp only [Int32.reduceToInt] at h9; omega
        refine lv_aload_n hx hb dX12_statement_77 rfl (lv_at hl 1 rfl) ?_
        refine lv_aload_n hx hb dX12_statement_78 rfl (lv_at hl 1 rfl) ?_
        refine va_get (D := D) (ci := 11) (v := .ref (ad 24)) (C := RX12) (T := TX12) (N := 85) hx hb hts inX12 hown hK hP 0 mwd_o0 rfl 24 (by decide) fl60 (fun _ h9 => h9) rfl dX12_statement_79 ?_
        refine lv_iconst (v := 0) hx hb dX12_statement_82 (by decide) ?_
        refine va_iald hx hb hK hP 16 2 mwd_a16 rfl (x_in (by decide) (by decide)) dX12_statement_83 ?_
        refine lv_topi (fun i_221 ei_221 => ?_)
        have ei_221 : i_221 = f_5 (Int32.toNatClampNeg 0) := ei_221
        have gi_221 : i_221.toInt = (f_5 0).toInt := by rw [ei_221]; rfl
        obtain ⟨hak1, hak2⟩ := hak (by omega)
        obtain ⟨htl1, htl2⟩ := htl (by omega)
        refine x_callvW (va_runV (As := [.int i_221]) (rest := []) ⟨hx, hb, hml, hown, hts⟩ (q_names l D y H.size ad zw (sI (sI (sI (sI (sI (sI (sI (sI (sI (tI σ 24 f_5) 31 0) 40 0) 2 n_7) 5 n_208) 6 n_209) 2 n_210) 4 n_211) 5 n_212) 6 n_213) i_221 (by first | omega | decide) (by first | omega | decide) (show 0 ≤ ((σ.1 33)).toInt from by first | omega | decide) (show ((σ.1 33)).toInt ≤ 23 from by first | omega | decide) (show 0 ≤ (n_210).toInt from by first | omega | decide) (show (n_210).toInt ≤ ((σ.1 3)).toInt from by first | omega | decide) (show ((σ.1 3)).toInt ≤ 700 from by first | omega | decide) hB35) (cwV 1 hts g_q_statement_10 rfl rfl rfl (by decide +kernel) ⟨Nat.le_of_ble_eq_true rfl, Nat.le_of_ble_eq_true rfl⟩) (x_preV (q := (RX12, TX12, 85)) hK hP hD (ci := 11) (q0 := 0) rfl mwd_o0) rfl rfl hl.1 rfl (lv_room (Nat.le_of_ble_eq_true rfl)) dX12_statement_84 ⟨Nat.le_of_ble_eq_true rfl, Nat.le_of_ble_eq_true rfl⟩) hP hD hS hA (fun u H locs hw hP hD hS => ?_)
        obtain ⟨n_222, n_223, n_224, n_225, n_226, n_227, f_228, f_229⟩ := u
        try dsimp only at hw
        have hP : va_P D vwCl (mwd y ad zw (tI (tJ (sI (sI (sI (sI (sI (sI (sI (sI (sI (sI (sI (sI (sI (sI (sI (tI σ 24 f_5) 31 0) 40 0) 2 n_7) 5 n_208) 6 n_209) 2 n_210) 4 n_211) 5 n_212) 6 n_213) 2 n_222) 4 n_223) 5 n_224) 6 n_225) 23 n_226) 33 n_227) 34 f_228) 35 f_229)) H := hP
        have hD : va_D A (mwd y ad zw (tI (tJ (sI (sI (sI (sI (sI (sI (sI (sI (sI (sI (sI (sI (sI (sI (sI (tI σ 24 f_5) 31 0) 40 0) 2 n_7) 5 n_208) 6 n_209) 2 n_210) 4 n_211) 5 n_212) 6 n_213) 2 n_222) 4 n_223) 5 n_224) 6 n_225) 23 n_226) 33 n_227) 34 f_228) 35 f_229)) := hD
        replace hw : ((n_210).toInt ≤ n_222.toInt ∧ n_222.toInt ≤ ((σ.1 3)).toInt ∧ (n_224.toInt = 0 → (n_212).toInt = 0 ∧ (n_210).toInt + 1 ≤ n_222.toInt) ∧ n_227.toInt = ((σ.1 33)).toInt + 1) ∧ bI f_229 0 23 := hw
        obtain ⟨hw, hg_230⟩ := hw
        have hnm : XE (n_224.toInt = 0) (n_212.toInt = 0 ∧ n_210.toInt + 1 ≤ n_222.toInt) := fun h9 => hw.2.2.1 h9
        replace hw := And.intro hw.1 (And.intro hw.2.1 hw.2.2.2)
        have hnmw := hw
        refine lv_aload_n hx hb dX12_statement_87 rfl (lv_at hl 1 rfl) ?_
        refine lv_bipush (v := 59) hx hb dX12_statement_88 (by decide) ?_
        refine x_callvW (va_runV (As := [.int 59]) (rest := []) ⟨hx, hb, hml, hown, hts⟩ (q_asksSign l D y H.size ad zw (tI (tJ (sI (sI (sI (sI (sI (sI (sI (sI (sI (sI (sI (sI (sI (sI (sI (tI σ 24 f_5) 31 0) 40 0) 2 n_7) 5 n_208) 6 n_209) 2 n_210) 4 n_211) 5 n_212) 6 n_213) 2 n_222) 4 n_223) 5 n_224) 6 n_225) 23 n_226) 33 n_227) 34 f_228) 35 f_229) 59 (by first | omega | decide) (show 0 ≤ (n_222).toInt from by first | omega | decide) (show (n_222).toInt ≤ ((σ.1 3)).toInt from by first | omega | decide) (show ((σ.1 3)).toInt ≤ 700 from by first | omega | decide)) (cwV 1 hts g_q_statement_6 rfl rfl rfl (by decide +kernel) ⟨Nat.le_of_ble_eq_true rfl, Nat.le_of_ble_eq_true rfl⟩) (x_preV (q := (RX12, TX12, 85)) hK hP hD (ci := 11) (q0 := 0) rfl mwd_o0) rfl rfl hl.1 rfl (lv_room (Nat.le_of_ble_eq_true rfl)) dX12_statement_90 ⟨Nat.le_of_ble_eq_true rfl, Nat.le_of_ble_eq_true rfl⟩) hP hD hS hA (fun u H locs hw hP hD hS => ?_)
        obtain ⟨n_231, n_232, n_233⟩ := u
        try dsimp only at hw
        have hP : va_P D vwCl (mwd y ad zw (sI (sI (sI (tI (tJ (sI (sI (sI (sI (sI (sI (sI (sI (sI (sI (sI (sI (sI (sI (sI (tI σ 24 f_5) 31 0) 40 0) 2 n_7) 5 n_208) 6 n_209) 2 n_210) 4 n_211) 5 n_212) 6 n_213) 2 n_222) 4 n_223) 5 n_224) 6 n_225) 23 n_226) 33 n_227) 34 f_228) 35 f_229) 2 n_231) 5 n_232) 6 n_233)) H := hP
        have hD : va_D A (mwd y ad zw (sI (sI (sI (tI (tJ (sI (sI (sI (sI (sI (sI (sI (sI (sI (sI (sI (sI (sI (sI (sI (tI σ 24 f_5) 31 0) 40 0) 2 n_7) 5 n_208) 6 n_209) 2 n_210) 4 n_211) 5 n_212) 6 n_213) 2 n_222) 4 n_223) 5 n_224) 6 n_225) 23 n_226) 33 n_227) 34 f_228) 35 f_229) 2 n_231) 5 n_232) 6 n_233)) := hD
        replace hw : (n_222).toInt ≤ n_231.toInt ∧ n_231.toInt ≤ ((σ.1 3)).toInt ∧ (n_232.toInt = 0 → (n_224).toInt = 0 ∧ (n_222).toInt + 1 ≤ n_231.toInt) := hw
        have hsg90 : XE (n_232.toInt = 0) (n_224.toInt = 0 ∧ n_222.toInt + 1 ≤ n_231.toInt) := fun h9 => hw.2.2 h9
        replace hw := And.intro hw.1 hw.2.1
        have hsw90 := hw
        refine lv_aload_n hx hb dX12_statement_93 rfl (lv_at hl 1 rfl) ?_
        refine va_get (D := D) (ci := 11) (v := .ref (ad 24)) (C := RX12) (T := TX12) (N := 85) hx hb hts inX12 hown hK hP 0 mwd_o0 rfl 24 (by decide) fl60 (fun _ h9 => h9) rfl dX12_statement_94 ?_
        refine lv_iconst (v := 0) hx hb dX12_statement_97 (by decide) ?_
        refine lv_dup2_11 hx hb dX12_statement_98 rfl rfl ?_
        refine va_iald hx hb hK hP 16 2 mwd_a16 rfl (x_in (by decide) (by decide)) dX12_statement_99 ?_
        refine lv_topi (fun i_234 ei_234 => ?_)
        have ei_234 : i_234 = f_5 (Int32.toNatClampNeg 0) := ei_234
        have gi_234 : i_234.toInt = (f_5 0).toInt := by rw [ei_234]; rfl
        refine lv_iconst (v := 1) hx hb dX12_statement_100 (by decide) ?_
        refine lv_iadd hx hb dX12_statement_101 ?_
        refine lv_topi (fun i_235 ei_235 => ?_)
        have vi_235 : i_235.toInt = i_234.toInt + 1 := by have h9 := x_add ei_235 (by omega) (by omega); omega
        refine va_iast hx hb hK hP hD hS 16 2 mwd_a16 rfl (x_in (by decide) (by decide)) dX12_statement_102 (fun H locs hP hD hS => ?_)
        obtain ⟨f_236, ef_236⟩ : ∃ z9 : Nat → Int32, z9 = (upd f_5 (Int32.toNatClampNeg 0) i_235) := ⟨_, rfl⟩
        have hP : va_P D vwCl (mwd y ad zw (tI (sI (sI (sI (tI (tJ (sI (sI (sI (sI (sI (sI (sI (sI (sI (sI (sI (sI (sI (sI (sI (tI σ 24 f_5) 31 0) 40 0) 2 n_7) 5 n_208) 6 n_209) 2 n_210) 4 n_211) 5 n_212) 6 n_213) 2 n_222) 4 n_223) 5 n_224) 6 n_225) 23 n_226) 33 n_227) 34 f_228) 35 f_229) 2 n_231) 5 n_232) 6 n_233) 24 f_236)) H := by rw [ef_236]; exact x_trP hP mwd_s16
        have hD : va_D A (mwd y ad zw (tI (sI (sI (sI (tI (tJ (sI (sI (sI (sI (sI (sI (sI (sI (sI (sI (sI (sI (sI (sI (sI (tI σ 24 f_5) 31 0) 40 0) 2 n_7) 5 n_208) 6 n_209) 2 n_210) 4 n_211) 5 n_212) 6 n_213) 2 n_222) 4 n_223) 5 n_224) 6 n_225) 23 n_226) 33 n_227) 34 f_228) 35 f_229) 2 n_231) 5 n_232) 6 n_233) 24 f_236)) := by rw [ef_236]; exact x_trD hD mwd_s16
        have s0f_236 : (f_236 0).toInt = i_235.toInt := by rw [ef_236]; exact congrArg Int32.toInt (x_upd_same _ 0 _)
        have s1f_236 : (f_236 1).toInt = (f_5 1).toInt := by rw [ef_236]; exact congrArg Int32.toInt (x_upd_ne _ _ (show 1 ≠ 0 by decide))
        have s2f_236 : (f_236 2).toInt = (f_5 2).toInt := by rw [ef_236]; exact congrArg Int32.toInt (x_upd_ne _ _ (show 2 ≠ 0 by decide))
        have s3f_236 : (f_236 3).toInt = (f_5 3).toInt := by rw [ef_236]; exact congrArg Int32.toInt (x_upd_ne _ _ (show 3 ≠ 0 by decide))
        have s4f_236 : (f_236 4).toInt = (f_5 4).toInt := by rw [ef_236]; exact congrArg Int32.toInt (x_upd_ne _ _ (show 4 ≠ 0 by decide))
        have hff_236 : ∀ q : Nat, 5 ≤ q → f_236 q = σ.2.2.1 24 q := fun q h9 => by rw [ef_236]; exact (x_upd_ne _ _ (show q ≠ 0 by omega)).trans (hff_5 q h9)
        refine lv_goto (tgt := 371) hx hb dX12_statement_103 (by decide) ?_
        have hP : va_P D vwCl (mwd y ad zw (tI (sI (tI (tI (tI (tI (tJ (sI (tI (sI (tI (tI (sI (tI (sI (tI (sI (sI (sI (sI (sI (sI σ 2 n_231) 4 n_223) 5 n_232) 6 n_233) 23 n_226) 29 (σ.1 29)) 27 (σ.2.2.1 27)) 32 (σ.1 32)) 30 (σ.2.2.1 30)) 31 0) 24 f_236) 26 (σ.2.2.1 26)) 40 0) 41 (σ.2.2.1 41)) 33 n_227) 34 f_228) 35 f_229) 36 (σ.2.2.1 36)) 37 (σ.2.2.1 37)) 38 (σ.2.2.1 38)) 39 (σ.1 39)) 25 (σ.2.2.1 25))) H := hP
        have hD : va_D A (mwd y ad zw (tI (sI (tI (tI (tI (tI (tJ (sI (tI (sI (tI (tI (sI (tI (sI (tI (sI (sI (sI (sI (sI (sI σ 2 n_231) 4 n_223) 5 n_232) 6 n_233) 23 n_226) 29 (σ.1 29)) 27 (σ.2.2.1 27)) 32 (σ.1 32)) 30 (σ.2.2.1 30)) 31 0) 24 f_236) 26 (σ.2.2.1 26)) 40 0) 41 (σ.2.2.1 41)) 33 n_227) 34 f_228) 35 f_229) 36 (σ.2.2.1 36)) 37 (σ.2.2.1 37)) 38 (σ.2.2.1 38)) 39 (σ.1 39)) 25 (σ.2.2.1 25))) := hD
        exact x_vretW (u := (n_231, n_223, n_232, n_233, n_226, (σ.1 29), (σ.2.2.1 27), (σ.1 32), (σ.2.2.1 30), 0, f_236, (σ.2.2.1 26), 0, (σ.2.2.1 41), n_227, f_228, f_229, (σ.2.2.1 36), (σ.2.2.1 37), (σ.2.2.1 38), (σ.1 39), (σ.2.2.1 25))) hx hb hr hQ (by (try dsimp only); exact ⟨⟨by omega, by omega, hff_236, fun h9 => by obtain ⟨hx0, hy0⟩ := hsg90 h9; obtain ⟨hn1, hn2⟩ := hnm hx0; exact ⟨by omega, ⟨by omega, by omega, by omega, by omega, by omega, by omega, by omega, by omega, by omega, by omega, by omega⟩, by omega, by omega, by omega, by omega, by omega, by rw [show (f_236 4).toInt = (σ.2.2.1 24 4).toInt by omega]; exact hpe⟩⟩, hg_230, hB26, hB25⟩) hP hD hK hS dX12_statement_371 hlocks
  · have kc_2 : i_1.toInt = 80 := by have h9 := c_2; simp only [ge_iff_le, gt_iff_lt, x_lt, x_le, x_eq, ne_eq, Int32.not_lt, Int32.not_le] at h9; simp only [Int32.reduceToInt] at h9; omega
    refine lv_aload_n hx hb dX12_statement_16 rfl (lv_at hl 1 rfl) ?_
    refine lv_iconst (v := 5) hx hb dX12_statement_17 (by decide) ?_
    refine lv_iload_n hx hb dX12_statement_18 rfl (lv_at hl 0 rfl) ?_
    refine x_callvW (va_runV (As := [.int 5, .int (σ.1 2)]) (rest := []) ⟨hx, hb, hml, hown, hts⟩ (q_fail l D y H.size ad zw σ 5 (σ.1 2)) (cwV 2 hts g_q_statement_2 rfl rfl rfl (by decide +kernel) ⟨Nat.le_of_ble_eq_true rfl, Nat.le_of_ble_eq_true rfl⟩) (x_preV (q := (RX12, TX12, 85)) hK hP hD (ci := 11) (q0 := 0) rfl mwd_o0) rfl rfl hl.1 rfl (lv_room (Nat.le_of_ble_eq_true rfl)) dX12_statement_19 ⟨Nat.le_of_ble_eq_true rfl, Nat.le_of_ble_eq_true rfl⟩) hP hD hS hA (fun u H locs hw hP hD hS => ?_)
    obtain ⟨b_237, b_238⟩ := u
    try dsimp only at hw
    have hP : va_P D vwCl (mwd y ad zw (sI (sI σ 5 b_237) 6 b_238)) H := hP
    have hD : va_D A (mwd y ad zw (sI (sI σ 5 b_237) 6 b_238)) := hD
    replace hw : b_237 = if (σ.1 5) = 0 then (5 : Int32) else (σ.1 5) := hw
    have hbd : b_237.toInt ≠ 0 := by rw [hw]; split <;> first | decide | (rename_i h9; intro h8; exact h9 (Int32.toInt_inj.mp (by rw [h8]; rfl)))
    clear hw
    have hP : va_P D vwCl (mwd y ad zw (tI (sI (tI (tI (tI (tI (tJ (sI (tI (sI (tI (tI (sI (tI (sI (tI (sI (sI (sI (sI (sI (sI σ 2 (σ.1 2)) 4 (σ.1 4)) 5 b_237) 6 b_238) 23 (σ.1 23)) 29 (σ.1 29)) 27 (σ.2.2.1 27)) 32 (σ.1 32)) 30 (σ.2.2.1 30)) 31 (σ.1 31)) 24 (σ.2.2.1 24)) 26 (σ.2.2.1 26)) 40 (σ.1 40)) 41 (σ.2.2.1 41)) 33 (σ.1 33)) 34 (σ.2.2.2 34)) 35 (σ.2.2.1 35)) 36 (σ.2.2.1 36)) 37 (σ.2.2.1 37)) 38 (σ.2.2.1 38)) 39 (σ.1 39)) 25 (σ.2.2.1 25))) H := hP
    have hD : va_D A (mwd y ad zw (tI (sI (tI (tI (tI (tI (tJ (sI (tI (sI (tI (tI (sI (tI (sI (tI (sI (sI (sI (sI (sI (sI σ 2 (σ.1 2)) 4 (σ.1 4)) 5 b_237) 6 b_238) 23 (σ.1 23)) 29 (σ.1 29)) 27 (σ.2.2.1 27)) 32 (σ.1 32)) 30 (σ.2.2.1 30)) 31 (σ.1 31)) 24 (σ.2.2.1 24)) 26 (σ.2.2.1 26)) 40 (σ.1 40)) 41 (σ.2.2.1 41)) 33 (σ.1 33)) 34 (σ.2.2.2 34)) 35 (σ.2.2.1 35)) 36 (σ.2.2.1 36)) 37 (σ.2.2.1 37)) 38 (σ.2.2.1 38)) 39 (σ.1 39)) 25 (σ.2.2.1 25))) := hD
    exact x_vretW (u := ((σ.1 2), (σ.1 4), b_237, b_238, (σ.1 23), (σ.1 29), (σ.2.2.1 27), (σ.1 32), (σ.2.2.1 30), (σ.1 31), (σ.2.2.1 24), (σ.2.2.1 26), (σ.1 40), (σ.2.2.1 41), (σ.1 33), (σ.2.2.2 34), (σ.2.2.1 35), (σ.2.2.1 36), (σ.2.2.1 37), (σ.2.2.1 38), (σ.1 39), (σ.2.2.1 25))) hx hb hr hQ (by (try dsimp only); exact ⟨⟨by omega, by omega, (fun _ _ => rfl), fun h9 => absurd h9 (by omega)⟩, hB35, hB26, hB25⟩) hP hD hK hS dX12_statement_22 hlocks

