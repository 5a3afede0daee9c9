/-- a step of the tape has its two sides on the tape -/
def opc (f g h : Nat → Int32) : Prop := ∀ k, f k ≠ 0 → 0 ≤ (g k).toInt ∧ (g k).toInt ≤ 1759 ∧ 0 ≤ (h k).toInt ∧ (h k).toInt ≤ 1759
theorem opc_1 {f g h : Nat → Int32} (o : opc f g h) {k : Nat} (hk : f k ≠ 0) {x : Int32} (e : x = g k) : 0 ≤ x.toInt ∧ x.toInt ≤ 1759 := e ▸ ⟨(o k hk).1, (o k hk).2.1⟩
theorem opc_2 {f g h : Nat → Int32} (o : opc f g h) {k : Nat} (hk : f k ≠ 0) {x : Int32} (e : x = h k) : 0 ≤ x.toInt ∧ x.toInt ≤ 1759 := e ▸ (o k hk).2.2
theorem x_ne0 {x : Int32} {f : Nat → Int32} {i : Nat} (e : x = f i) (h : x.toInt ≠ 0) : f i ≠ 0 := fun q => h (by rw [e, q]; rfl)

theorem dX12_slope_0 : decode cX12_slope 0 = .ok (.aload_n 0, 1) := by decide +kernel
theorem dX12_slope_1 : decode cX12_slope 1 = .ok (.getfield 133, 3) := by decide +kernel
theorem dX12_slope_4 : decode cX12_slope 4 = .ok (.iload_n 1, 1) := by decide +kernel
theorem dX12_slope_5 : decode cX12_slope 5 = .ok (.iaload, 1) := by decide +kernel
theorem dX12_slope_6 : decode cX12_slope 6 = .ok (.istore_n 3, 1) := by decide +kernel
theorem dX12_slope_7 : decode cX12_slope 7 = .ok (.aload_n 0, 1) := by decide +kernel
theorem dX12_slope_8 : decode cX12_slope 8 = .ok (.getfield 136, 3) := by decide +kernel
theorem dX12_slope_11 : decode cX12_slope 11 = .ok (.iload_n 1, 1) := by decide +kernel
theorem dX12_slope_12 : decode cX12_slope 12 = .ok (.iaload, 1) := by decide +kernel
theorem dX12_slope_13 : decode cX12_slope 13 = .ok (.istore 4, 2) := by decide +kernel
theorem dX12_slope_15 : decode cX12_slope 15 = .ok (.aload_n 0, 1) := by decide +kernel
theorem dX12_slope_16 : decode cX12_slope 16 = .ok (.getfield 167, 3) := by decide +kernel
theorem dX12_slope_19 : decode cX12_slope 19 = .ok (.sipush 1760, 3) := by decide +kernel
theorem dX12_slope_22 : decode cX12_slope 22 = .ok (.iload_n 2, 1) := by decide +kernel
theorem dX12_slope_23 : decode cX12_slope 23 = .ok (.imul, 1) := by decide +kernel
theorem dX12_slope_24 : decode cX12_slope 24 = .ok (.iload_n 3, 1) := by decide +kernel
theorem dX12_slope_25 : decode cX12_slope 25 = .ok (.iadd, 1) := by decide +kernel
theorem dX12_slope_26 : decode cX12_slope 26 = .ok (.laload, 1) := by decide +kernel
theorem dX12_slope_27 : decode cX12_slope 27 = .ok (.lstore 5, 2) := by decide +kernel
theorem dX12_slope_29 : decode cX12_slope 29 = .ok (.aload_n 0, 1) := by decide +kernel
theorem dX12_slope_30 : decode cX12_slope 30 = .ok (.getfield 170, 3) := by decide +kernel
theorem dX12_slope_33 : decode cX12_slope 33 = .ok (.sipush 1760, 3) := by decide +kernel
theorem dX12_slope_36 : decode cX12_slope 36 = .ok (.iload_n 2, 1) := by decide +kernel
theorem dX12_slope_37 : decode cX12_slope 37 = .ok (.imul, 1) := by decide +kernel
theorem dX12_slope_38 : decode cX12_slope 38 = .ok (.iload_n 3, 1) := by decide +kernel
theorem dX12_slope_39 : decode cX12_slope 39 = .ok (.iadd, 1) := by decide +kernel
theorem dX12_slope_40 : decode cX12_slope 40 = .ok (.laload, 1) := by decide +kernel
theorem dX12_slope_41 : decode cX12_slope 41 = .ok (.lstore 7, 2) := by decide +kernel
theorem dX12_slope_43 : decode cX12_slope 43 = .ok (.aload_n 0, 1) := by decide +kernel
theorem dX12_slope_44 : decode cX12_slope 44 = .ok (.getfield 167, 3) := by decide +kernel
theorem dX12_slope_47 : decode cX12_slope 47 = .ok (.sipush 1760, 3) := by decide +kernel
theorem dX12_slope_50 : decode cX12_slope 50 = .ok (.iload_n 2, 1) := by decide +kernel
theorem dX12_slope_51 : decode cX12_slope 51 = .ok (.imul, 1) := by decide +kernel
theorem dX12_slope_52 : decode cX12_slope 52 = .ok (.iload 4, 2) := by decide +kernel
theorem dX12_slope_54 : decode cX12_slope 54 = .ok (.iadd, 1) := by decide +kernel
theorem dX12_slope_55 : decode cX12_slope 55 = .ok (.laload, 1) := by decide +kernel
theorem dX12_slope_56 : decode cX12_slope 56 = .ok (.lstore 9, 2) := by decide +kernel
theorem dX12_slope_58 : decode cX12_slope 58 = .ok (.aload_n 0, 1) := by decide +kernel
theorem dX12_slope_59 : decode cX12_slope 59 = .ok (.getfield 170, 3) := by decide +kernel
theorem dX12_slope_62 : decode cX12_slope 62 = .ok (.sipush 1760, 3) := by decide +kernel
theorem dX12_slope_65 : decode cX12_slope 65 = .ok (.iload_n 2, 1) := by decide +kernel
theorem dX12_slope_66 : decode cX12_slope 66 = .ok (.imul, 1) := by decide +kernel
theorem dX12_slope_67 : decode cX12_slope 67 = .ok (.iload 4, 2) := by decide +kernel
theorem dX12_slope_69 : decode cX12_slope 69 = .ok (.iadd, 1) := by decide +kernel
theorem dX12_slope_70 : decode cX12_slope 70 = .ok (.laload, 1) := by decide +kernel
theorem dX12_slope_71 : decode cX12_slope 71 = .ok (.lstore 11, 2) := by decide +kernel
theorem dX12_slope_73 : decode cX12_slope 73 = .ok (.aload_n 0, 1) := by decide +kernel
theorem dX12_slope_74 : decode cX12_slope 74 = .ok (.getfield 130, 3) := by decide +kernel
theorem dX12_slope_77 : decode cX12_slope 77 = .ok (.iload_n 1, 1) := by decide +kernel
theorem dX12_slope_78 : decode cX12_slope 78 = .ok (.iaload, 1) := by decide +kernel
theorem dX12_slope_79 : decode cX12_slope 79 = .ok (.tableswitch 244 1 7 #[41, 56, 71, 144, 244, 244, 209], 41) := by decide +kernel
theorem dX12_slope_120 : decode cX12_slope 120 = .ok (.aload_n 0, 1) := by decide +kernel
theorem dX12_slope_121 : decode cX12_slope 121 = .ok (.lload 5, 2) := by decide +kernel
theorem dX12_slope_123 : decode cX12_slope 123 = .ok (.lload 7, 2) := by decide +kernel
theorem dX12_slope_125 : decode cX12_slope 125 = .ok (.lload 9, 2) := by decide +kernel
theorem dX12_slope_127 : decode cX12_slope 127 = .ok (.lload 11, 2) := by decide +kernel
theorem dX12_slope_129 : decode cX12_slope 129 = .ok (.invokevirtual 424, 3) := by decide +kernel
theorem dX12_slope_132 : decode cX12_slope 132 = .ok (.goto 199, 3) := by decide +kernel
theorem dX12_slope_135 : decode cX12_slope 135 = .ok (.aload_n 0, 1) := by decide +kernel
theorem dX12_slope_136 : decode cX12_slope 136 = .ok (.lload 5, 2) := by decide +kernel
theorem dX12_slope_138 : decode cX12_slope 138 = .ok (.lload 7, 2) := by decide +kernel
theorem dX12_slope_140 : decode cX12_slope 140 = .ok (.lload 9, 2) := by decide +kernel
theorem dX12_slope_142 : decode cX12_slope 142 = .ok (.lload 11, 2) := by decide +kernel
theorem dX12_slope_144 : decode cX12_slope 144 = .ok (.invokevirtual 408, 3) := by decide +kernel
theorem dX12_slope_147 : decode cX12_slope 147 = .ok (.goto 184, 3) := by decide +kernel
theorem dX12_slope_150 : decode cX12_slope 150 = .ok (.aload_n 0, 1) := by decide +kernel
theorem dX12_slope_151 : decode cX12_slope 151 = .ok (.lload 5, 2) := by decide +kernel
theorem dX12_slope_153 : decode cX12_slope 153 = .ok (.lload 7, 2) := by decide +kernel
theorem dX12_slope_155 : decode cX12_slope 155 = .ok (.aload_n 0, 1) := by decide +kernel
theorem dX12_slope_156 : decode cX12_slope 156 = .ok (.getfield 124, 3) := by decide +kernel
theorem dX12_slope_159 : decode cX12_slope 159 = .ok (.iload 4, 2) := by decide +kernel
theorem dX12_slope_161 : decode cX12_slope 161 = .ok (.laload, 1) := by decide +kernel
theorem dX12_slope_162 : decode cX12_slope 162 = .ok (.aload_n 0, 1) := by decide +kernel
theorem dX12_slope_163 : decode cX12_slope 163 = .ok (.getfield 127, 3) := by decide +kernel
theorem dX12_slope_166 : decode cX12_slope 166 = .ok (.iload 4, 2) := by decide +kernel
theorem dX12_slope_168 : decode cX12_slope 168 = .ok (.laload, 1) := by decide +kernel
theorem dX12_slope_169 : decode cX12_slope 169 = .ok (.invokevirtual 427, 3) := by decide +kernel
theorem dX12_slope_172 : decode cX12_slope 172 = .ok (.aload_n 0, 1) := by decide +kernel
theorem dX12_slope_173 : decode cX12_slope 173 = .ok (.getfield 387, 3) := by decide +kernel
theorem dX12_slope_176 : decode cX12_slope 176 = .ok (.lstore 13, 2) := by decide +kernel
theorem dX12_slope_178 : decode cX12_slope 178 = .ok (.aload_n 0, 1) := by decide +kernel
theorem dX12_slope_179 : decode cX12_slope 179 = .ok (.getfield 391, 3) := by decide +kernel
theorem dX12_slope_182 : decode cX12_slope 182 = .ok (.lstore 15, 2) := by decide +kernel
theorem dX12_slope_184 : decode cX12_slope 184 = .ok (.aload_n 0, 1) := by decide +kernel
theorem dX12_slope_185 : decode cX12_slope 185 = .ok (.aload_n 0, 1) := by decide +kernel
theorem dX12_slope_186 : decode cX12_slope 186 = .ok (.getfield 124, 3) := by decide +kernel
theorem dX12_slope_189 : decode cX12_slope 189 = .ok (.iload_n 3, 1) := by decide +kernel
theorem dX12_slope_190 : decode cX12_slope 190 = .ok (.laload, 1) := by decide +kernel
theorem dX12_slope_191 : decode cX12_slope 191 = .ok (.aload_n 0, 1) := by decide +kernel
theorem dX12_slope_192 : decode cX12_slope 192 = .ok (.getfield 127, 3) := by decide +kernel
theorem dX12_slope_195 : decode cX12_slope 195 = .ok (.iload_n 3, 1) := by decide +kernel
theorem dX12_slope_196 : decode cX12_slope 196 = .ok (.laload, 1) := by decide +kernel
theorem dX12_slope_197 : decode cX12_slope 197 = .ok (.lload 9, 2) := by decide +kernel
theorem dX12_slope_199 : decode cX12_slope 199 = .ok (.lload 11, 2) := by decide +kernel
theorem dX12_slope_201 : decode cX12_slope 201 = .ok (.invokevirtual 427, 3) := by decide +kernel
theorem dX12_slope_204 : decode cX12_slope 204 = .ok (.aload_n 0, 1) := by decide +kernel
theorem dX12_slope_205 : decode cX12_slope 205 = .ok (.lload 13, 2) := by decide +kernel
theorem dX12_slope_207 : decode cX12_slope 207 = .ok (.lload 15, 2) := by decide +kernel
theorem dX12_slope_209 : decode cX12_slope 209 = .ok (.aload_n 0, 1) := by decide +kernel
theorem dX12_slope_210 : decode cX12_slope 210 = .ok (.getfield 387, 3) := by decide +kernel
theorem dX12_slope_213 : decode cX12_slope 213 = .ok (.aload_n 0, 1) := by decide +kernel
theorem dX12_slope_214 : decode cX12_slope 214 = .ok (.getfield 391, 3) := by decide +kernel
theorem dX12_slope_217 : decode cX12_slope 217 = .ok (.invokevirtual 424, 3) := by decide +kernel
theorem dX12_slope_220 : decode cX12_slope 220 = .ok (.goto 111, 3) := by decide +kernel
theorem dX12_slope_223 : decode cX12_slope 223 = .ok (.aload_n 0, 1) := by decide +kernel
theorem dX12_slope_224 : decode cX12_slope 224 = .ok (.aload_n 0, 1) := by decide +kernel
theorem dX12_slope_225 : decode cX12_slope 225 = .ok (.getfield 124, 3) := by decide +kernel
theorem dX12_slope_228 : decode cX12_slope 228 = .ok (.iload_n 1, 1) := by decide +kernel
theorem dX12_slope_229 : decode cX12_slope 229 = .ok (.laload, 1) := by decide +kernel
theorem dX12_slope_230 : decode cX12_slope 230 = .ok (.aload_n 0, 1) := by decide +kernel
theorem dX12_slope_231 : decode cX12_slope 231 = .ok (.getfield 127, 3) := by decide +kernel
theorem dX12_slope_234 : decode cX12_slope 234 = .ok (.iload_n 1, 1) := by decide +kernel
theorem dX12_slope_235 : decode cX12_slope 235 = .ok (.laload, 1) := by decide +kernel
theorem dX12_slope_236 : decode cX12_slope 236 = .ok (.lload 9, 2) := by decide +kernel
theorem dX12_slope_238 : decode cX12_slope 238 = .ok (.lload 11, 2) := by decide +kernel
theorem dX12_slope_240 : decode cX12_slope 240 = .ok (.invokevirtual 427, 3) := by decide +kernel
theorem dX12_slope_243 : decode cX12_slope 243 = .ok (.aload_n 0, 1) := by decide +kernel
theorem dX12_slope_244 : decode cX12_slope 244 = .ok (.lload 5, 2) := by decide +kernel
theorem dX12_slope_246 : decode cX12_slope 246 = .ok (.lload 7, 2) := by decide +kernel
theorem dX12_slope_248 : decode cX12_slope 248 = .ok (.aload_n 0, 1) := by decide +kernel
theorem dX12_slope_249 : decode cX12_slope 249 = .ok (.getfield 387, 3) := by decide +kernel
theorem dX12_slope_252 : decode cX12_slope 252 = .ok (.aload_n 0, 1) := by decide +kernel
theorem dX12_slope_253 : decode cX12_slope 253 = .ok (.getfield 391, 3) := by decide +kernel
theorem dX12_slope_256 : decode cX12_slope 256 = .ok (.invokevirtual 408, 3) := by decide +kernel
theorem dX12_slope_259 : decode cX12_slope 259 = .ok (.aload_n 0, 1) := by decide +kernel
theorem dX12_slope_260 : decode cX12_slope 260 = .ok (.aload_n 0, 1) := by decide +kernel
theorem dX12_slope_261 : decode cX12_slope 261 = .ok (.getfield 387, 3) := by decide +kernel
theorem dX12_slope_264 : decode cX12_slope 264 = .ok (.aload_n 0, 1) := by decide +kernel
theorem dX12_slope_265 : decode cX12_slope 265 = .ok (.getfield 391, 3) := by decide +kernel
theorem dX12_slope_268 : decode cX12_slope 268 = .ok (.aload_n 0, 1) := by decide +kernel
theorem dX12_slope_269 : decode cX12_slope 269 = .ok (.getfield 124, 3) := by decide +kernel
theorem dX12_slope_272 : decode cX12_slope 272 = .ok (.iload 4, 2) := by decide +kernel
theorem dX12_slope_274 : decode cX12_slope 274 = .ok (.laload, 1) := by decide +kernel
theorem dX12_slope_275 : decode cX12_slope 275 = .ok (.aload_n 0, 1) := by decide +kernel
theorem dX12_slope_276 : decode cX12_slope 276 = .ok (.getfield 127, 3) := by decide +kernel
theorem dX12_slope_279 : decode cX12_slope 279 = .ok (.iload 4, 2) := by decide +kernel
theorem dX12_slope_281 : decode cX12_slope 281 = .ok (.laload, 1) := by decide +kernel
theorem dX12_slope_282 : decode cX12_slope 282 = .ok (.invokevirtual 430, 3) := by decide +kernel
theorem dX12_slope_285 : decode cX12_slope 285 = .ok (.goto 46, 3) := by decide +kernel
theorem dX12_slope_288 : decode cX12_slope 288 = .ok (.aload_n 0, 1) := by decide +kernel
theorem dX12_slope_289 : decode cX12_slope 289 = .ok (.getfield 124, 3) := by decide +kernel
theorem dX12_slope_292 : decode cX12_slope 292 = .ok (.iload_n 3, 1) := by decide +kernel
theorem dX12_slope_293 : decode cX12_slope 293 = .ok (.laload, 1) := by decide +kernel
theorem dX12_slope_294 : decode cX12_slope 294 = .ok (.lconst 0, 1) := by decide +kernel
theorem dX12_slope_295 : decode cX12_slope 295 = .ok (.lcmp, 1) := by decide +kernel
theorem dX12_slope_296 : decode cX12_slope 296 = .ok (.ifCond .ge 16, 3) := by decide +kernel
theorem dX12_slope_299 : decode cX12_slope 299 = .ok (.aload_n 0, 1) := by decide +kernel
theorem dX12_slope_300 : decode cX12_slope 300 = .ok (.lconst 0, 1) := by decide +kernel
theorem dX12_slope_301 : decode cX12_slope 301 = .ok (.lconst 1, 1) := by decide +kernel
theorem dX12_slope_302 : decode cX12_slope 302 = .ok (.lload 5, 2) := by decide +kernel
theorem dX12_slope_304 : decode cX12_slope 304 = .ok (.lload 7, 2) := by decide +kernel
theorem dX12_slope_306 : decode cX12_slope 306 = .ok (.invokevirtual 408, 3) := by decide +kernel
theorem dX12_slope_309 : decode cX12_slope 309 = .ok (.goto 22, 3) := by decide +kernel
theorem dX12_slope_312 : decode cX12_slope 312 = .ok (.aload_n 0, 1) := by decide +kernel
theorem dX12_slope_313 : decode cX12_slope 313 = .ok (.lload 5, 2) := by decide +kernel
theorem dX12_slope_315 : decode cX12_slope 315 = .ok (.lload 7, 2) := by decide +kernel
theorem dX12_slope_317 : decode cX12_slope 317 = .ok (.invokevirtual 400, 3) := by decide +kernel
theorem dX12_slope_320 : decode cX12_slope 320 = .ok (.goto 11, 3) := by decide +kernel
theorem dX12_slope_323 : decode cX12_slope 323 = .ok (.aload_n 0, 1) := by decide +kernel
theorem dX12_slope_324 : decode cX12_slope 324 = .ok (.lload 5, 2) := by decide +kernel
theorem dX12_slope_326 : decode cX12_slope 326 = .ok (.lload 7, 2) := by decide +kernel
theorem dX12_slope_328 : decode cX12_slope 328 = .ok (.invokevirtual 400, 3) := by decide +kernel
theorem dX12_slope_331 : decode cX12_slope 331 = .ok (.aload_n 0, 1) := by decide +kernel
theorem dX12_slope_332 : decode cX12_slope 332 = .ok (.iload_n 2, 1) := by decide +kernel
theorem dX12_slope_333 : decode cX12_slope 333 = .ok (.iload_n 1, 1) := by decide +kernel
theorem dX12_slope_334 : decode cX12_slope 334 = .ok (.aload_n 0, 1) := by decide +kernel
theorem dX12_slope_335 : decode cX12_slope 335 = .ok (.getfield 387, 3) := by decide +kernel
theorem dX12_slope_338 : decode cX12_slope 338 = .ok (.aload_n 0, 1) := by decide +kernel
theorem dX12_slope_339 : decode cX12_slope 339 = .ok (.getfield 391, 3) := by decide +kernel
theorem dX12_slope_342 : decode cX12_slope 342 = .ok (.invokevirtual 457, 3) := by decide +kernel
theorem dX12_slope_345 : decode cX12_slope 345 = .ok (.return_, 1) := by decide +kernel
theorem dX12_bends_0 : decode cX12_bends 0 = .ok (.aload_n 0, 1) := by decide +kernel
theorem dX12_bends_1 : decode cX12_bends 1 = .ok (.getfield 133, 3) := by decide +kernel
theorem dX12_bends_4 : decode cX12_bends 4 = .ok (.iload_n 1, 1) := by decide +kernel
theorem dX12_bends_5 : decode cX12_bends 5 = .ok (.iaload, 1) := by decide +kernel
theorem dX12_bends_6 : decode cX12_bends 6 = .ok (.istore_n 2, 1) := by decide +kernel
theorem dX12_bends_7 : decode cX12_bends 7 = .ok (.aload_n 0, 1) := by decide +kernel
theorem dX12_bends_8 : decode cX12_bends 8 = .ok (.getfield 136, 3) := by decide +kernel
theorem dX12_bends_11 : decode cX12_bends 11 = .ok (.iload_n 1, 1) := by decide +kernel
theorem dX12_bends_12 : decode cX12_bends 12 = .ok (.iaload, 1) := by decide +kernel
theorem dX12_bends_13 : decode cX12_bends 13 = .ok (.istore_n 3, 1) := by decide +kernel
theorem dX12_bends_14 : decode cX12_bends 14 = .ok (.sipush 3520, 3) := by decide +kernel
theorem dX12_bends_17 : decode cX12_bends 17 = .ok (.iload_n 2, 1) := by decide +kernel
theorem dX12_bends_18 : decode cX12_bends 18 = .ok (.iadd, 1) := by decide +kernel
theorem dX12_bends_19 : decode cX12_bends 19 = .ok (.istore 4, 2) := by decide +kernel
theorem dX12_bends_21 : decode cX12_bends 21 = .ok (.sipush 3520, 3) := by decide +kernel
theorem dX12_bends_24 : decode cX12_bends 24 = .ok (.iload_n 3, 1) := by decide +kernel
theorem dX12_bends_25 : decode cX12_bends 25 = .ok (.iadd, 1) := by decide +kernel
theorem dX12_bends_26 : decode cX12_bends 26 = .ok (.istore 5, 2) := by decide +kernel
theorem dX12_bends_28 : decode cX12_bends 28 = .ok (.aload_n 0, 1) := by decide +kernel
theorem dX12_bends_29 : decode cX12_bends 29 = .ok (.getfield 130, 3) := by decide +kernel
theorem dX12_bends_32 : decode cX12_bends 32 = .ok (.iload_n 1, 1) := by decide +kernel
theorem dX12_bends_33 : decode cX12_bends 33 = .ok (.iaload, 1) := by decide +kernel
theorem dX12_bends_34 : decode cX12_bends 34 = .ok (.tableswitch 597 1 7 #[42, 77, 112, 331, 597, 597, 542], 42) := by decide +kernel
theorem dX12_bends_76 : decode cX12_bends 76 = .ok (.aload_n 0, 1) := by decide +kernel
theorem dX12_bends_77 : decode cX12_bends 77 = .ok (.aload_n 0, 1) := by decide +kernel
theorem dX12_bends_78 : decode cX12_bends 78 = .ok (.getfield 167, 3) := by decide +kernel
theorem dX12_bends_81 : decode cX12_bends 81 = .ok (.iload 4, 2) := by decide +kernel
theorem dX12_bends_83 : decode cX12_bends 83 = .ok (.laload, 1) := by decide +kernel
theorem dX12_bends_84 : decode cX12_bends 84 = .ok (.aload_n 0, 1) := by decide +kernel
theorem dX12_bends_85 : decode cX12_bends 85 = .ok (.getfield 170, 3) := by decide +kernel
theorem dX12_bends_88 : decode cX12_bends 88 = .ok (.iload 4, 2) := by decide +kernel
theorem dX12_bends_90 : decode cX12_bends 90 = .ok (.laload, 1) := by decide +kernel
theorem dX12_bends_91 : decode cX12_bends 91 = .ok (.aload_n 0, 1) := by decide +kernel
theorem dX12_bends_92 : decode cX12_bends 92 = .ok (.getfield 167, 3) := by decide +kernel
theorem dX12_bends_95 : decode cX12_bends 95 = .ok (.iload 5, 2) := by decide +kernel
theorem dX12_bends_97 : decode cX12_bends 97 = .ok (.laload, 1) := by decide +kernel
theorem dX12_bends_98 : decode cX12_bends 98 = .ok (.aload_n 0, 1) := by decide +kernel
theorem dX12_bends_99 : decode cX12_bends 99 = .ok (.getfield 170, 3) := by decide +kernel
theorem dX12_bends_102 : decode cX12_bends 102 = .ok (.iload 5, 2) := by decide +kernel
theorem dX12_bends_104 : decode cX12_bends 104 = .ok (.laload, 1) := by decide +kernel
theorem dX12_bends_105 : decode cX12_bends 105 = .ok (.invokevirtual 424, 3) := by decide +kernel
theorem dX12_bends_108 : decode cX12_bends 108 = .ok (.goto 541, 3) := by decide +kernel
theorem dX12_bends_111 : decode cX12_bends 111 = .ok (.aload_n 0, 1) := by decide +kernel
theorem dX12_bends_112 : decode cX12_bends 112 = .ok (.aload_n 0, 1) := by decide +kernel
theorem dX12_bends_113 : decode cX12_bends 113 = .ok (.getfield 167, 3) := by decide +kernel
theorem dX12_bends_116 : decode cX12_bends 116 = .ok (.iload 4, 2) := by decide +kernel
theorem dX12_bends_118 : decode cX12_bends 118 = .ok (.laload, 1) := by decide +kernel
theorem dX12_bends_119 : decode cX12_bends 119 = .ok (.aload_n 0, 1) := by decide +kernel
theorem dX12_bends_120 : decode cX12_bends 120 = .ok (.getfield 170, 3) := by decide +kernel
theorem dX12_bends_123 : decode cX12_bends 123 = .ok (.iload 4, 2) := by decide +kernel
theorem dX12_bends_125 : decode cX12_bends 125 = .ok (.laload, 1) := by decide +kernel
theorem dX12_bends_126 : decode cX12_bends 126 = .ok (.aload_n 0, 1) := by decide +kernel
theorem dX12_bends_127 : decode cX12_bends 127 = .ok (.getfield 167, 3) := by decide +kernel
theorem dX12_bends_130 : decode cX12_bends 130 = .ok (.iload 5, 2) := by decide +kernel
theorem dX12_bends_132 : decode cX12_bends 132 = .ok (.laload, 1) := by decide +kernel
theorem dX12_bends_133 : decode cX12_bends 133 = .ok (.aload_n 0, 1) := by decide +kernel
theorem dX12_bends_134 : decode cX12_bends 134 = .ok (.getfield 170, 3) := by decide +kernel
theorem dX12_bends_137 : decode cX12_bends 137 = .ok (.iload 5, 2) := by decide +kernel
theorem dX12_bends_139 : decode cX12_bends 139 = .ok (.laload, 1) := by decide +kernel
theorem dX12_bends_140 : decode cX12_bends 140 = .ok (.invokevirtual 408, 3) := by decide +kernel
theorem dX12_bends_143 : decode cX12_bends 143 = .ok (.goto 506, 3) := by decide +kernel
theorem dX12_bends_146 : decode cX12_bends 146 = .ok (.aload_n 0, 1) := by decide +kernel
theorem dX12_bends_147 : decode cX12_bends 147 = .ok (.aload_n 0, 1) := by decide +kernel
theorem dX12_bends_148 : decode cX12_bends 148 = .ok (.getfield 167, 3) := by decide +kernel
theorem dX12_bends_151 : decode cX12_bends 151 = .ok (.iload 4, 2) := by decide +kernel
theorem dX12_bends_153 : decode cX12_bends 153 = .ok (.laload, 1) := by decide +kernel
theorem dX12_bends_154 : decode cX12_bends 154 = .ok (.aload_n 0, 1) := by decide +kernel
theorem dX12_bends_155 : decode cX12_bends 155 = .ok (.getfield 170, 3) := by decide +kernel
theorem dX12_bends_158 : decode cX12_bends 158 = .ok (.iload 4, 2) := by decide +kernel
theorem dX12_bends_160 : decode cX12_bends 160 = .ok (.laload, 1) := by decide +kernel
theorem dX12_bends_161 : decode cX12_bends 161 = .ok (.aload_n 0, 1) := by decide +kernel
theorem dX12_bends_162 : decode cX12_bends 162 = .ok (.getfield 124, 3) := by decide +kernel
theorem dX12_bends_165 : decode cX12_bends 165 = .ok (.iload_n 3, 1) := by decide +kernel
theorem dX12_bends_166 : decode cX12_bends 166 = .ok (.laload, 1) := by decide +kernel
theorem dX12_bends_167 : decode cX12_bends 167 = .ok (.aload_n 0, 1) := by decide +kernel
theorem dX12_bends_168 : decode cX12_bends 168 = .ok (.getfield 127, 3) := by decide +kernel
theorem dX12_bends_171 : decode cX12_bends 171 = .ok (.iload_n 3, 1) := by decide +kernel
theorem dX12_bends_172 : decode cX12_bends 172 = .ok (.laload, 1) := by decide +kernel
theorem dX12_bends_173 : decode cX12_bends 173 = .ok (.invokevirtual 427, 3) := by decide +kernel
theorem dX12_bends_176 : decode cX12_bends 176 = .ok (.aload_n 0, 1) := by decide +kernel
theorem dX12_bends_177 : decode cX12_bends 177 = .ok (.getfield 387, 3) := by decide +kernel
theorem dX12_bends_180 : decode cX12_bends 180 = .ok (.lstore 6, 2) := by decide +kernel
theorem dX12_bends_182 : decode cX12_bends 182 = .ok (.aload_n 0, 1) := by decide +kernel
theorem dX12_bends_183 : decode cX12_bends 183 = .ok (.getfield 391, 3) := by decide +kernel
theorem dX12_bends_186 : decode cX12_bends 186 = .ok (.lstore 8, 2) := by decide +kernel
theorem dX12_bends_188 : decode cX12_bends 188 = .ok (.aload_n 0, 1) := by decide +kernel
theorem dX12_bends_189 : decode cX12_bends 189 = .ok (.aload_n 0, 1) := by decide +kernel
theorem dX12_bends_190 : decode cX12_bends 190 = .ok (.getfield 167, 3) := by decide +kernel
theorem dX12_bends_193 : decode cX12_bends 193 = .ok (.iload_n 2, 1) := by decide +kernel
theorem dX12_bends_194 : decode cX12_bends 194 = .ok (.laload, 1) := by decide +kernel
theorem dX12_bends_195 : decode cX12_bends 195 = .ok (.aload_n 0, 1) := by decide +kernel
theorem dX12_bends_196 : decode cX12_bends 196 = .ok (.getfield 170, 3) := by decide +kernel
theorem dX12_bends_199 : decode cX12_bends 199 = .ok (.iload_n 2, 1) := by decide +kernel
theorem dX12_bends_200 : decode cX12_bends 200 = .ok (.laload, 1) := by decide +kernel
theorem dX12_bends_201 : decode cX12_bends 201 = .ok (.aload_n 0, 1) := by decide +kernel
theorem dX12_bends_202 : decode cX12_bends 202 = .ok (.getfield 167, 3) := by decide +kernel
theorem dX12_bends_205 : decode cX12_bends 205 = .ok (.sipush 1760, 3) := by decide +kernel
theorem dX12_bends_208 : decode cX12_bends 208 = .ok (.iload_n 3, 1) := by decide +kernel
theorem dX12_bends_209 : decode cX12_bends 209 = .ok (.iadd, 1) := by decide +kernel
theorem dX12_bends_210 : decode cX12_bends 210 = .ok (.laload, 1) := by decide +kernel
theorem dX12_bends_211 : decode cX12_bends 211 = .ok (.aload_n 0, 1) := by decide +kernel
theorem dX12_bends_212 : decode cX12_bends 212 = .ok (.getfield 170, 3) := by decide +kernel
theorem dX12_bends_215 : decode cX12_bends 215 = .ok (.sipush 1760, 3) := by decide +kernel
theorem dX12_bends_218 : decode cX12_bends 218 = .ok (.iload_n 3, 1) := by decide +kernel
theorem dX12_bends_219 : decode cX12_bends 219 = .ok (.iadd, 1) := by decide +kernel
theorem dX12_bends_220 : decode cX12_bends 220 = .ok (.laload, 1) := by decide +kernel
theorem dX12_bends_221 : decode cX12_bends 221 = .ok (.invokevirtual 427, 3) := by decide +kernel
theorem dX12_bends_224 : decode cX12_bends 224 = .ok (.aload_n 0, 1) := by decide +kernel
theorem dX12_bends_225 : decode cX12_bends 225 = .ok (.lload 6, 2) := by decide +kernel
theorem dX12_bends_227 : decode cX12_bends 227 = .ok (.lload 8, 2) := by decide +kernel
theorem dX12_bends_229 : decode cX12_bends 229 = .ok (.aload_n 0, 1) := by decide +kernel
theorem dX12_bends_230 : decode cX12_bends 230 = .ok (.getfield 387, 3) := by decide +kernel
theorem dX12_bends_233 : decode cX12_bends 233 = .ok (.aload_n 0, 1) := by decide +kernel
theorem dX12_bends_234 : decode cX12_bends 234 = .ok (.getfield 391, 3) := by decide +kernel
theorem dX12_bends_237 : decode cX12_bends 237 = .ok (.invokevirtual 424, 3) := by decide +kernel
theorem dX12_bends_240 : decode cX12_bends 240 = .ok (.aload_n 0, 1) := by decide +kernel
theorem dX12_bends_241 : decode cX12_bends 241 = .ok (.getfield 387, 3) := by decide +kernel
theorem dX12_bends_244 : decode cX12_bends 244 = .ok (.lstore 6, 2) := by decide +kernel
theorem dX12_bends_246 : decode cX12_bends 246 = .ok (.aload_n 0, 1) := by decide +kernel
theorem dX12_bends_247 : decode cX12_bends 247 = .ok (.getfield 391, 3) := by decide +kernel
theorem dX12_bends_250 : decode cX12_bends 250 = .ok (.lstore 8, 2) := by decide +kernel
theorem dX12_bends_252 : decode cX12_bends 252 = .ok (.aload_n 0, 1) := by decide +kernel
theorem dX12_bends_253 : decode cX12_bends 253 = .ok (.aload_n 0, 1) := by decide +kernel
theorem dX12_bends_254 : decode cX12_bends 254 = .ok (.getfield 167, 3) := by decide +kernel
theorem dX12_bends_257 : decode cX12_bends 257 = .ok (.sipush 1760, 3) := by decide +kernel
theorem dX12_bends_260 : decode cX12_bends 260 = .ok (.iload_n 2, 1) := by decide +kernel
theorem dX12_bends_261 : decode cX12_bends 261 = .ok (.iadd, 1) := by decide +kernel
theorem dX12_bends_262 : decode cX12_bends 262 = .ok (.laload, 1) := by decide +kernel
theorem dX12_bends_263 : decode cX12_bends 263 = .ok (.aload_n 0, 1) := by decide +kernel
theorem dX12_bends_264 : decode cX12_bends 264 = .ok (.getfield 170, 3) := by decide +kernel
theorem dX12_bends_267 : decode cX12_bends 267 = .ok (.sipush 1760, 3) := by decide +kernel
theorem dX12_bends_270 : decode cX12_bends 270 = .ok (.iload_n 2, 1) := by decide +kernel
theorem dX12_bends_271 : decode cX12_bends 271 = .ok (.iadd, 1) := by decide +kernel
theorem dX12_bends_272 : decode cX12_bends 272 = .ok (.laload, 1) := by decide +kernel
theorem dX12_bends_273 : decode cX12_bends 273 = .ok (.aload_n 0, 1) := by decide +kernel
theorem dX12_bends_274 : decode cX12_bends 274 = .ok (.getfield 167, 3) := by decide +kernel
theorem dX12_bends_277 : decode cX12_bends 277 = .ok (.iload_n 3, 1) := by decide +kernel
theorem dX12_bends_278 : decode cX12_bends 278 = .ok (.laload, 1) := by decide +kernel
theorem dX12_bends_279 : decode cX12_bends 279 = .ok (.aload_n 0, 1) := by decide +kernel
theorem dX12_bends_280 : decode cX12_bends 280 = .ok (.getfield 170, 3) := by decide +kernel
theorem dX12_bends_283 : decode cX12_bends 283 = .ok (.iload_n 3, 1) := by decide +kernel
theorem dX12_bends_284 : decode cX12_bends 284 = .ok (.laload, 1) := by decide +kernel
theorem dX12_bends_285 : decode cX12_bends 285 = .ok (.invokevirtual 427, 3) := by decide +kernel
theorem dX12_bends_288 : decode cX12_bends 288 = .ok (.aload_n 0, 1) := by decide +kernel
theorem dX12_bends_289 : decode cX12_bends 289 = .ok (.getfield 387, 3) := by decide +kernel
theorem dX12_bends_292 : decode cX12_bends 292 = .ok (.lstore 10, 2) := by decide +kernel
theorem dX12_bends_294 : decode cX12_bends 294 = .ok (.aload_n 0, 1) := by decide +kernel
theorem dX12_bends_295 : decode cX12_bends 295 = .ok (.getfield 391, 3) := by decide +kernel
theorem dX12_bends_298 : decode cX12_bends 298 = .ok (.lstore 12, 2) := by decide +kernel
theorem dX12_bends_300 : decode cX12_bends 300 = .ok (.aload_n 0, 1) := by decide +kernel
theorem dX12_bends_301 : decode cX12_bends 301 = .ok (.aload_n 0, 1) := by decide +kernel
theorem dX12_bends_302 : decode cX12_bends 302 = .ok (.getfield 124, 3) := by decide +kernel
theorem dX12_bends_305 : decode cX12_bends 305 = .ok (.iload_n 2, 1) := by decide +kernel
theorem dX12_bends_306 : decode cX12_bends 306 = .ok (.laload, 1) := by decide +kernel
theorem dX12_bends_307 : decode cX12_bends 307 = .ok (.aload_n 0, 1) := by decide +kernel
theorem dX12_bends_308 : decode cX12_bends 308 = .ok (.getfield 127, 3) := by decide +kernel
theorem dX12_bends_311 : decode cX12_bends 311 = .ok (.iload_n 2, 1) := by decide +kernel
theorem dX12_bends_312 : decode cX12_bends 312 = .ok (.laload, 1) := by decide +kernel
theorem dX12_bends_313 : decode cX12_bends 313 = .ok (.aload_n 0, 1) := by decide +kernel
theorem dX12_bends_314 : decode cX12_bends 314 = .ok (.getfield 167, 3) := by decide +kernel
theorem dX12_bends_317 : decode cX12_bends 317 = .ok (.iload 5, 2) := by decide +kernel
theorem dX12_bends_319 : decode cX12_bends 319 = .ok (.laload, 1) := by decide +kernel
theorem dX12_bends_320 : decode cX12_bends 320 = .ok (.aload_n 0, 1) := by decide +kernel
theorem dX12_bends_321 : decode cX12_bends 321 = .ok (.getfield 170, 3) := by decide +kernel
theorem dX12_bends_324 : decode cX12_bends 324 = .ok (.iload 5, 2) := by decide +kernel
theorem dX12_bends_326 : decode cX12_bends 326 = .ok (.laload, 1) := by decide +kernel
theorem dX12_bends_327 : decode cX12_bends 327 = .ok (.invokevirtual 427, 3) := by decide +kernel
theorem dX12_bends_330 : decode cX12_bends 330 = .ok (.aload_n 0, 1) := by decide +kernel
theorem dX12_bends_331 : decode cX12_bends 331 = .ok (.lload 10, 2) := by decide +kernel
theorem dX12_bends_333 : decode cX12_bends 333 = .ok (.lload 12, 2) := by decide +kernel
theorem dX12_bends_335 : decode cX12_bends 335 = .ok (.aload_n 0, 1) := by decide +kernel
theorem dX12_bends_336 : decode cX12_bends 336 = .ok (.getfield 387, 3) := by decide +kernel
theorem dX12_bends_339 : decode cX12_bends 339 = .ok (.aload_n 0, 1) := by decide +kernel
theorem dX12_bends_340 : decode cX12_bends 340 = .ok (.getfield 391, 3) := by decide +kernel
theorem dX12_bends_343 : decode cX12_bends 343 = .ok (.invokevirtual 424, 3) := by decide +kernel
theorem dX12_bends_346 : decode cX12_bends 346 = .ok (.aload_n 0, 1) := by decide +kernel
theorem dX12_bends_347 : decode cX12_bends 347 = .ok (.lload 6, 2) := by decide +kernel
theorem dX12_bends_349 : decode cX12_bends 349 = .ok (.lload 8, 2) := by decide +kernel
theorem dX12_bends_351 : decode cX12_bends 351 = .ok (.aload_n 0, 1) := by decide +kernel
theorem dX12_bends_352 : decode cX12_bends 352 = .ok (.getfield 387, 3) := by decide +kernel
theorem dX12_bends_355 : decode cX12_bends 355 = .ok (.aload_n 0, 1) := by decide +kernel
theorem dX12_bends_356 : decode cX12_bends 356 = .ok (.getfield 391, 3) := by decide +kernel
theorem dX12_bends_359 : decode cX12_bends 359 = .ok (.invokevirtual 424, 3) := by decide +kernel
theorem dX12_bends_362 : decode cX12_bends 362 = .ok (.goto 287, 3) := by decide +kernel
theorem dX12_bends_365 : decode cX12_bends 365 = .ok (.aload_n 0, 1) := by decide +kernel
theorem dX12_bends_366 : decode cX12_bends 366 = .ok (.aload_n 0, 1) := by decide +kernel
theorem dX12_bends_367 : decode cX12_bends 367 = .ok (.getfield 167, 3) := by decide +kernel
theorem dX12_bends_370 : decode cX12_bends 370 = .ok (.iload_n 1, 1) := by decide +kernel
theorem dX12_bends_371 : decode cX12_bends 371 = .ok (.laload, 1) := by decide +kernel
theorem dX12_bends_372 : decode cX12_bends 372 = .ok (.aload_n 0, 1) := by decide +kernel
theorem dX12_bends_373 : decode cX12_bends 373 = .ok (.getfield 170, 3) := by decide +kernel
theorem dX12_bends_376 : decode cX12_bends 376 = .ok (.iload_n 1, 1) := by decide +kernel
theorem dX12_bends_377 : decode cX12_bends 377 = .ok (.laload, 1) := by decide +kernel
theorem dX12_bends_378 : decode cX12_bends 378 = .ok (.aload_n 0, 1) := by decide +kernel
theorem dX12_bends_379 : decode cX12_bends 379 = .ok (.getfield 167, 3) := by decide +kernel
theorem dX12_bends_382 : decode cX12_bends 382 = .ok (.sipush 1760, 3) := by decide +kernel
theorem dX12_bends_385 : decode cX12_bends 385 = .ok (.iload_n 3, 1) := by decide +kernel
theorem dX12_bends_386 : decode cX12_bends 386 = .ok (.iadd, 1) := by decide +kernel
theorem dX12_bends_387 : decode cX12_bends 387 = .ok (.laload, 1) := by decide +kernel
theorem dX12_bends_388 : decode cX12_bends 388 = .ok (.aload_n 0, 1) := by decide +kernel
theorem dX12_bends_389 : decode cX12_bends 389 = .ok (.getfield 170, 3) := by decide +kernel
theorem dX12_bends_392 : decode cX12_bends 392 = .ok (.sipush 1760, 3) := by decide +kernel
theorem dX12_bends_395 : decode cX12_bends 395 = .ok (.iload_n 3, 1) := by decide +kernel
theorem dX12_bends_396 : decode cX12_bends 396 = .ok (.iadd, 1) := by decide +kernel
theorem dX12_bends_397 : decode cX12_bends 397 = .ok (.laload, 1) := by decide +kernel
theorem dX12_bends_398 : decode cX12_bends 398 = .ok (.invokevirtual 427, 3) := by decide +kernel
theorem dX12_bends_401 : decode cX12_bends 401 = .ok (.aload_n 0, 1) := by decide +kernel
theorem dX12_bends_402 : decode cX12_bends 402 = .ok (.aload_n 0, 1) := by decide +kernel
theorem dX12_bends_403 : decode cX12_bends 403 = .ok (.getfield 167, 3) := by decide +kernel
theorem dX12_bends_406 : decode cX12_bends 406 = .ok (.iload 4, 2) := by decide +kernel
theorem dX12_bends_408 : decode cX12_bends 408 = .ok (.laload, 1) := by decide +kernel
theorem dX12_bends_409 : decode cX12_bends 409 = .ok (.aload_n 0, 1) := by decide +kernel
theorem dX12_bends_410 : decode cX12_bends 410 = .ok (.getfield 170, 3) := by decide +kernel
theorem dX12_bends_413 : decode cX12_bends 413 = .ok (.iload 4, 2) := by decide +kernel
theorem dX12_bends_415 : decode cX12_bends 415 = .ok (.laload, 1) := by decide +kernel
theorem dX12_bends_416 : decode cX12_bends 416 = .ok (.aload_n 0, 1) := by decide +kernel
theorem dX12_bends_417 : decode cX12_bends 417 = .ok (.getfield 387, 3) := by decide +kernel
theorem dX12_bends_420 : decode cX12_bends 420 = .ok (.aload_n 0, 1) := by decide +kernel
theorem dX12_bends_421 : decode cX12_bends 421 = .ok (.getfield 391, 3) := by decide +kernel
theorem dX12_bends_424 : decode cX12_bends 424 = .ok (.invokevirtual 408, 3) := by decide +kernel
theorem dX12_bends_427 : decode cX12_bends 427 = .ok (.aload_n 0, 1) := by decide +kernel
theorem dX12_bends_428 : decode cX12_bends 428 = .ok (.getfield 387, 3) := by decide +kernel
theorem dX12_bends_431 : decode cX12_bends 431 = .ok (.lstore 14, 2) := by decide +kernel
theorem dX12_bends_433 : decode cX12_bends 433 = .ok (.aload_n 0, 1) := by decide +kernel
theorem dX12_bends_434 : decode cX12_bends 434 = .ok (.getfield 391, 3) := by decide +kernel
theorem dX12_bends_437 : decode cX12_bends 437 = .ok (.lstore 16, 2) := by decide +kernel
theorem dX12_bends_439 : decode cX12_bends 439 = .ok (.aload_n 0, 1) := by decide +kernel
theorem dX12_bends_440 : decode cX12_bends 440 = .ok (.aload_n 0, 1) := by decide +kernel
theorem dX12_bends_441 : decode cX12_bends 441 = .ok (.getfield 167, 3) := by decide +kernel
theorem dX12_bends_444 : decode cX12_bends 444 = .ok (.sipush 1760, 3) := by decide +kernel
theorem dX12_bends_447 : decode cX12_bends 447 = .ok (.iload_n 1, 1) := by decide +kernel
theorem dX12_bends_448 : decode cX12_bends 448 = .ok (.iadd, 1) := by decide +kernel
theorem dX12_bends_449 : decode cX12_bends 449 = .ok (.laload, 1) := by decide +kernel
theorem dX12_bends_450 : decode cX12_bends 450 = .ok (.aload_n 0, 1) := by decide +kernel
theorem dX12_bends_451 : decode cX12_bends 451 = .ok (.getfield 170, 3) := by decide +kernel
theorem dX12_bends_454 : decode cX12_bends 454 = .ok (.sipush 1760, 3) := by decide +kernel
theorem dX12_bends_457 : decode cX12_bends 457 = .ok (.iload_n 1, 1) := by decide +kernel
theorem dX12_bends_458 : decode cX12_bends 458 = .ok (.iadd, 1) := by decide +kernel
theorem dX12_bends_459 : decode cX12_bends 459 = .ok (.laload, 1) := by decide +kernel
theorem dX12_bends_460 : decode cX12_bends 460 = .ok (.aload_n 0, 1) := by decide +kernel
theorem dX12_bends_461 : decode cX12_bends 461 = .ok (.getfield 167, 3) := by decide +kernel
theorem dX12_bends_464 : decode cX12_bends 464 = .ok (.iload_n 3, 1) := by decide +kernel
theorem dX12_bends_465 : decode cX12_bends 465 = .ok (.laload, 1) := by decide +kernel
theorem dX12_bends_466 : decode cX12_bends 466 = .ok (.aload_n 0, 1) := by decide +kernel
theorem dX12_bends_467 : decode cX12_bends 467 = .ok (.getfield 170, 3) := by decide +kernel
theorem dX12_bends_470 : decode cX12_bends 470 = .ok (.iload_n 3, 1) := by decide +kernel
theorem dX12_bends_471 : decode cX12_bends 471 = .ok (.laload, 1) := by decide +kernel
theorem dX12_bends_472 : decode cX12_bends 472 = .ok (.invokevirtual 427, 3) := by decide +kernel
theorem dX12_bends_475 : decode cX12_bends 475 = .ok (.aload_n 0, 1) := by decide +kernel
theorem dX12_bends_476 : decode cX12_bends 476 = .ok (.lload 14, 2) := by decide +kernel
theorem dX12_bends_478 : decode cX12_bends 478 = .ok (.lload 16, 2) := by decide +kernel
theorem dX12_bends_480 : decode cX12_bends 480 = .ok (.aload_n 0, 1) := by decide +kernel
theorem dX12_bends_481 : decode cX12_bends 481 = .ok (.getfield 387, 3) := by decide +kernel
theorem dX12_bends_484 : decode cX12_bends 484 = .ok (.aload_n 0, 1) := by decide +kernel
theorem dX12_bends_485 : decode cX12_bends 485 = .ok (.getfield 391, 3) := by decide +kernel
theorem dX12_bends_488 : decode cX12_bends 488 = .ok (.invokevirtual 408, 3) := by decide +kernel
theorem dX12_bends_491 : decode cX12_bends 491 = .ok (.aload_n 0, 1) := by decide +kernel
theorem dX12_bends_492 : decode cX12_bends 492 = .ok (.getfield 387, 3) := by decide +kernel
theorem dX12_bends_495 : decode cX12_bends 495 = .ok (.lstore 14, 2) := by decide +kernel
theorem dX12_bends_497 : decode cX12_bends 497 = .ok (.aload_n 0, 1) := by decide +kernel
theorem dX12_bends_498 : decode cX12_bends 498 = .ok (.getfield 391, 3) := by decide +kernel
theorem dX12_bends_501 : decode cX12_bends 501 = .ok (.lstore 16, 2) := by decide +kernel
theorem dX12_bends_503 : decode cX12_bends 503 = .ok (.aload_n 0, 1) := by decide +kernel
theorem dX12_bends_504 : decode cX12_bends 504 = .ok (.aload_n 0, 1) := by decide +kernel
theorem dX12_bends_505 : decode cX12_bends 505 = .ok (.getfield 124, 3) := by decide +kernel
theorem dX12_bends_508 : decode cX12_bends 508 = .ok (.iload_n 1, 1) := by decide +kernel
theorem dX12_bends_509 : decode cX12_bends 509 = .ok (.laload, 1) := by decide +kernel
theorem dX12_bends_510 : decode cX12_bends 510 = .ok (.aload_n 0, 1) := by decide +kernel
theorem dX12_bends_511 : decode cX12_bends 511 = .ok (.getfield 127, 3) := by decide +kernel
theorem dX12_bends_514 : decode cX12_bends 514 = .ok (.iload_n 1, 1) := by decide +kernel
theorem dX12_bends_515 : decode cX12_bends 515 = .ok (.laload, 1) := by decide +kernel
theorem dX12_bends_516 : decode cX12_bends 516 = .ok (.aload_n 0, 1) := by decide +kernel
theorem dX12_bends_517 : decode cX12_bends 517 = .ok (.getfield 167, 3) := by decide +kernel
theorem dX12_bends_520 : decode cX12_bends 520 = .ok (.iload 5, 2) := by decide +kernel
theorem dX12_bends_522 : decode cX12_bends 522 = .ok (.laload, 1) := by decide +kernel
theorem dX12_bends_523 : decode cX12_bends 523 = .ok (.aload_n 0, 1) := by decide +kernel
theorem dX12_bends_524 : decode cX12_bends 524 = .ok (.getfield 170, 3) := by decide +kernel
theorem dX12_bends_527 : decode cX12_bends 527 = .ok (.iload 5, 2) := by decide +kernel
theorem dX12_bends_529 : decode cX12_bends 529 = .ok (.laload, 1) := by decide +kernel
theorem dX12_bends_530 : decode cX12_bends 530 = .ok (.invokevirtual 427, 3) := by decide +kernel
theorem dX12_bends_533 : decode cX12_bends 533 = .ok (.aload_n 0, 1) := by decide +kernel
theorem dX12_bends_534 : decode cX12_bends 534 = .ok (.lload 14, 2) := by decide +kernel
theorem dX12_bends_536 : decode cX12_bends 536 = .ok (.lload 16, 2) := by decide +kernel
theorem dX12_bends_538 : decode cX12_bends 538 = .ok (.aload_n 0, 1) := by decide +kernel
theorem dX12_bends_539 : decode cX12_bends 539 = .ok (.getfield 387, 3) := by decide +kernel
theorem dX12_bends_542 : decode cX12_bends 542 = .ok (.aload_n 0, 1) := by decide +kernel
theorem dX12_bends_543 : decode cX12_bends 543 = .ok (.getfield 391, 3) := by decide +kernel
theorem dX12_bends_546 : decode cX12_bends 546 = .ok (.invokevirtual 408, 3) := by decide +kernel
theorem dX12_bends_549 : decode cX12_bends 549 = .ok (.aload_n 0, 1) := by decide +kernel
theorem dX12_bends_550 : decode cX12_bends 550 = .ok (.aload_n 0, 1) := by decide +kernel
theorem dX12_bends_551 : decode cX12_bends 551 = .ok (.getfield 387, 3) := by decide +kernel
theorem dX12_bends_554 : decode cX12_bends 554 = .ok (.aload_n 0, 1) := by decide +kernel
theorem dX12_bends_555 : decode cX12_bends 555 = .ok (.getfield 391, 3) := by decide +kernel
theorem dX12_bends_558 : decode cX12_bends 558 = .ok (.aload_n 0, 1) := by decide +kernel
theorem dX12_bends_559 : decode cX12_bends 559 = .ok (.getfield 124, 3) := by decide +kernel
theorem dX12_bends_562 : decode cX12_bends 562 = .ok (.iload_n 3, 1) := by decide +kernel
theorem dX12_bends_563 : decode cX12_bends 563 = .ok (.laload, 1) := by decide +kernel
theorem dX12_bends_564 : decode cX12_bends 564 = .ok (.aload_n 0, 1) := by decide +kernel
theorem dX12_bends_565 : decode cX12_bends 565 = .ok (.getfield 127, 3) := by decide +kernel
theorem dX12_bends_568 : decode cX12_bends 568 = .ok (.iload_n 3, 1) := by decide +kernel
theorem dX12_bends_569 : decode cX12_bends 569 = .ok (.laload, 1) := by decide +kernel
theorem dX12_bends_570 : decode cX12_bends 570 = .ok (.invokevirtual 430, 3) := by decide +kernel
theorem dX12_bends_573 : decode cX12_bends 573 = .ok (.goto 76, 3) := by decide +kernel
theorem dX12_bends_576 : decode cX12_bends 576 = .ok (.aload_n 0, 1) := by decide +kernel
theorem dX12_bends_577 : decode cX12_bends 577 = .ok (.getfield 124, 3) := by decide +kernel
theorem dX12_bends_580 : decode cX12_bends 580 = .ok (.iload_n 2, 1) := by decide +kernel
theorem dX12_bends_581 : decode cX12_bends 581 = .ok (.laload, 1) := by decide +kernel
theorem dX12_bends_582 : decode cX12_bends 582 = .ok (.lconst 0, 1) := by decide +kernel
theorem dX12_bends_583 : decode cX12_bends 583 = .ok (.lcmp, 1) := by decide +kernel
theorem dX12_bends_584 : decode cX12_bends 584 = .ok (.ifCond .ge 26, 3) := by decide +kernel
theorem dX12_bends_587 : decode cX12_bends 587 = .ok (.aload_n 0, 1) := by decide +kernel
theorem dX12_bends_588 : decode cX12_bends 588 = .ok (.lconst 0, 1) := by decide +kernel
theorem dX12_bends_589 : decode cX12_bends 589 = .ok (.lconst 1, 1) := by decide +kernel
theorem dX12_bends_590 : decode cX12_bends 590 = .ok (.aload_n 0, 1) := by decide +kernel
theorem dX12_bends_591 : decode cX12_bends 591 = .ok (.getfield 167, 3) := by decide +kernel
theorem dX12_bends_594 : decode cX12_bends 594 = .ok (.iload 4, 2) := by decide +kernel
theorem dX12_bends_596 : decode cX12_bends 596 = .ok (.laload, 1) := by decide +kernel
theorem dX12_bends_597 : decode cX12_bends 597 = .ok (.aload_n 0, 1) := by decide +kernel
theorem dX12_bends_598 : decode cX12_bends 598 = .ok (.getfield 170, 3) := by decide +kernel
theorem dX12_bends_601 : decode cX12_bends 601 = .ok (.iload 4, 2) := by decide +kernel
theorem dX12_bends_603 : decode cX12_bends 603 = .ok (.laload, 1) := by decide +kernel
theorem dX12_bends_604 : decode cX12_bends 604 = .ok (.invokevirtual 408, 3) := by decide +kernel
theorem dX12_bends_607 : decode cX12_bends 607 = .ok (.goto 42, 3) := by decide +kernel
theorem dX12_bends_610 : decode cX12_bends 610 = .ok (.aload_n 0, 1) := by decide +kernel
theorem dX12_bends_611 : decode cX12_bends 611 = .ok (.aload_n 0, 1) := by decide +kernel
theorem dX12_bends_612 : decode cX12_bends 612 = .ok (.getfield 167, 3) := by decide +kernel
theorem dX12_bends_615 : decode cX12_bends 615 = .ok (.iload 4, 2) := by decide +kernel
theorem dX12_bends_617 : decode cX12_bends 617 = .ok (.laload, 1) := by decide +kernel
theorem dX12_bends_618 : decode cX12_bends 618 = .ok (.aload_n 0, 1) := by decide +kernel
theorem dX12_bends_619 : decode cX12_bends 619 = .ok (.getfield 170, 3) := by decide +kernel
theorem dX12_bends_622 : decode cX12_bends 622 = .ok (.iload 4, 2) := by decide +kernel
theorem dX12_bends_624 : decode cX12_bends 624 = .ok (.laload, 1) := by decide +kernel
theorem dX12_bends_625 : decode cX12_bends 625 = .ok (.invokevirtual 400, 3) := by decide +kernel
theorem dX12_bends_628 : decode cX12_bends 628 = .ok (.goto 21, 3) := by decide +kernel
theorem dX12_bends_631 : decode cX12_bends 631 = .ok (.aload_n 0, 1) := by decide +kernel
theorem dX12_bends_632 : decode cX12_bends 632 = .ok (.aload_n 0, 1) := by decide +kernel
theorem dX12_bends_633 : decode cX12_bends 633 = .ok (.getfield 167, 3) := by decide +kernel
theorem dX12_bends_636 : decode cX12_bends 636 = .ok (.iload 4, 2) := by decide +kernel
theorem dX12_bends_638 : decode cX12_bends 638 = .ok (.laload, 1) := by decide +kernel
theorem dX12_bends_639 : decode cX12_bends 639 = .ok (.aload_n 0, 1) := by decide +kernel
theorem dX12_bends_640 : decode cX12_bends 640 = .ok (.getfield 170, 3) := by decide +kernel
theorem dX12_bends_643 : decode cX12_bends 643 = .ok (.iload 4, 2) := by decide +kernel
theorem dX12_bends_645 : decode cX12_bends 645 = .ok (.laload, 1) := by decide +kernel
theorem dX12_bends_646 : decode cX12_bends 646 = .ok (.invokevirtual 400, 3) := by decide +kernel
theorem dX12_bends_649 : decode cX12_bends 649 = .ok (.aload_n 0, 1) := by decide +kernel
theorem dX12_bends_650 : decode cX12_bends 650 = .ok (.iconst 2, 1) := by decide +kernel
theorem dX12_bends_651 : decode cX12_bends 651 = .ok (.iload_n 1, 1) := by decide +kernel
theorem dX12_bends_652 : decode cX12_bends 652 = .ok (.aload_n 0, 1) := by decide +kernel
theorem dX12_bends_653 : decode cX12_bends 653 = .ok (.getfield 387, 3) := by decide +kernel
theorem dX12_bends_656 : decode cX12_bends 656 = .ok (.aload_n 0, 1) := by decide +kernel
theorem dX12_bends_657 : decode cX12_bends 657 = .ok (.getfield 391, 3) := by decide +kernel
theorem dX12_bends_660 : decode cX12_bends 660 = .ok (.invokevirtual 457, 3) := by decide +kernel
theorem dX12_bends_663 : decode cX12_bends 663 = .ok (.return_, 1) := by decide +kernel
theorem dX12_goesBack_0 : decode cX12_goesBack 0 = .ok (.aload_n 0, 1) := by decide +kernel
theorem dX12_goesBack_1 : decode cX12_goesBack 1 = .ok (.getfield 133, 3) := by decide +kernel
theorem dX12_goesBack_4 : decode cX12_goesBack 4 = .ok (.iload_n 1, 1) := by decide +kernel
theorem dX12_goesBack_5 : decode cX12_goesBack 5 = .ok (.iaload, 1) := by decide +kernel
theorem dX12_goesBack_6 : decode cX12_goesBack 6 = .ok (.istore 6, 2) := by decide +kernel
theorem dX12_goesBack_8 : decode cX12_goesBack 8 = .ok (.aload_n 0, 1) := by decide +kernel
theorem dX12_goesBack_9 : decode cX12_goesBack 9 = .ok (.getfield 136, 3) := by decide +kernel
theorem dX12_goesBack_12 : decode cX12_goesBack 12 = .ok (.iload_n 1, 1) := by decide +kernel
theorem dX12_goesBack_13 : decode cX12_goesBack 13 = .ok (.iaload, 1) := by decide +kernel
theorem dX12_goesBack_14 : decode cX12_goesBack 14 = .ok (.istore 7, 2) := by decide +kernel
theorem dX12_goesBack_16 : decode cX12_goesBack 16 = .ok (.aload_n 0, 1) := by decide +kernel
theorem dX12_goesBack_17 : decode cX12_goesBack 17 = .ok (.getfield 130, 3) := by decide +kernel
theorem dX12_goesBack_20 : decode cX12_goesBack 20 = .ok (.iload_n 1, 1) := by decide +kernel
theorem dX12_goesBack_21 : decode cX12_goesBack 21 = .ok (.iaload, 1) := by decide +kernel
theorem dX12_goesBack_22 : decode cX12_goesBack 22 = .ok (.tableswitch 285 1 7 #[42, 63, 85, 158, 285, 285, 256], 42) := by decide +kernel
theorem dX12_goesBack_64 : decode cX12_goesBack 64 = .ok (.aload_n 0, 1) := by decide +kernel
theorem dX12_goesBack_65 : decode cX12_goesBack 65 = .ok (.iload 6, 2) := by decide +kernel
theorem dX12_goesBack_67 : decode cX12_goesBack 67 = .ok (.lload_n 2, 1) := by decide +kernel
theorem dX12_goesBack_68 : decode cX12_goesBack 68 = .ok (.lload 4, 2) := by decide +kernel
theorem dX12_goesBack_70 : decode cX12_goesBack 70 = .ok (.invokevirtual 478, 3) := by decide +kernel
theorem dX12_goesBack_73 : decode cX12_goesBack 73 = .ok (.aload_n 0, 1) := by decide +kernel
theorem dX12_goesBack_74 : decode cX12_goesBack 74 = .ok (.iload 7, 2) := by decide +kernel
theorem dX12_goesBack_76 : decode cX12_goesBack 76 = .ok (.lload_n 2, 1) := by decide +kernel
theorem dX12_goesBack_77 : decode cX12_goesBack 77 = .ok (.lload 4, 2) := by decide +kernel
theorem dX12_goesBack_79 : decode cX12_goesBack 79 = .ok (.invokevirtual 478, 3) := by decide +kernel
theorem dX12_goesBack_82 : decode cX12_goesBack 82 = .ok (.goto 234, 3) := by decide +kernel
theorem dX12_goesBack_85 : decode cX12_goesBack 85 = .ok (.aload_n 0, 1) := by decide +kernel
theorem dX12_goesBack_86 : decode cX12_goesBack 86 = .ok (.iload 6, 2) := by decide +kernel
theorem dX12_goesBack_88 : decode cX12_goesBack 88 = .ok (.lload_n 2, 1) := by decide +kernel
theorem dX12_goesBack_89 : decode cX12_goesBack 89 = .ok (.lload 4, 2) := by decide +kernel
theorem dX12_goesBack_91 : decode cX12_goesBack 91 = .ok (.invokevirtual 478, 3) := by decide +kernel
theorem dX12_goesBack_94 : decode cX12_goesBack 94 = .ok (.aload_n 0, 1) := by decide +kernel
theorem dX12_goesBack_95 : decode cX12_goesBack 95 = .ok (.iload 7, 2) := by decide +kernel
theorem dX12_goesBack_97 : decode cX12_goesBack 97 = .ok (.lload_n 2, 1) := by decide +kernel
theorem dX12_goesBack_98 : decode cX12_goesBack 98 = .ok (.lneg, 1) := by decide +kernel
theorem dX12_goesBack_99 : decode cX12_goesBack 99 = .ok (.lload 4, 2) := by decide +kernel
theorem dX12_goesBack_101 : decode cX12_goesBack 101 = .ok (.invokevirtual 478, 3) := by decide +kernel
theorem dX12_goesBack_104 : decode cX12_goesBack 104 = .ok (.goto 212, 3) := by decide +kernel
theorem dX12_goesBack_107 : decode cX12_goesBack 107 = .ok (.aload_n 0, 1) := by decide +kernel
theorem dX12_goesBack_108 : decode cX12_goesBack 108 = .ok (.lload_n 2, 1) := by decide +kernel
theorem dX12_goesBack_109 : decode cX12_goesBack 109 = .ok (.lload 4, 2) := by decide +kernel
theorem dX12_goesBack_111 : decode cX12_goesBack 111 = .ok (.aload_n 0, 1) := by decide +kernel
theorem dX12_goesBack_112 : decode cX12_goesBack 112 = .ok (.getfield 124, 3) := by decide +kernel
theorem dX12_goesBack_115 : decode cX12_goesBack 115 = .ok (.iload 7, 2) := by decide +kernel
theorem dX12_goesBack_117 : decode cX12_goesBack 117 = .ok (.laload, 1) := by decide +kernel
theorem dX12_goesBack_118 : decode cX12_goesBack 118 = .ok (.aload_n 0, 1) := by decide +kernel
theorem dX12_goesBack_119 : decode cX12_goesBack 119 = .ok (.getfield 127, 3) := by decide +kernel
theorem dX12_goesBack_122 : decode cX12_goesBack 122 = .ok (.iload 7, 2) := by decide +kernel
theorem dX12_goesBack_124 : decode cX12_goesBack 124 = .ok (.laload, 1) := by decide +kernel
theorem dX12_goesBack_125 : decode cX12_goesBack 125 = .ok (.invokevirtual 427, 3) := by decide +kernel
theorem dX12_goesBack_128 : decode cX12_goesBack 128 = .ok (.aload_n 0, 1) := by decide +kernel
theorem dX12_goesBack_129 : decode cX12_goesBack 129 = .ok (.iload 6, 2) := by decide +kernel
theorem dX12_goesBack_131 : decode cX12_goesBack 131 = .ok (.aload_n 0, 1) := by decide +kernel
theorem dX12_goesBack_132 : decode cX12_goesBack 132 = .ok (.getfield 387, 3) := by decide +kernel
theorem dX12_goesBack_135 : decode cX12_goesBack 135 = .ok (.aload_n 0, 1) := by decide +kernel
theorem dX12_goesBack_136 : decode cX12_goesBack 136 = .ok (.getfield 391, 3) := by decide +kernel
theorem dX12_goesBack_139 : decode cX12_goesBack 139 = .ok (.invokevirtual 478, 3) := by decide +kernel
theorem dX12_goesBack_142 : decode cX12_goesBack 142 = .ok (.aload_n 0, 1) := by decide +kernel
theorem dX12_goesBack_143 : decode cX12_goesBack 143 = .ok (.aload_n 0, 1) := by decide +kernel
theorem dX12_goesBack_144 : decode cX12_goesBack 144 = .ok (.getfield 124, 3) := by decide +kernel
theorem dX12_goesBack_147 : decode cX12_goesBack 147 = .ok (.iload 6, 2) := by decide +kernel
theorem dX12_goesBack_149 : decode cX12_goesBack 149 = .ok (.laload, 1) := by decide +kernel
theorem dX12_goesBack_150 : decode cX12_goesBack 150 = .ok (.aload_n 0, 1) := by decide +kernel
theorem dX12_goesBack_151 : decode cX12_goesBack 151 = .ok (.getfield 127, 3) := by decide +kernel
theorem dX12_goesBack_154 : decode cX12_goesBack 154 = .ok (.iload 6, 2) := by decide +kernel
theorem dX12_goesBack_156 : decode cX12_goesBack 156 = .ok (.laload, 1) := by decide +kernel
theorem dX12_goesBack_157 : decode cX12_goesBack 157 = .ok (.lload_n 2, 1) := by decide +kernel
theorem dX12_goesBack_158 : decode cX12_goesBack 158 = .ok (.lload 4, 2) := by decide +kernel
theorem dX12_goesBack_160 : decode cX12_goesBack 160 = .ok (.invokevirtual 427, 3) := by decide +kernel
theorem dX12_goesBack_163 : decode cX12_goesBack 163 = .ok (.aload_n 0, 1) := by decide +kernel
theorem dX12_goesBack_164 : decode cX12_goesBack 164 = .ok (.iload 7, 2) := by decide +kernel
theorem dX12_goesBack_166 : decode cX12_goesBack 166 = .ok (.aload_n 0, 1) := by decide +kernel
theorem dX12_goesBack_167 : decode cX12_goesBack 167 = .ok (.getfield 387, 3) := by decide +kernel
theorem dX12_goesBack_170 : decode cX12_goesBack 170 = .ok (.aload_n 0, 1) := by decide +kernel
theorem dX12_goesBack_171 : decode cX12_goesBack 171 = .ok (.getfield 391, 3) := by decide +kernel
theorem dX12_goesBack_174 : decode cX12_goesBack 174 = .ok (.invokevirtual 478, 3) := by decide +kernel
theorem dX12_goesBack_177 : decode cX12_goesBack 177 = .ok (.goto 139, 3) := by decide +kernel
theorem dX12_goesBack_180 : decode cX12_goesBack 180 = .ok (.aload_n 0, 1) := by decide +kernel
theorem dX12_goesBack_181 : decode cX12_goesBack 181 = .ok (.lload_n 2, 1) := by decide +kernel
theorem dX12_goesBack_182 : decode cX12_goesBack 182 = .ok (.lload 4, 2) := by decide +kernel
theorem dX12_goesBack_184 : decode cX12_goesBack 184 = .ok (.aload_n 0, 1) := by decide +kernel
theorem dX12_goesBack_185 : decode cX12_goesBack 185 = .ok (.getfield 124, 3) := by decide +kernel
theorem dX12_goesBack_188 : decode cX12_goesBack 188 = .ok (.iload 7, 2) := by decide +kernel
theorem dX12_goesBack_190 : decode cX12_goesBack 190 = .ok (.laload, 1) := by decide +kernel
theorem dX12_goesBack_191 : decode cX12_goesBack 191 = .ok (.aload_n 0, 1) := by decide +kernel
theorem dX12_goesBack_192 : decode cX12_goesBack 192 = .ok (.getfield 127, 3) := by decide +kernel
theorem dX12_goesBack_195 : decode cX12_goesBack 195 = .ok (.iload 7, 2) := by decide +kernel
theorem dX12_goesBack_197 : decode cX12_goesBack 197 = .ok (.laload, 1) := by decide +kernel
theorem dX12_goesBack_198 : decode cX12_goesBack 198 = .ok (.invokevirtual 430, 3) := by decide +kernel
theorem dX12_goesBack_201 : decode cX12_goesBack 201 = .ok (.aload_n 0, 1) := by decide +kernel
theorem dX12_goesBack_202 : decode cX12_goesBack 202 = .ok (.iload 6, 2) := by decide +kernel
theorem dX12_goesBack_204 : decode cX12_goesBack 204 = .ok (.aload_n 0, 1) := by decide +kernel
theorem dX12_goesBack_205 : decode cX12_goesBack 205 = .ok (.getfield 387, 3) := by decide +kernel
theorem dX12_goesBack_208 : decode cX12_goesBack 208 = .ok (.aload_n 0, 1) := by decide +kernel
theorem dX12_goesBack_209 : decode cX12_goesBack 209 = .ok (.getfield 391, 3) := by decide +kernel
theorem dX12_goesBack_212 : decode cX12_goesBack 212 = .ok (.invokevirtual 478, 3) := by decide +kernel
theorem dX12_goesBack_215 : decode cX12_goesBack 215 = .ok (.aload_n 0, 1) := by decide +kernel
theorem dX12_goesBack_216 : decode cX12_goesBack 216 = .ok (.lload_n 2, 1) := by decide +kernel
theorem dX12_goesBack_217 : decode cX12_goesBack 217 = .ok (.lload 4, 2) := by decide +kernel
theorem dX12_goesBack_219 : decode cX12_goesBack 219 = .ok (.aload_n 0, 1) := by decide +kernel
theorem dX12_goesBack_220 : decode cX12_goesBack 220 = .ok (.getfield 124, 3) := by decide +kernel
theorem dX12_goesBack_223 : decode cX12_goesBack 223 = .ok (.iload 7, 2) := by decide +kernel
theorem dX12_goesBack_225 : decode cX12_goesBack 225 = .ok (.laload, 1) := by decide +kernel
theorem dX12_goesBack_226 : decode cX12_goesBack 226 = .ok (.aload_n 0, 1) := by decide +kernel
theorem dX12_goesBack_227 : decode cX12_goesBack 227 = .ok (.getfield 127, 3) := by decide +kernel
theorem dX12_goesBack_230 : decode cX12_goesBack 230 = .ok (.iload 7, 2) := by decide +kernel
theorem dX12_goesBack_232 : decode cX12_goesBack 232 = .ok (.laload, 1) := by decide +kernel
theorem dX12_goesBack_233 : decode cX12_goesBack 233 = .ok (.invokevirtual 430, 3) := by decide +kernel
theorem dX12_goesBack_236 : decode cX12_goesBack 236 = .ok (.aload_n 0, 1) := by decide +kernel
theorem dX12_goesBack_237 : decode cX12_goesBack 237 = .ok (.aload_n 0, 1) := by decide +kernel
theorem dX12_goesBack_238 : decode cX12_goesBack 238 = .ok (.getfield 124, 3) := by decide +kernel
theorem dX12_goesBack_241 : decode cX12_goesBack 241 = .ok (.iload_n 1, 1) := by decide +kernel
theorem dX12_goesBack_242 : decode cX12_goesBack 242 = .ok (.laload, 1) := by decide +kernel
theorem dX12_goesBack_243 : decode cX12_goesBack 243 = .ok (.aload_n 0, 1) := by decide +kernel
theorem dX12_goesBack_244 : decode cX12_goesBack 244 = .ok (.getfield 127, 3) := by decide +kernel
theorem dX12_goesBack_247 : decode cX12_goesBack 247 = .ok (.iload_n 1, 1) := by decide +kernel
theorem dX12_goesBack_248 : decode cX12_goesBack 248 = .ok (.laload, 1) := by decide +kernel
theorem dX12_goesBack_249 : decode cX12_goesBack 249 = .ok (.aload_n 0, 1) := by decide +kernel
theorem dX12_goesBack_250 : decode cX12_goesBack 250 = .ok (.getfield 387, 3) := by decide +kernel
theorem dX12_goesBack_253 : decode cX12_goesBack 253 = .ok (.aload_n 0, 1) := by decide +kernel
theorem dX12_goesBack_254 : decode cX12_goesBack 254 = .ok (.getfield 391, 3) := by decide +kernel
theorem dX12_goesBack_257 : decode cX12_goesBack 257 = .ok (.invokevirtual 427, 3) := by decide +kernel
theorem dX12_goesBack_260 : decode cX12_goesBack 260 = .ok (.aload_n 0, 1) := by decide +kernel
theorem dX12_goesBack_261 : decode cX12_goesBack 261 = .ok (.iload 7, 2) := by decide +kernel
theorem dX12_goesBack_263 : decode cX12_goesBack 263 = .ok (.aload_n 0, 1) := by decide +kernel
theorem dX12_goesBack_264 : decode cX12_goesBack 264 = .ok (.getfield 387, 3) := by decide +kernel
theorem dX12_goesBack_267 : decode cX12_goesBack 267 = .ok (.lneg, 1) := by decide +kernel
theorem dX12_goesBack_268 : decode cX12_goesBack 268 = .ok (.aload_n 0, 1) := by decide +kernel
theorem dX12_goesBack_269 : decode cX12_goesBack 269 = .ok (.getfield 391, 3) := by decide +kernel
theorem dX12_goesBack_272 : decode cX12_goesBack 272 = .ok (.invokevirtual 478, 3) := by decide +kernel
theorem dX12_goesBack_275 : decode cX12_goesBack 275 = .ok (.goto 41, 3) := by decide +kernel
theorem dX12_goesBack_278 : decode cX12_goesBack 278 = .ok (.aload_n 0, 1) := by decide +kernel
theorem dX12_goesBack_279 : decode cX12_goesBack 279 = .ok (.iload 6, 2) := by decide +kernel
theorem dX12_goesBack_281 : decode cX12_goesBack 281 = .ok (.aload_n 0, 1) := by decide +kernel
theorem dX12_goesBack_282 : decode cX12_goesBack 282 = .ok (.getfield 124, 3) := by decide +kernel
theorem dX12_goesBack_285 : decode cX12_goesBack 285 = .ok (.iload 6, 2) := by decide +kernel
theorem dX12_goesBack_287 : decode cX12_goesBack 287 = .ok (.laload, 1) := by decide +kernel
theorem dX12_goesBack_288 : decode cX12_goesBack 288 = .ok (.lconst 0, 1) := by decide +kernel
theorem dX12_goesBack_289 : decode cX12_goesBack 289 = .ok (.lcmp, 1) := by decide +kernel
theorem dX12_goesBack_290 : decode cX12_goesBack 290 = .ok (.ifCond .ge 8, 3) := by decide +kernel
theorem dX12_goesBack_293 : decode cX12_goesBack 293 = .ok (.lload_n 2, 1) := by decide +kernel
theorem dX12_goesBack_294 : decode cX12_goesBack 294 = .ok (.lneg, 1) := by decide +kernel
theorem dX12_goesBack_295 : decode cX12_goesBack 295 = .ok (.goto 4, 3) := by decide +kernel
theorem dX12_goesBack_298 : decode cX12_goesBack 298 = .ok (.lload_n 2, 1) := by decide +kernel
theorem dX12_goesBack_299 : decode cX12_goesBack 299 = .ok (.lload 4, 2) := by decide +kernel
theorem dX12_goesBack_301 : decode cX12_goesBack 301 = .ok (.invokevirtual 478, 3) := by decide +kernel
theorem dX12_goesBack_304 : decode cX12_goesBack 304 = .ok (.goto 12, 3) := by decide +kernel
theorem dX12_goesBack_307 : decode cX12_goesBack 307 = .ok (.aload_n 0, 1) := by decide +kernel
theorem dX12_goesBack_308 : decode cX12_goesBack 308 = .ok (.iload 6, 2) := by decide +kernel
theorem dX12_goesBack_310 : decode cX12_goesBack 310 = .ok (.lload_n 2, 1) := by decide +kernel
theorem dX12_goesBack_311 : decode cX12_goesBack 311 = .ok (.lload 4, 2) := by decide +kernel
theorem dX12_goesBack_313 : decode cX12_goesBack 313 = .ok (.invokevirtual 478, 3) := by decide +kernel
theorem dX12_goesBack_316 : decode cX12_goesBack 316 = .ok (.return_, 1) := by decide +kernel
theorem dX12_marks_0 : decode cX12_marks 0 = .ok (.iconst 0, 1) := by decide +kernel
theorem dX12_marks_1 : decode cX12_marks 1 = .ok (.istore_n 2, 1) := by decide +kernel
theorem dX12_marks_2 : decode cX12_marks 2 = .ok (.iload_n 2, 1) := by decide +kernel
theorem dX12_marks_3 : decode cX12_marks 3 = .ok (.aload_n 0, 1) := by decide +kernel
theorem dX12_marks_4 : decode cX12_marks 4 = .ok (.getfield 139, 3) := by decide +kernel
theorem dX12_marks_7 : decode cX12_marks 7 = .ok (.iconst 0, 1) := by decide +kernel
theorem dX12_marks_8 : decode cX12_marks 8 = .ok (.iaload, 1) := by decide +kernel
theorem dX12_marks_9 : decode cX12_marks 9 = .ok (.if_icmp .ge 16, 3) := by decide +kernel
theorem dX12_marks_12 : decode cX12_marks 12 = .ok (.aload_n 0, 1) := by decide +kernel
theorem dX12_marks_13 : decode cX12_marks 13 = .ok (.getfield 163, 3) := by decide +kernel
theorem dX12_marks_16 : decode cX12_marks 16 = .ok (.iload_n 2, 1) := by decide +kernel
theorem dX12_marks_17 : decode cX12_marks 17 = .ok (.iconst 0, 1) := by decide +kernel
theorem dX12_marks_18 : decode cX12_marks 18 = .ok (.bastore, 1) := by decide +kernel
theorem dX12_marks_19 : decode cX12_marks 19 = .ok (.iinc 2 1, 3) := by decide +kernel
theorem dX12_marks_22 : decode cX12_marks 22 = .ok (.goto (-20), 3) := by decide +kernel
theorem dX12_marks_25 : decode cX12_marks 25 = .ok (.aload_n 0, 1) := by decide +kernel
theorem dX12_marks_26 : decode cX12_marks 26 = .ok (.getfield 163, 3) := by decide +kernel
theorem dX12_marks_29 : decode cX12_marks 29 = .ok (.aload_n 0, 1) := by decide +kernel
theorem dX12_marks_30 : decode cX12_marks 30 = .ok (.getfield 148, 3) := by decide +kernel
theorem dX12_marks_33 : decode cX12_marks 33 = .ok (.iload_n 1, 1) := by decide +kernel
theorem dX12_marks_34 : decode cX12_marks 34 = .ok (.iaload, 1) := by decide +kernel
theorem dX12_marks_35 : decode cX12_marks 35 = .ok (.iconst 1, 1) := by decide +kernel
theorem dX12_marks_36 : decode cX12_marks 36 = .ok (.bastore, 1) := by decide +kernel
theorem dX12_marks_37 : decode cX12_marks 37 = .ok (.aload_n 0, 1) := by decide +kernel
theorem dX12_marks_38 : decode cX12_marks 38 = .ok (.getfield 139, 3) := by decide +kernel
theorem dX12_marks_41 : decode cX12_marks 41 = .ok (.iconst 0, 1) := by decide +kernel
theorem dX12_marks_42 : decode cX12_marks 42 = .ok (.iaload, 1) := by decide +kernel
theorem dX12_marks_43 : decode cX12_marks 43 = .ok (.iconst 1, 1) := by decide +kernel
theorem dX12_marks_44 : decode cX12_marks 44 = .ok (.isub, 1) := by decide +kernel
theorem dX12_marks_45 : decode cX12_marks 45 = .ok (.istore_n 2, 1) := by decide +kernel
theorem dX12_marks_46 : decode cX12_marks 46 = .ok (.iload_n 2, 1) := by decide +kernel
theorem dX12_marks_47 : decode cX12_marks 47 = .ok (.ifCond .lt 54, 3) := by decide +kernel
theorem dX12_marks_50 : decode cX12_marks 50 = .ok (.aload_n 0, 1) := by decide +kernel
theorem dX12_marks_51 : decode cX12_marks 51 = .ok (.getfield 163, 3) := by decide +kernel
theorem dX12_marks_54 : decode cX12_marks 54 = .ok (.iload_n 2, 1) := by decide +kernel
theorem dX12_marks_55 : decode cX12_marks 55 = .ok (.baload, 1) := by decide +kernel
theorem dX12_marks_56 : decode cX12_marks 56 = .ok (.ifCond .eq 39, 3) := by decide +kernel
theorem dX12_marks_59 : decode cX12_marks 59 = .ok (.aload_n 0, 1) := by decide +kernel
theorem dX12_marks_60 : decode cX12_marks 60 = .ok (.getfield 130, 3) := by decide +kernel
theorem dX12_marks_63 : decode cX12_marks 63 = .ok (.iload_n 2, 1) := by decide +kernel
theorem dX12_marks_64 : decode cX12_marks 64 = .ok (.iaload, 1) := by decide +kernel
theorem dX12_marks_65 : decode cX12_marks 65 = .ok (.ifCond .ne 6, 3) := by decide +kernel
theorem dX12_marks_68 : decode cX12_marks 68 = .ok (.goto 27, 3) := by decide +kernel
theorem dX12_marks_71 : decode cX12_marks 71 = .ok (.aload_n 0, 1) := by decide +kernel
theorem dX12_marks_72 : decode cX12_marks 72 = .ok (.getfield 163, 3) := by decide +kernel
theorem dX12_marks_75 : decode cX12_marks 75 = .ok (.aload_n 0, 1) := by decide +kernel
theorem dX12_marks_76 : decode cX12_marks 76 = .ok (.getfield 133, 3) := by decide +kernel
theorem dX12_marks_79 : decode cX12_marks 79 = .ok (.iload_n 2, 1) := by decide +kernel
theorem dX12_marks_80 : decode cX12_marks 80 = .ok (.iaload, 1) := by decide +kernel
theorem dX12_marks_81 : decode cX12_marks 81 = .ok (.iconst 1, 1) := by decide +kernel
theorem dX12_marks_82 : decode cX12_marks 82 = .ok (.bastore, 1) := by decide +kernel
theorem dX12_marks_83 : decode cX12_marks 83 = .ok (.aload_n 0, 1) := by decide +kernel
theorem dX12_marks_84 : decode cX12_marks 84 = .ok (.getfield 163, 3) := by decide +kernel
theorem dX12_marks_87 : decode cX12_marks 87 = .ok (.aload_n 0, 1) := by decide +kernel
theorem dX12_marks_88 : decode cX12_marks 88 = .ok (.getfield 136, 3) := by decide +kernel
theorem dX12_marks_91 : decode cX12_marks 91 = .ok (.iload_n 2, 1) := by decide +kernel
theorem dX12_marks_92 : decode cX12_marks 92 = .ok (.iaload, 1) := by decide +kernel
theorem dX12_marks_93 : decode cX12_marks 93 = .ok (.iconst 1, 1) := by decide +kernel
theorem dX12_marks_94 : decode cX12_marks 94 = .ok (.bastore, 1) := by decide +kernel
theorem dX12_marks_95 : decode cX12_marks 95 = .ok (.iinc 2 (-1), 3) := by decide +kernel
theorem dX12_marks_98 : decode cX12_marks 98 = .ok (.goto (-52), 3) := by decide +kernel
theorem dX12_marks_101 : decode cX12_marks 101 = .ok (.return_, 1) := by decide +kernel
theorem dX12_slopes_0 : decode cX12_slopes 0 = .ok (.aload_n 0, 1) := by decide +kernel
theorem dX12_slopes_1 : decode cX12_slopes 1 = .ok (.iconst 0, 1) := by decide +kernel
theorem dX12_slopes_2 : decode cX12_slopes 2 = .ok (.putfield 384, 3) := by decide +kernel
theorem dX12_slopes_5 : decode cX12_slopes 5 = .ok (.iconst 0, 1) := by decide +kernel
theorem dX12_slopes_6 : decode cX12_slopes 6 = .ok (.istore 4, 2) := by decide +kernel
theorem dX12_slopes_8 : decode cX12_slopes 8 = .ok (.iload 4, 2) := by decide +kernel
theorem dX12_slopes_10 : decode cX12_slopes 10 = .ok (.aload_n 0, 1) := by decide +kernel
theorem dX12_slopes_11 : decode cX12_slopes 11 = .ok (.getfield 139, 3) := by decide +kernel
theorem dX12_slopes_14 : decode cX12_slopes 14 = .ok (.iconst 0, 1) := by decide +kernel
theorem dX12_slopes_15 : decode cX12_slopes 15 = .ok (.iaload, 1) := by decide +kernel
theorem dX12_slopes_16 : decode cX12_slopes 16 = .ok (.if_icmp .ge 75, 3) := by decide +kernel
theorem dX12_slopes_19 : decode cX12_slopes 19 = .ok (.aload_n 0, 1) := by decide +kernel
theorem dX12_slopes_20 : decode cX12_slopes 20 = .ok (.getfield 384, 3) := by decide +kernel
theorem dX12_slopes_23 : decode cX12_slopes 23 = .ok (.ifCond .ne 68, 3) := by decide +kernel
theorem dX12_slopes_26 : decode cX12_slopes 26 = .ok (.aload_n 0, 1) := by decide +kernel
theorem dX12_slopes_27 : decode cX12_slopes 27 = .ok (.getfield 163, 3) := by decide +kernel
theorem dX12_slopes_30 : decode cX12_slopes 30 = .ok (.iload 4, 2) := by decide +kernel
theorem dX12_slopes_32 : decode cX12_slopes 32 = .ok (.baload, 1) := by decide +kernel
theorem dX12_slopes_33 : decode cX12_slopes 33 = .ok (.ifCond .ne 6, 3) := by decide +kernel
theorem dX12_slopes_36 : decode cX12_slopes 36 = .ok (.goto 49, 3) := by decide +kernel
theorem dX12_slopes_39 : decode cX12_slopes 39 = .ok (.aload_n 0, 1) := by decide +kernel
theorem dX12_slopes_40 : decode cX12_slopes 40 = .ok (.iload_n 3, 1) := by decide +kernel
theorem dX12_slopes_41 : decode cX12_slopes 41 = .ok (.iload 4, 2) := by decide +kernel
theorem dX12_slopes_43 : decode cX12_slopes 43 = .ok (.iload 4, 2) := by decide +kernel
theorem dX12_slopes_45 : decode cX12_slopes 45 = .ok (.iload_n 2, 1) := by decide +kernel
theorem dX12_slopes_46 : decode cX12_slopes 46 = .ok (.if_icmp .ne 17, 3) := by decide +kernel
theorem dX12_slopes_49 : decode cX12_slopes 49 = .ok (.aload_n 0, 1) := by decide +kernel
theorem dX12_slopes_50 : decode cX12_slopes 50 = .ok (.getfield 130, 3) := by decide +kernel
theorem dX12_slopes_53 : decode cX12_slopes 53 = .ok (.iload 4, 2) := by decide +kernel
theorem dX12_slopes_55 : decode cX12_slopes 55 = .ok (.iaload, 1) := by decide +kernel
theorem dX12_slopes_56 : decode cX12_slopes 56 = .ok (.ifCond .ne 7, 3) := by decide +kernel
theorem dX12_slopes_59 : decode cX12_slopes 59 = .ok (.lconst 1, 1) := by decide +kernel
theorem dX12_slopes_60 : decode cX12_slopes 60 = .ok (.goto 4, 3) := by decide +kernel
theorem dX12_slopes_63 : decode cX12_slopes 63 = .ok (.lconst 0, 1) := by decide +kernel
theorem dX12_slopes_64 : decode cX12_slopes 64 = .ok (.lconst 1, 1) := by decide +kernel
theorem dX12_slopes_65 : decode cX12_slopes 65 = .ok (.invokevirtual 457, 3) := by decide +kernel
theorem dX12_slopes_68 : decode cX12_slopes 68 = .ok (.aload_n 0, 1) := by decide +kernel
theorem dX12_slopes_69 : decode cX12_slopes 69 = .ok (.getfield 130, 3) := by decide +kernel
theorem dX12_slopes_72 : decode cX12_slopes 72 = .ok (.iload 4, 2) := by decide +kernel
theorem dX12_slopes_74 : decode cX12_slopes 74 = .ok (.iaload, 1) := by decide +kernel
theorem dX12_slopes_75 : decode cX12_slopes 75 = .ok (.ifCond .eq 10, 3) := by decide +kernel
theorem dX12_slopes_78 : decode cX12_slopes 78 = .ok (.aload_n 0, 1) := by decide +kernel
theorem dX12_slopes_79 : decode cX12_slopes 79 = .ok (.iload 4, 2) := by decide +kernel
theorem dX12_slopes_81 : decode cX12_slopes 81 = .ok (.iload_n 3, 1) := by decide +kernel
theorem dX12_slopes_82 : decode cX12_slopes 82 = .ok (.invokevirtual 461, 3) := by decide +kernel
theorem dX12_slopes_85 : decode cX12_slopes 85 = .ok (.iinc 4 1, 3) := by decide +kernel
theorem dX12_slopes_88 : decode cX12_slopes 88 = .ok (.goto (-80), 3) := by decide +kernel
theorem dX12_slopes_91 : decode cX12_slopes 91 = .ok (.aload_n 0, 1) := by decide +kernel
theorem dX12_slopes_92 : decode cX12_slopes 92 = .ok (.getfield 384, 3) := by decide +kernel
theorem dX12_slopes_95 : decode cX12_slopes 95 = .ok (.ifCond .ne 7, 3) := by decide +kernel
theorem dX12_slopes_98 : decode cX12_slopes 98 = .ok (.iconst 1, 1) := by decide +kernel
theorem dX12_slopes_99 : decode cX12_slopes 99 = .ok (.goto 4, 3) := by decide +kernel
theorem dX12_slopes_102 : decode cX12_slopes 102 = .ok (.iconst 0, 1) := by decide +kernel
theorem dX12_slopes_103 : decode cX12_slopes 103 = .ok (.ireturn, 1) := by decide +kernel
def v_q_slope0 : List Cond := .code yX12_slope cX12_slope 17 none :: ([.fieldLink RX12 133 "SlopeRunnerModel" "first" "[I", .fieldLink RX12 136 "SlopeRunnerModel" "second" "[I", .fieldLink RX12 167 "SlopeRunnerModel" "slopeUp" "[J", .fieldLink RX12 170 "SlopeRunnerModel" "slopeDown" "[J", .fieldLink RX12 130 "SlopeRunnerModel" "op" "[I", .fieldLink RX12 387 "SlopeRunnerModel" "up" "J", .fieldLink RX12 391 "SlopeRunnerModel" "down" "J", .fieldLink RX12 124 "SlopeRunnerModel" "valueAbove" "[J", .fieldLink RX12 127 "SlopeRunnerModel" "valueBelow" "[J"] ++ ((wsV RX12 424 RX12 yX12_adds v_q_adds) ++ ((wsV RX12 457 RX12 yX12_lets v_q_lets0) ++ ((wsV RX12 408 RX12 yX12_takesOff v_q_takesOff) ++ ((wsV RX12 427 RX12 yX12_multiplies v_q_multiplies) ++ ((wsV RX12 430 RX12 yX12_divides v_q_divides) ++ ((wsV RX12 400 RX12 yX12_comes v_q_comes) ++ wsX120)))))))
theorem g_q_slope0_0 : GoodIn v_q_slope0 (wsV RX12 424 RX12 yX12_adds v_q_adds) := goodIn_sub (fun w h => List.mem_cons_of_mem _ (List.mem_append_right _ (List.mem_append_left _ h))) (by decide +kernel)
theorem g_q_slope0_1 : GoodIn v_q_slope0 (wsV RX12 457 RX12 yX12_lets v_q_lets0) := goodIn_sub (fun w h => List.mem_cons_of_mem _ (List.mem_append_right _ (List.mem_append_right _ (List.mem_append_left _ h)))) (by decide +kernel)
theorem g_q_slope0_2 : GoodIn v_q_slope0 (wsV RX12 408 RX12 yX12_takesOff v_q_takesOff) := goodIn_sub (fun w h => List.mem_cons_of_mem _ (List.mem_append_right _ (List.mem_append_right _ (List.mem_append_right _ (List.mem_append_left _ h))))) (by decide +kernel)
theorem g_q_slope0_3 : GoodIn v_q_slope0 (wsV RX12 427 RX12 yX12_multiplies v_q_multiplies) := goodIn_sub (fun w h => List.mem_cons_of_mem _ (List.mem_append_right _ (List.mem_append_right _ (List.mem_append_right _ (List.mem_append_right _ (List.mem_append_left _ h)))))) (by decide +kernel)
theorem g_q_slope0_4 : GoodIn v_q_slope0 (wsV RX12 430 RX12 yX12_divides v_q_divides) := goodIn_sub (fun w h => List.mem_cons_of_mem _ (List.mem_append_right _ (List.mem_append_right _ (List.mem_append_right _ (List.mem_append_right _ (List.mem_append_right _ (List.mem_append_left _ h))))))) (by decide +kernel)
theorem g_q_slope0_5 : GoodIn v_q_slope0 (wsV RX12 400 RX12 yX12_comes v_q_comes) := goodIn_sub (fun w h => List.mem_cons_of_mem _ (List.mem_append_right _ (List.mem_append_right _ (List.mem_append_right _ (List.mem_append_right _ (List.mem_append_right _ (List.mem_append_right _ (List.mem_append_left _ h)))))))) (by decide +kernel)
set_option maxHeartbeats 4000000 in
set_option maxRecDepth 100000 in
theorem q_slope0 (l : Launch) (D : va_G) (y : Nat → ClassId) (sz : Nat) (ad : Nat → Nat) (zw : Nat → Nat → Int32) (σ : OS) (k : Int32) (hk0 : 0 ≤ k.toInt) (hk1 : k.toInt < 1760) (hne : σ.2.2.1 59 (Int32.toNatClampNeg k) ≠ 0) (hop : opc (σ.2.2.1 59) (σ.2.2.1 60) (σ.2.2.1 61)) (hB75 : bJ (σ.2.2.2 75) (-1000000000) 1000000000) (hB76 : bJ (σ.2.2.2 76) 0 1000000000) (hB57 : bJ (σ.2.2.2 57) (-1000000000) 1000000000) (hB58 : bJ (σ.2.2.2 58) 0 1000000000) : Met l yX12_slope v_q_slope0 ({ frames := 4, cells := 0, slots := 0, locals := 108 } : Room) (va_Pc [.ref (ad 1), .int k, .int 0] (xPre D (xT y) (mwd y ad zw σ) sz)) (va_Qv (fun (u : Int32 × Int64 × Int64 × (Nat → Int64) × (Nat → Int64)) => (True) ∧ bJ u.2.2.2.1 (-1000000000) 1000000000 ∧ bJ u.2.2.2.2 0 1000000000) (fun (u : Int32 × Int64 × Int64 × (Nat → Int64) × (Nat → Int64)) => xB D (xT y) (va_A (mwd y ad zw σ) sz) (mwd y ad zw (tJ (tJ (sJ (sJ (sI σ 44 u.1) 42 u.2.1) 43 u.2.2.1) 75 u.2.2.2.1) 76 u.2.2.2.2))) (va_A (mwd y ad zw σ) sz)) 0 0 (va_A (mwd y ad zw σ) sz) := by
  refine x_metv (cc := cX12_slope) (maxL := 17) (by decide) rfl (Nat.le_of_ble_eq_true rfl) ?_
  intro p e s m below meth c A H locs Q hx hb hml hown hts hr hlocks hmn hA hP hK hD hS ls hl hQ
  have hl : lv_has ls 17 [(0, .ref (ad 1)), (1, .int k), (2, .int 0)] := hl
  have fl133 := hts (.fieldLink RX12 133 "SlopeRunnerModel" "first" "[I") (List.mem_of_getElem? (i := 1) rfl)
  have inX12 : ∀ w ∈ wsX120, w ∈ v_q_slope0 := (fun w h => List.mem_cons_of_mem _ (List.mem_append_right _ (List.mem_append_right _ (List.mem_append_right _ (List.mem_append_right _ (List.mem_append_right _ (List.mem_append_right _ (List.mem_append_right _ h))))))))
  have fl136 := hts (.fieldLink RX12 136 "SlopeRunnerModel" "second" "[I") (List.mem_of_getElem? (i := 2) rfl)
  have fl167 := hts (.fieldLink RX12 167 "SlopeRunnerModel" "slopeUp" "[J") (List.mem_of_getElem? (i := 3) rfl)
  have kk_0 : (0 : Int32).toInt = 0 := rfl
  have fl170 := hts (.fieldLink RX12 170 "SlopeRunnerModel" "slopeDown" "[J") (List.mem_of_getElem? (i := 4) rfl)
  have fl130 := hts (.fieldLink RX12 130 "SlopeRunnerModel" "op" "[I") (List.mem_of_getElem? (i := 5) rfl)
  have fl387 := hts (.fieldLink RX12 387 "SlopeRunnerModel" "up" "J") (List.mem_of_getElem? (i := 6) rfl)
  have fl391 := hts (.fieldLink RX12 391 "SlopeRunnerModel" "down" "J") (List.mem_of_getElem? (i := 7) rfl)
  have fl124 := hts (.fieldLink RX12 124 "SlopeRunnerModel" "valueAbove" "[J") (List.mem_of_getElem? (i := 8) rfl)
  have fl127 := hts (.fieldLink RX12 127 "SlopeRunnerModel" "valueBelow" "[J") (List.mem_of_getElem? (i := 9) rfl)
  have kl_0 : (0 : Int64).toInt = 0 := rfl
  have kl_1 : (1 : Int64).toInt = 1 := rfl
  refine lv_aload_n hx hb dX12_slope_0 rfl (lv_at hl 0 rfl) ?_
  refine va_get (D := D) (ci := 11) (v := .ref (ad 60)) (C := RX12) (T := TX12) (N := 85) hx hb hts inX12 hown hK hP 0 mwd_o0 rfl 60 (by decide) fl133 (fun _ h9 => h9) rfl dX12_slope_1 ?_
  refine lv_iload_n hx hb dX12_slope_4 rfl (lv_at hl 1 rfl) ?_
  refine va_iald hx hb hK hP 40 2 mwd_a40 rfl (x_in (by omega) (by omega)) dX12_slope_5 ?_
  refine lv_topi (fun i_1 ei_1 => ?_)
  have ei_1 : i_1 = (σ.2.2.1 60) (Int32.toNatClampNeg k) := ei_1
  have gi_1 := opc_1 hop hne ei_1
  refine lv_istore_n (lv' := [(3, .int i_1), (0, .ref (ad 1)), (1, .int k), (2, .int 0)]) hx hb dX12_slope_6 rfl hl (by decide) rfl (fun ls hl => ?_)
  refine lv_aload_n hx hb dX12_slope_7 rfl (lv_at hl 1 rfl) ?_
  refine va_get (D := D) (ci := 11) (v := .ref (ad 61)) (C := RX12) (T := TX12) (N := 85) hx hb hts inX12 hown hK hP 0 mwd_o0 rfl 61 (by decide) fl136 (fun _ h9 => h9) rfl dX12_slope_8 ?_
  refine lv_iload_n hx hb dX12_slope_11 rfl (lv_at hl 2 rfl) ?_
  refine va_iald hx hb hK hP 41 2 mwd_a41 rfl (x_in (by omega) (by omega)) dX12_slope_12 ?_
  refine lv_topi (fun i_2 ei_2 => ?_)
  have ei_2 : i_2 = (σ.2.2.1 61) (Int32.toNatClampNeg k) := ei_2
  have gi_2 := opc_2 hop hne ei_2
  refine lv_istore (lv' := [(4, .int i_2), (3, .int i_1), (0, .ref (ad 1)), (1, .int k), (2, .int 0)]) hx hb dX12_slope_13 hl (by decide) rfl (fun ls hl => ?_)
  refine lv_aload_n hx hb dX12_slope_15 rfl (lv_at hl 2 rfl) ?_
  refine va_get (D := D) (ci := 11) (v := .ref (ad 75)) (C := RX12) (T := TX12) (N := 85) hx hb hts inX12 hown hK hP 0 mwd_o0 rfl 75 (by decide) fl167 (fun _ h9 => h9) rfl dX12_slope_16 ?_
  refine lv_sipush (v := 1760) hx hb dX12_slope_19 (by decide) ?_
  refine lv_iload_n hx hb dX12_slope_22 rfl (lv_at hl 4 rfl) ?_
  refine lv_imul hx hb dX12_slope_23 ?_
  refine lv_topi (fun i_3 ei_3 => ?_)
  obtain rfl : i_3 = 0 := ei_3.trans (by decide)
  refine lv_iload_n hx hb dX12_slope_24 rfl (lv_at hl 1 rfl) ?_
  refine lv_iadd hx hb dX12_slope_25 ?_
  refine lv_topi (fun i_4 ei_4 => ?_)
  have vi_4 : i_4.toInt = 0 + i_1.toInt := by have h9 := x_add ei_4 (by omega) (by omega); omega
  refine va_lald hx hb hK hP 51 3 mwd_a51 rfl (x_in (by omega) (by omega)) dX12_slope_26 ?_
  refine lv_topl (fun j_5 ej_5 => ?_)
  have ej_5 : j_5 = (σ.2.2.2 75) (Int32.toNatClampNeg i_4) := ej_5
  have bj_5 := b_atJ hB75 ej_5
  refine lv_lstore (lv' := [(5, .long j_5), (4, .int i_2), (3, .int i_1), (0, .ref (ad 1)), (1, .int k), (2, .int 0)]) hx hb dX12_slope_27 hl (by decide) rfl (fun ls hl => ?_)
  refine lv_aload_n hx hb dX12_slope_29 rfl (lv_at hl 3 rfl) ?_
  refine va_get (D := D) (ci := 11) (v := .ref (ad 76)) (C := RX12) (T := TX12) (N := 85) hx hb hts inX12 hown hK hP 0 mwd_o0 rfl 76 (by decide) fl170 (fun _ h9 => h9) rfl dX12_slope_30 ?_
  refine lv_sipush (v := 1760) hx hb dX12_slope_33 (by decide) ?_
  refine lv_iload_n hx hb dX12_slope_36 rfl (lv_at hl 5 rfl) ?_
  refine lv_imul hx hb dX12_slope_37 ?_
  refine lv_topi (fun i_6 ei_6 => ?_)
  obtain rfl : i_6 = 0 := ei_6.trans (by decide)
  refine lv_iload_n hx hb dX12_slope_38 rfl (lv_at hl 2 rfl) ?_
  refine lv_iadd hx hb dX12_slope_39 ?_
  refine lv_topi (fun i_7 ei_7 => ?_)
  have vi_7 : i_7.toInt = 0 + i_1.toInt := by have h9 := x_add ei_7 (by omega) (by omega); omega
  refine va_lald hx hb hK hP 52 3 mwd_a52 rfl (x_in (by omega) (by omega)) dX12_slope_40 ?_
  refine lv_topl (fun j_8 ej_8 => ?_)
  have ej_8 : j_8 = (σ.2.2.2 76) (Int32.toNatClampNeg i_7) := ej_8
  have bj_8 := b_atJ hB76 ej_8
  refine lv_lstore (lv' := [(7, .long j_8), (5, .long j_5), (4, .int i_2), (3, .int i_1), (0, .ref (ad 1)), (1, .int k), (2, .int 0)]) hx hb dX12_slope_41 hl (by decide) rfl (fun ls hl => ?_)
  refine lv_aload_n hx hb dX12_slope_43 rfl (lv_at hl 4 rfl) ?_
  refine va_get (D := D) (ci := 11) (v := .ref (ad 75)) (C := RX12) (T := TX12) (N := 85) hx hb hts inX12 hown hK hP 0 mwd_o0 rfl 75 (by decide) fl167 (fun _ h9 => h9) rfl dX12_slope_44 ?_
  refine lv_sipush (v := 1760) hx hb dX12_slope_47 (by decide) ?_
  refine lv_iload_n hx hb dX12_slope_50 rfl (lv_at hl 6 rfl) ?_
  refine lv_imul hx hb dX12_slope_51 ?_
  refine lv_topi (fun i_9 ei_9 => ?_)
  obtain rfl : i_9 = 0 := ei_9.trans (by decide)
  refine lv_iload hx hb dX12_slope_52 (lv_at hl 2 rfl) ?_
  refine lv_iadd hx hb dX12_slope_54 ?_
  refine lv_topi (fun i_10 ei_10 => ?_)
  have vi_10 : i_10.toInt = 0 + i_2.toInt := by have h9 := x_add ei_10 (by omega) (by omega); omega
  refine va_lald hx hb hK hP 51 3 mwd_a51 rfl (x_in (by omega) (by omega)) dX12_slope_55 ?_
  refine lv_topl (fun j_11 ej_11 => ?_)
  have ej_11 : j_11 = (σ.2.2.2 75) (Int32.toNatClampNeg i_10) := ej_11
  have bj_11 := b_atJ hB75 ej_11
  refine lv_lstore (lv' := [(9, .long j_11), (7, .long j_8), (5, .long j_5), (4, .int i_2), (3, .int i_1), (0, .ref (ad 1)), (1, .int k), (2, .int 0)]) hx hb dX12_slope_56 hl (by decide) rfl (fun ls hl => ?_)
  refine lv_aload_n hx hb dX12_slope_58 rfl (lv_at hl 5 rfl) ?_
  refine va_get (D := D) (ci := 11) (v := .ref (ad 76)) (C := RX12) (T := TX12) (N := 85) hx hb hts inX12 hown hK hP 0 mwd_o0 rfl 76 (by decide) fl170 (fun _ h9 => h9) rfl dX12_slope_59 ?_
  refine lv_sipush (v := 1760) hx hb dX12_slope_62 (by decide) ?_
  refine lv_iload_n hx hb dX12_slope_65 rfl (lv_at hl 7 rfl) ?_
  refine lv_imul hx hb dX12_slope_66 ?_
  refine lv_topi (fun i_12 ei_12 => ?_)
  obtain rfl : i_12 = 0 := ei_12.trans (by decide)
  refine lv_iload hx hb dX12_slope_67 (lv_at hl 3 rfl) ?_
  refine lv_iadd hx hb dX12_slope_69 ?_
  refine lv_topi (fun i_13 ei_13 => ?_)
  have vi_13 : i_13.toInt = 0 + i_2.toInt := by have h9 := x_add ei_13 (by omega) (by omega); omega
  refine va_lald hx hb hK hP 52 3 mwd_a52 rfl (x_in (by omega) (by omega)) dX12_slope_70 ?_
  refine lv_topl (fun j_14 ej_14 => ?_)
  have ej_14 : j_14 = (σ.2.2.2 76) (Int32.toNatClampNeg i_13) := ej_14
  have bj_14 := b_atJ hB76 ej_14
  refine lv_lstore (lv' := [(11, .long j_14), (9, .long j_11), (7, .long j_8), (5, .long j_5), (4, .int i_2), (3, .int i_1), (0, .ref (ad 1)), (1, .int k), (2, .int 0)]) hx hb dX12_slope_71 hl (by decide) rfl (fun ls hl => ?_)
  refine lv_aload_n hx hb dX12_slope_73 rfl (lv_at hl 6 rfl) ?_
  refine va_get (D := D) (ci := 11) (v := .ref (ad 59)) (C := RX12) (T := TX12) (N := 85) hx hb hts inX12 hown hK hP 0 mwd_o0 rfl 59 (by decide) fl130 (fun _ h9 => h9) rfl dX12_slope_74 ?_
  refine lv_iload_n hx hb dX12_slope_77 rfl (lv_at hl 7 rfl) ?_
  refine va_iald hx hb hK hP 39 2 mwd_a39 rfl (x_in (by omega) (by omega)) dX12_slope_78 ?_
  refine lv_topi (fun i_15 ei_15 => ?_)
  have ei_15 : i_15 = (σ.2.2.1 59) (Int32.toNatClampNeg k) := ei_15
  rcases (show i_15 = 1 ∨ i_15 = 2 ∨ i_15 = 3 ∨ i_15 = 4 ∨ i_15 = 5 ∨ i_15 = 6 ∨ i_15 = 7 ∨ (i_15.toInt < 1 ∨ 7 < i_15.toInt) by simp only [x_eq, Int32.reduceToInt]; omega) with rfl | rfl | rfl | rfl | rfl | rfl | rfl | g_16
  · refine lv_tableIn (tgt := 120) hx hb dX12_slope_79 (by decide) (by decide) rfl (by decide) ?_
    refine lv_aload_n hx hb dX12_slope_120 rfl (lv_at hl 6 rfl) ?_
    refine lv_lload hx hb dX12_slope_121 (lv_at hl 3 rfl) ?_
    refine lv_lload hx hb dX12_slope_123 (lv_at hl 2 rfl) ?_
    refine lv_lload hx hb dX12_slope_125 (lv_at hl 1 rfl) ?_
    refine lv_lload hx hb dX12_slope_127 (lv_at hl 0 rfl) ?_
    refine x_callvW (va_runV (As := [.long j_5, .long j_8, .long j_11, .long j_14]) (rest := []) ⟨hx, hb, hml, hown, hts⟩ (q_adds l D y H.size ad zw σ j_5 j_8 j_11 j_14 (by first | omega | decide) (by first | omega | decide) (by first | omega | decide) (by first | omega | decide) (by first | omega | decide) (by first | omega | decide) (by first | omega | decide) (by first | omega | decide)) (cwV 4 hts g_q_slope0_0 rfl rfl rfl (by decide +kernel) ⟨Nat.le_of_ble_eq_true rfl, Nat.le_of_ble_eq_true rfl⟩) (x_preV (q := (RX12, TX12, 85)) hK hP hD (ci := 11) (q0 := 0) rfl mwd_o0) rfl rfl hl.1 rfl (lv_room (Nat.le_of_ble_eq_true rfl)) dX12_slope_129 ⟨Nat.le_of_ble_eq_true rfl, Nat.le_of_ble_eq_true rfl⟩) hP hD hS hA (fun u H locs hw hP hD hS => ?_)
    obtain ⟨n_17, j_18, j_19⟩ := u
    try dsimp only at hw
    have hP : va_P D vwCl (mwd y ad zw (sJ (sJ (sI σ 44 n_17) 42 j_18) 43 j_19)) H := hP
    have hD : va_D A (mwd y ad zw (sJ (sJ (sI σ 44 n_17) 42 j_18) 43 j_19)) := hD
    have hw : -1000000000 ≤ j_18.toInt ∧ j_18.toInt ≤ 1000000000 ∧ 0 ≤ j_19.toInt ∧ j_19.toInt ≤ 1000000000 := hw
    refine lv_goto (tgt := 331) hx hb dX12_slope_132 (by decide) ?_
    refine lv_aload_n hx hb dX12_slope_331 rfl (lv_at hl 6 rfl) ?_
    refine lv_iload_n hx hb dX12_slope_332 rfl (lv_at hl 8 rfl) ?_
    refine lv_iload_n hx hb dX12_slope_333 rfl (lv_at hl 7 rfl) ?_
    refine lv_aload_n hx hb dX12_slope_334 rfl (lv_at hl 6 rfl) ?_
    refine va_get (D := D) (ci := 11) (v := .long j_18) (C := RX12) (T := TX12) (N := 85) hx hb hts inX12 hown hK hP 0 mwd_o0 rfl 42 (by decide) fl387 (fun _ h9 => h9) rfl dX12_slope_335 ?_
    refine lv_aload_n hx hb dX12_slope_338 rfl (lv_at hl 6 rfl) ?_
    refine va_get (D := D) (ci := 11) (v := .long j_19) (C := RX12) (T := TX12) (N := 85) hx hb hts inX12 hown hK hP 0 mwd_o0 rfl 43 (by decide) fl391 (fun _ h9 => h9) rfl dX12_slope_339 ?_
    refine x_callvW (va_runV (As := [.int 0, .int k, .long j_18, .long j_19]) (rest := []) ⟨hx, hb, hml, hown, hts⟩ (q_lets0 l D y H.size ad zw (sJ (sJ (sI σ 44 n_17) 42 j_18) 43 j_19) k j_18 j_19 (by first | omega | decide) (by first | omega | decide) (by first | omega | decide) (by first | omega | decide) (by first | omega | decide) (by first | omega | decide) hB75 hB76) (cwV 4 hts g_q_slope0_1 rfl rfl rfl (by decide +kernel) ⟨Nat.le_of_ble_eq_true rfl, Nat.le_of_ble_eq_true rfl⟩) (x_preV (q := (RX12, TX12, 85)) hK hP hD (ci := 11) (q0 := 0) rfl mwd_o0) rfl rfl hl.1 rfl (lv_room (Nat.le_of_ble_eq_true rfl)) dX12_slope_342 ⟨Nat.le_of_ble_eq_true rfl, Nat.le_of_ble_eq_true rfl⟩) hP hD hS hA (fun u H locs hw hP hD hS => ?_)
    obtain ⟨f_20, f_21⟩ := u
    try dsimp only at hw
    have hP : va_P D vwCl (mwd y ad zw (tJ (tJ (sJ (sJ (sI σ 44 n_17) 42 j_18) 43 j_19) 75 f_20) 76 f_21)) H := hP
    have hD : va_D A (mwd y ad zw (tJ (tJ (sJ (sJ (sI σ 44 n_17) 42 j_18) 43 j_19) 75 f_20) 76 f_21)) := hD
    have hw : (True) ∧ bJ f_20 (-1000000000) 1000000000 ∧ bJ f_21 0 1000000000 := hw
    obtain ⟨hw, hg_22, hg_23⟩ := hw
    exact x_vretW (u := (n_17, j_18, j_19, f_20, f_21)) hx hb hr hQ (by (try dsimp only); exact ⟨trivial, hg_22, hg_23⟩) hP hD hK hS dX12_slope_345 hlocks
  · refine lv_tableIn (tgt := 135) hx hb dX12_slope_79 (by decide) (by decide) rfl (by decide) ?_
    refine lv_aload_n hx hb dX12_slope_135 rfl (lv_at hl 6 rfl) ?_
    refine lv_lload hx hb dX12_slope_136 (lv_at hl 3 rfl) ?_
    refine lv_lload hx hb dX12_slope_138 (lv_at hl 2 rfl) ?_
    refine lv_lload hx hb dX12_slope_140 (lv_at hl 1 rfl) ?_
    refine lv_lload hx hb dX12_slope_142 (lv_at hl 0 rfl) ?_
    refine x_callvW (va_runV (As := [.long j_5, .long j_8, .long j_11, .long j_14]) (rest := []) ⟨hx, hb, hml, hown, hts⟩ (q_takesOff l D y H.size ad zw σ j_5 j_8 j_11 j_14 (by first | omega | decide) (by first | omega | decide) (by first | omega | decide) (by first | omega | decide) (by first | omega | decide) (by first | omega | decide) (by first | omega | decide) (by first | omega | decide)) (cwV 4 hts g_q_slope0_2 rfl rfl rfl (by decide +kernel) ⟨Nat.le_of_ble_eq_true rfl, Nat.le_of_ble_eq_true rfl⟩) (x_preV (q := (RX12, TX12, 85)) hK hP hD (ci := 11) (q0 := 0) rfl mwd_o0) rfl rfl hl.1 rfl (lv_room (Nat.le_of_ble_eq_true rfl)) dX12_slope_144 ⟨Nat.le_of_ble_eq_true rfl, Nat.le_of_ble_eq_true rfl⟩) hP hD hS hA (fun u H locs hw hP hD hS => ?_)
    obtain ⟨n_24, j_25, j_26⟩ := u
    try dsimp only at hw
    have hP : va_P D vwCl (mwd y ad zw (sJ (sJ (sI σ 44 n_24) 42 j_25) 43 j_26)) H := hP
    have hD : va_D A (mwd y ad zw (sJ (sJ (sI σ 44 n_24) 42 j_25) 43 j_26)) := hD
    have hw : -1000000000 ≤ j_25.toInt ∧ j_25.toInt ≤ 1000000000 ∧ 0 ≤ j_26.toInt ∧ j_26.toInt ≤ 1000000000 := hw
    refine lv_goto (tgt := 331) hx hb dX12_slope_147 (by decide) ?_
    refine lv_aload_n hx hb dX12_slope_331 rfl (lv_at hl 6 rfl) ?_
    refine lv_iload_n hx hb dX12_slope_332 rfl (lv_at hl 8 rfl) ?_
    refine lv_iload_n hx hb dX12_slope_333 rfl (lv_at hl 7 rfl) ?_
    refine lv_aload_n hx hb dX12_slope_334 rfl (lv_at hl 6 rfl) ?_
    refine va_get (D := D) (ci := 11) (v := .long j_25) (C := RX12) (T := TX12) (N := 85) hx hb hts inX12 hown hK hP 0 mwd_o0 rfl 42 (by decide) fl387 (fun _ h9 => h9) rfl dX12_slope_335 ?_
    refine lv_aload_n hx hb dX12_slope_338 rfl (lv_at hl 6 rfl) ?_
    refine va_get (D := D) (ci := 11) (v := .long j_26) (C := RX12) (T := TX12) (N := 85) hx hb hts inX12 hown hK hP 0 mwd_o0 rfl 43 (by decide) fl391 (fun _ h9 => h9) rfl dX12_slope_339 ?_
    refine x_callvW (va_runV (As := [.int 0, .int k, .long j_25, .long j_26]) (rest := []) ⟨hx, hb, hml, hown, hts⟩ (q_lets0 l D y H.size ad zw (sJ (sJ (sI σ 44 n_24) 42 j_25) 43 j_26) k j_25 j_26 (by first | omega | decide) (by first | omega | decide) (by first | omega | decide) (by first | omega | decide) (by first | omega | decide) (by first | omega | decide) hB75 hB76) (cwV 4 hts g_q_slope0_1 rfl rfl rfl (by decide +kernel) ⟨Nat.le_of_ble_eq_true rfl, Nat.le_of_ble_eq_true rfl⟩) (x_preV (q := (RX12, TX12, 85)) hK hP hD (ci := 11) (q0 := 0) rfl mwd_o0) rfl rfl hl.1 rfl (lv_room (Nat.le_of_ble_eq_true rfl)) dX12_slope_342 ⟨Nat.le_of_ble_eq_true rfl, Nat.le_of_ble_eq_true rfl⟩) hP hD hS hA (fun u H locs hw hP hD hS => ?_)
    obtain ⟨f_27, f_28⟩ := u
    try dsimp only at hw
    have hP : va_P D vwCl (mwd y ad zw (tJ (tJ (sJ (sJ (sI σ 44 n_24) 42 j_25) 43 j_26) 75 f_27) 76 f_28)) H := hP
    have hD : va_D A (mwd y ad zw (tJ (tJ (sJ (sJ (sI σ 44 n_24) 42 j_25) 43 j_26) 75 f_27) 76 f_28)) := hD
    have hw : (True) ∧ bJ f_27 (-1000000000) 1000000000 ∧ bJ f_28 0 1000000000 := hw
    obtain ⟨hw, hg_29, hg_30⟩ := hw
    exact x_vretW (u := (n_24, j_25, j_26, f_27, f_28)) hx hb hr hQ (by (try dsimp only); exact ⟨trivial, hg_29, hg_30⟩) hP hD hK hS dX12_slope_345 hlocks
  · refine lv_tableIn (tgt := 150) hx hb dX12_slope_79 (by decide) (by decide) rfl (by decide) ?_
    refine lv_aload_n hx hb dX12_slope_150 rfl (lv_at hl 6 rfl) ?_
    refine lv_lload hx hb dX12_slope_151 (lv_at hl 3 rfl) ?_
    refine lv_lload hx hb dX12_slope_153 (lv_at hl 2 rfl) ?_
    refine lv_aload_n hx hb dX12_slope_155 rfl (lv_at hl 6 rfl) ?_
    refine va_get (D := D) (ci := 11) (v := .ref (ad 57)) (C := RX12) (T := TX12) (N := 85) hx hb hts inX12 hown hK hP 0 mwd_o0 rfl 57 (by decide) fl124 (fun _ h9 => h9) rfl dX12_slope_156 ?_
    refine lv_iload hx hb dX12_slope_159 (lv_at hl 4 rfl) ?_
    refine va_lald hx hb hK hP 37 3 mwd_a37 rfl (x_in (by omega) (by omega)) dX12_slope_161 ?_
    refine lv_topl (fun j_31 ej_31 => ?_)
    have ej_31 : j_31 = (σ.2.2.2 57) (Int32.toNatClampNeg i_2) := ej_31
    have bj_31 := b_atJ hB57 ej_31
    refine lv_aload_n hx hb dX12_slope_162 rfl (lv_at hl 6 rfl) ?_
    refine va_get (D := D) (ci := 11) (v := .ref (ad 58)) (C := RX12) (T := TX12) (N := 85) hx hb hts inX12 hown hK hP 0 mwd_o0 rfl 58 (by decide) fl127 (fun _ h9 => h9) rfl dX12_slope_163 ?_
    refine lv_iload hx hb dX12_slope_166 (lv_at hl 4 rfl) ?_
    refine va_lald hx hb hK hP 38 3 mwd_a38 rfl (x_in (by omega) (by omega)) dX12_slope_168 ?_
    refine lv_topl (fun j_32 ej_32 => ?_)
    have ej_32 : j_32 = (σ.2.2.2 58) (Int32.toNatClampNeg i_2) := ej_32
    have bj_32 := b_atJ hB58 ej_32
    refine x_callvW (va_runV (As := [.long j_5, .long j_8, .long j_31, .long j_32]) (rest := []) ⟨hx, hb, hml, hown, hts⟩ (q_multiplies l D y H.size ad zw σ j_5 j_8 j_31 j_32 (by first | omega | decide) (by first | omega | decide) (by first | omega | decide) (by first | omega | decide) (by first | omega | decide) (by first | omega | decide) (by first | omega | decide) (by first | omega | decide)) (cwV 4 hts g_q_slope0_3 rfl rfl rfl (by decide +kernel) ⟨Nat.le_of_ble_eq_true rfl, Nat.le_of_ble_eq_true rfl⟩) (x_preV (q := (RX12, TX12, 85)) hK hP hD (ci := 11) (q0 := 0) rfl mwd_o0) rfl rfl hl.1 rfl (lv_room (Nat.le_of_ble_eq_true rfl)) dX12_slope_169 ⟨Nat.le_of_ble_eq_true rfl, Nat.le_of_ble_eq_true rfl⟩) hP hD hS hA (fun u H locs hw hP hD hS => ?_)
    obtain ⟨n_33, j_34, j_35⟩ := u
    try dsimp only at hw
    have hP : va_P D vwCl (mwd y ad zw (sJ (sJ (sI σ 44 n_33) 42 j_34) 43 j_35)) H := hP
    have hD : va_D A (mwd y ad zw (sJ (sJ (sI σ 44 n_33) 42 j_34) 43 j_35)) := hD
    have hw : -1000000000 ≤ j_34.toInt ∧ j_34.toInt ≤ 1000000000 ∧ 0 ≤ j_35.toInt ∧ j_35.toInt ≤ 1000000000 := hw
    refine lv_aload_n hx hb dX12_slope_172 rfl (lv_at hl 6 rfl) ?_
    refine va_get (D := D) (ci := 11) (v := .long j_34) (C := RX12) (T := TX12) (N := 85) hx hb hts inX12 hown hK hP 0 mwd_o0 rfl 42 (by decide) fl387 (fun _ h9 => h9) rfl dX12_slope_173 ?_
    refine lv_lstore (lv' := [(13, .long j_34), (11, .long j_14), (9, .long j_11), (7, .long j_8), (5, .long j_5), (4, .int i_2), (3, .int i_1), (0, .ref (ad 1)), (1, .int k), (2, .int 0)]) hx hb dX12_slope_176 hl (by decide) rfl (fun ls hl => ?_)
    refine lv_aload_n hx hb dX12_slope_178 rfl (lv_at hl 7 rfl) ?_
    refine va_get (D := D) (ci := 11) (v := .long j_35) (C := RX12) (T := TX12) (N := 85) hx hb hts inX12 hown hK hP 0 mwd_o0 rfl 43 (by decide) fl391 (fun _ h9 => h9) rfl dX12_slope_179 ?_
    refine lv_lstore (lv' := [(15, .long j_35), (13, .long j_34), (11, .long j_14), (9, .long j_11), (7, .long j_8), (5, .long j_5), (4, .int i_2), (3, .int i_1), (0, .ref (ad 1)), (1, .int k), (2, .int 0)]) hx hb dX12_slope_182 hl (by decide) rfl (fun ls hl => ?_)
    refine lv_aload_n hx hb dX12_slope_184 rfl (lv_at hl 8 rfl) ?_
    refine lv_aload_n hx hb dX12_slope_185 rfl (lv_at hl 8 rfl) ?_
    refine va_get (D := D) (ci := 11) (v := .ref (ad 57)) (C := RX12) (T := TX12) (N := 85) hx hb hts inX12 hown hK hP 0 mwd_o0 rfl 57 (by decide) fl124 (fun _ h9 => h9) rfl dX12_slope_186 ?_
    refine lv_iload_n hx hb dX12_slope_189 rfl (lv_at hl 7 rfl) ?_
    refine va_lald hx hb hK hP 37 3 mwd_a37 rfl (x_in (by omega) (by omega)) dX12_slope_190 ?_
    refine lv_topl (fun j_36 ej_36 => ?_)
    have ej_36 : j_36 = (σ.2.2.2 57) (Int32.toNatClampNeg i_1) := ej_36
    have bj_36 := b_atJ hB57 ej_36
    refine lv_aload_n hx hb dX12_slope_191 rfl (lv_at hl 8 rfl) ?_
    refine va_get (D := D) (ci := 11) (v := .ref (ad 58)) (C := RX12) (T := TX12) (N := 85) hx hb hts inX12 hown hK hP 0 mwd_o0 rfl 58 (by decide) fl127 (fun _ h9 => h9) rfl dX12_slope_192 ?_
    refine lv_iload_n hx hb dX12_slope_195 rfl (lv_at hl 7 rfl) ?_
    refine va_lald hx hb hK hP 38 3 mwd_a38 rfl (x_in (by omega) (by omega)) dX12_slope_196 ?_
    refine lv_topl (fun j_37 ej_37 => ?_)
    have ej_37 : j_37 = (σ.2.2.2 58) (Int32.toNatClampNeg i_1) := ej_37
    have bj_37 := b_atJ hB58 ej_37
    refine lv_lload hx hb dX12_slope_197 (lv_at hl 3 rfl) ?_
    refine lv_lload hx hb dX12_slope_199 (lv_at hl 2 rfl) ?_
    refine x_callvW (va_runV (As := [.long j_36, .long j_37, .long j_11, .long j_14]) (rest := []) ⟨hx, hb, hml, hown, hts⟩ (q_multiplies l D y H.size ad zw (sJ (sJ (sI σ 44 n_33) 42 j_34) 43 j_35) j_36 j_37 j_11 j_14 (by first | omega | decide) (by first | omega | decide) (by first | omega | decide) (by first | omega | decide) (by first | omega | decide) (by first | omega | decide) (by first | omega | decide) (by first | omega | decide)) (cwV 4 hts g_q_slope0_3 rfl rfl rfl (by decide +kernel) ⟨Nat.le_of_ble_eq_true rfl, Nat.le_of_ble_eq_true rfl⟩) (x_preV (q := (RX12, TX12, 85)) hK hP hD (ci := 11) (q0 := 0) rfl mwd_o0) rfl rfl hl.1 rfl (lv_room (Nat.le_of_ble_eq_true rfl)) dX12_slope_201 ⟨Nat.le_of_ble_eq_true rfl, Nat.le_of_ble_eq_true rfl⟩) hP hD hS hA (fun u H locs hw hP hD hS => ?_)
    obtain ⟨n_38, j_39, j_40⟩ := u
    try dsimp only at hw
    have hP : va_P D vwCl (mwd y ad zw (sJ (sJ (sI (sJ (sJ (sI σ 44 n_33) 42 j_34) 43 j_35) 44 n_38) 42 j_39) 43 j_40)) H := hP
    have hD : va_D A (mwd y ad zw (sJ (sJ (sI (sJ (sJ (sI σ 44 n_33) 42 j_34) 43 j_35) 44 n_38) 42 j_39) 43 j_40)) := hD
    have hw : -1000000000 ≤ j_39.toInt ∧ j_39.toInt ≤ 1000000000 ∧ 0 ≤ j_40.toInt ∧ j_40.toInt ≤ 1000000000 := hw
    refine lv_aload_n hx hb dX12_slope_204 rfl (lv_at hl 8 rfl) ?_
    refine lv_lload hx hb dX12_slope_205 (lv_at hl 1 rfl) ?_
    refine lv_lload hx hb dX12_slope_207 (lv_at hl 0 rfl) ?_
    refine lv_aload_n hx hb dX12_slope_209 rfl (lv_at hl 8 rfl) ?_
    refine va_get (D := D) (ci := 11) (v := .long j_39) (C := RX12) (T := TX12) (N := 85) hx hb hts inX12 hown hK hP 0 mwd_o0 rfl 42 (by decide) fl387 (fun _ h9 => h9) rfl dX12_slope_210 ?_
    refine lv_aload_n hx hb dX12_slope_213 rfl (lv_at hl 8 rfl) ?_
    refine va_get (D := D) (ci := 11) (v := .long j_40) (C := RX12) (T := TX12) (N := 85) hx hb hts inX12 hown hK hP 0 mwd_o0 rfl 43 (by decide) fl391 (fun _ h9 => h9) rfl dX12_slope_214 ?_
    refine x_callvW (va_runV (As := [.long j_34, .long j_35, .long j_39, .long j_40]) (rest := []) ⟨hx, hb, hml, hown, hts⟩ (q_adds l D y H.size ad zw (sJ (sJ (sI (sJ (sJ (sI σ 44 n_33) 42 j_34) 43 j_35) 44 n_38) 42 j_39) 43 j_40) j_34 j_35 j_39 j_40 (by first | omega | decide) (by first | omega | decide) (by first | omega | decide) (by first | omega | decide) (by first | omega | decide) (by first | omega | decide) (by first | omega | decide) (by first | omega | decide)) (cwV 4 hts g_q_slope0_0 rfl rfl rfl (by decide +kernel) ⟨Nat.le_of_ble_eq_true rfl, Nat.le_of_ble_eq_true rfl⟩) (x_preV (q := (RX12, TX12, 85)) hK hP hD (ci := 11) (q0 := 0) rfl mwd_o0) rfl rfl hl.1 rfl (lv_room (Nat.le_of_ble_eq_true rfl)) dX12_slope_217 ⟨Nat.le_of_ble_eq_true rfl, Nat.le_of_ble_eq_true rfl⟩) hP hD hS hA (fun u H locs hw hP hD hS => ?_)
    obtain ⟨n_41, j_42, j_43⟩ := u
    try dsimp only at hw
    have hP : va_P D vwCl (mwd y ad zw (sJ (sJ (sI (sJ (sJ (sI (sJ (sJ (sI σ 44 n_33) 42 j_34) 43 j_35) 44 n_38) 42 j_39) 43 j_40) 44 n_41) 42 j_42) 43 j_43)) H := hP
    have hD : va_D A (mwd y ad zw (sJ (sJ (sI (sJ (sJ (sI (sJ (sJ (sI σ 44 n_33) 42 j_34) 43 j_35) 44 n_38) 42 j_39) 43 j_40) 44 n_41) 42 j_42) 43 j_43)) := hD
    have hw : -1000000000 ≤ j_42.toInt ∧ j_42.toInt ≤ 1000000000 ∧ 0 ≤ j_43.toInt ∧ j_43.toInt ≤ 1000000000 := hw
    refine lv_goto (tgt := 331) hx hb dX12_slope_220 (by decide) ?_
    refine lv_aload_n hx hb dX12_slope_331 rfl (lv_at hl 8 rfl) ?_
    refine lv_iload_n hx hb dX12_slope_332 rfl (lv_at hl 10 rfl) ?_
    refine lv_iload_n hx hb dX12_slope_333 rfl (lv_at hl 9 rfl) ?_
    refine lv_aload_n hx hb dX12_slope_334 rfl (lv_at hl 8 rfl) ?_
    refine va_get (D := D) (ci := 11) (v := .long j_42) (C := RX12) (T := TX12) (N := 85) hx hb hts inX12 hown hK hP 0 mwd_o0 rfl 42 (by decide) fl387 (fun _ h9 => h9) rfl dX12_slope_335 ?_
    refine lv_aload_n hx hb dX12_slope_338 rfl (lv_at hl 8 rfl) ?_
    refine va_get (D := D) (ci := 11) (v := .long j_43) (C := RX12) (T := TX12) (N := 85) hx hb hts inX12 hown hK hP 0 mwd_o0 rfl 43 (by decide) fl391 (fun _ h9 => h9) rfl dX12_slope_339 ?_
    refine x_callvW (va_runV (As := [.int 0, .int k, .long j_42, .long j_43]) (rest := []) ⟨hx, hb, hml, hown, hts⟩ (q_lets0 l D y H.size ad zw (sJ (sJ (sI (sJ (sJ (sI (sJ (sJ (sI σ 44 n_33) 42 j_34) 43 j_35) 44 n_38) 42 j_39) 43 j_40) 44 n_41) 42 j_42) 43 j_43) k j_42 j_43 (by first | omega | decide) (by first | omega | decide) (by first | omega | decide) (by first | omega | decide) (by first | omega | decide) (by first | omega | decide) hB75 hB76) (cwV 4 hts g_q_slope0_1 rfl rfl rfl (by decide +kernel) ⟨Nat.le_of_ble_eq_true rfl, Nat.le_of_ble_eq_true rfl⟩) (x_preV (q := (RX12, TX12, 85)) hK hP hD (ci := 11) (q0 := 0) rfl mwd_o0) rfl rfl hl.1 rfl (lv_room (Nat.le_of_ble_eq_true rfl)) dX12_slope_342 ⟨Nat.le_of_ble_eq_true rfl, Nat.le_of_ble_eq_true rfl⟩) hP hD hS hA (fun u H locs hw hP hD hS => ?_)
    obtain ⟨f_44, f_45⟩ := u
    try dsimp only at hw
    have hP : va_P D vwCl (mwd y ad zw (tJ (tJ (sJ (sJ (sI (sJ (sJ (sI (sJ (sJ (sI σ 44 n_33) 42 j_34) 43 j_35) 44 n_38) 42 j_39) 43 j_40) 44 n_41) 42 j_42) 43 j_43) 75 f_44) 76 f_45)) H := hP
    have hD : va_D A (mwd y ad zw (tJ (tJ (sJ (sJ (sI (sJ (sJ (sI (sJ (sJ (sI σ 44 n_33) 42 j_34) 43 j_35) 44 n_38) 42 j_39) 43 j_40) 44 n_41) 42 j_42) 43 j_43) 75 f_44) 76 f_45)) := hD
    have hw : (True) ∧ bJ f_44 (-1000000000) 1000000000 ∧ bJ f_45 0 1000000000 := hw
    obtain ⟨hw, hg_46, hg_47⟩ := hw
    have hP : va_P D vwCl (mwd y ad zw (tJ (tJ (sJ (sJ (sI σ 44 n_41) 42 j_42) 43 j_43) 75 f_44) 76 f_45)) H := hP
    have hD : va_D A (mwd y ad zw (tJ (tJ (sJ (sJ (sI σ 44 n_41) 42 j_42) 43 j_43) 75 f_44) 76 f_45)) := hD
    exact x_vretW (u := (n_41, j_42, j_43, f_44, f_45)) hx hb hr hQ (by (try dsimp only); exact ⟨trivial, hg_46, hg_47⟩) hP hD hK hS dX12_slope_345 hlocks
  · refine lv_tableIn (tgt := 223) hx hb dX12_slope_79 (by decide) (by decide) rfl (by decide) ?_
    refine lv_aload_n hx hb dX12_slope_223 rfl (lv_at hl 6 rfl) ?_
    refine lv_aload_n hx hb dX12_slope_224 rfl (lv_at hl 6 rfl) ?_
    refine va_get (D := D) (ci := 11) (v := .ref (ad 57)) (C := RX12) (T := TX12) (N := 85) hx hb hts inX12 hown hK hP 0 mwd_o0 rfl 57 (by decide) fl124 (fun _ h9 => h9) rfl dX12_slope_225 ?_
    refine lv_iload_n hx hb dX12_slope_228 rfl (lv_at hl 7 rfl) ?_
    refine va_lald hx hb hK hP 37 3 mwd_a37 rfl (x_in (by omega) (by omega)) dX12_slope_229 ?_
    refine lv_topl (fun j_48 ej_48 => ?_)
    have ej_48 : j_48 = (σ.2.2.2 57) (Int32.toNatClampNeg k) := ej_48
    have bj_48 := b_atJ hB57 ej_48
    refine lv_aload_n hx hb dX12_slope_230 rfl (lv_at hl 6 rfl) ?_
    refine va_get (D := D) (ci := 11) (v := .ref (ad 58)) (C := RX12) (T := TX12) (N := 85) hx hb hts inX12 hown hK hP 0 mwd_o0 rfl 58 (by decide) fl127 (fun _ h9 => h9) rfl dX12_slope_231 ?_
    refine lv_iload_n hx hb dX12_slope_234 rfl (lv_at hl 7 rfl) ?_
    refine va_lald hx hb hK hP 38 3 mwd_a38 rfl (x_in (by omega) (by omega)) dX12_slope_235 ?_
    refine lv_topl (fun j_49 ej_49 => ?_)
    have ej_49 : j_49 = (σ.2.2.2 58) (Int32.toNatClampNeg k) := ej_49
    have bj_49 := b_atJ hB58 ej_49
    refine lv_lload hx hb dX12_slope_236 (lv_at hl 1 rfl) ?_
    refine lv_lload hx hb dX12_slope_238 (lv_at hl 0 rfl) ?_
    refine x_callvW (va_runV (As := [.long j_48, .long j_49, .long j_11, .long j_14]) (rest := []) ⟨hx, hb, hml, hown, hts⟩ (q_multiplies l D y H.size ad zw σ j_48 j_49 j_11 j_14 (by first | omega | decide) (by first | omega | decide) (by first | omega | decide) (by first | omega | decide) (by first | omega | decide) (by first | omega | decide) (by first | omega | decide) (by first | omega | decide)) (cwV 4 hts g_q_slope0_3 rfl rfl rfl (by decide +kernel) ⟨Nat.le_of_ble_eq_true rfl, Nat.le_of_ble_eq_true rfl⟩) (x_preV (q := (RX12, TX12, 85)) hK hP hD (ci := 11) (q0 := 0) rfl mwd_o0) rfl rfl hl.1 rfl (lv_room (Nat.le_of_ble_eq_true rfl)) dX12_slope_240 ⟨Nat.le_of_ble_eq_true rfl, Nat.le_of_ble_eq_true rfl⟩) hP hD hS hA (fun u H locs hw hP hD hS => ?_)
    obtain ⟨n_50, j_51, j_52⟩ := u
    try dsimp only at hw
    have hP : va_P D vwCl (mwd y ad zw (sJ (sJ (sI σ 44 n_50) 42 j_51) 43 j_52)) H := hP
    have hD : va_D A (mwd y ad zw (sJ (sJ (sI σ 44 n_50) 42 j_51) 43 j_52)) := hD
    have hw : -1000000000 ≤ j_51.toInt ∧ j_51.toInt ≤ 1000000000 ∧ 0 ≤ j_52.toInt ∧ j_52.toInt ≤ 1000000000 := hw
    refine lv_aload_n hx hb dX12_slope_243 rfl (lv_at hl 6 rfl) ?_
    refine lv_lload hx hb dX12_slope_244 (lv_at hl 3 rfl) ?_
    refine lv_lload hx hb dX12_slope_246 (lv_at hl 2 rfl) ?_
    refine lv_aload_n hx hb dX12_slope_248 rfl (lv_at hl 6 rfl) ?_
    refine va_get (D := D) (ci := 11) (v := .long j_51) (C := RX12) (T := TX12) (N := 85) hx hb hts inX12 hown hK hP 0 mwd_o0 rfl 42 (by decide) fl387 (fun _ h9 => h9) rfl dX12_slope_249 ?_
    refine lv_aload_n hx hb dX12_slope_252 rfl (lv_at hl 6 rfl) ?_
    refine va_get (D := D) (ci := 11) (v := .long j_52) (C := RX12) (T := TX12) (N := 85) hx hb hts inX12 hown hK hP 0 mwd_o0 rfl 43 (by decide) fl391 (fun _ h9 => h9) rfl dX12_slope_253 ?_
    refine x_callvW (va_runV (As := [.long j_5, .long j_8, .long j_51, .long j_52]) (rest := []) ⟨hx, hb, hml, hown, hts⟩ (q_takesOff l D y H.size ad zw (sJ (sJ (sI σ 44 n_50) 42 j_51) 43 j_52) j_5 j_8 j_51 j_52 (by first | omega | decide) (by first | omega | decide) (by first | omega | decide) (by first | omega | decide) (by first | omega | decide) (by first | omega | decide) (by first | omega | decide) (by first | omega | decide)) (cwV 4 hts g_q_slope0_2 rfl rfl rfl (by decide +kernel) ⟨Nat.le_of_ble_eq_true rfl, Nat.le_of_ble_eq_true rfl⟩) (x_preV (q := (RX12, TX12, 85)) hK hP hD (ci := 11) (q0 := 0) rfl mwd_o0) rfl rfl hl.1 rfl (lv_room (Nat.le_of_ble_eq_true rfl)) dX12_slope_256 ⟨Nat.le_of_ble_eq_true rfl, Nat.le_of_ble_eq_true rfl⟩) hP hD hS hA (fun u H locs hw hP hD hS => ?_)
    obtain ⟨n_53, j_54, j_55⟩ := u
    try dsimp only at hw
    have hP : va_P D vwCl (mwd y ad zw (sJ (sJ (sI (sJ (sJ (sI σ 44 n_50) 42 j_51) 43 j_52) 44 n_53) 42 j_54) 43 j_55)) H := hP
    have hD : va_D A (mwd y ad zw (sJ (sJ (sI (sJ (sJ (sI σ 44 n_50) 42 j_51) 43 j_52) 44 n_53) 42 j_54) 43 j_55)) := hD
    have hw : -1000000000 ≤ j_54.toInt ∧ j_54.toInt ≤ 1000000000 ∧ 0 ≤ j_55.toInt ∧ j_55.toInt ≤ 1000000000 := hw
    refine lv_aload_n hx hb dX12_slope_259 rfl (lv_at hl 6 rfl) ?_
    refine lv_aload_n hx hb dX12_slope_260 rfl (lv_at hl 6 rfl) ?_
    refine va_get (D := D) (ci := 11) (v := .long j_54) (C := RX12) (T := TX12) (N := 85) hx hb hts inX12 hown hK hP 0 mwd_o0 rfl 42 (by decide) fl387 (fun _ h9 => h9) rfl dX12_slope_261 ?_
    refine lv_aload_n hx hb dX12_slope_264 rfl (lv_at hl 6 rfl) ?_
    refine va_get (D := D) (ci := 11) (v := .long j_55) (C := RX12) (T := TX12) (N := 85) hx hb hts inX12 hown hK hP 0 mwd_o0 rfl 43 (by decide) fl391 (fun _ h9 => h9) rfl dX12_slope_265 ?_
    refine lv_aload_n hx hb dX12_slope_268 rfl (lv_at hl 6 rfl) ?_
    refine va_get (D := D) (ci := 11) (v := .ref (ad 57)) (C := RX12) (T := TX12) (N := 85) hx hb hts inX12 hown hK hP 0 mwd_o0 rfl 57 (by decide) fl124 (fun _ h9 => h9) rfl dX12_slope_269 ?_
    refine lv_iload hx hb dX12_slope_272 (lv_at hl 4 rfl) ?_
    refine va_lald hx hb hK hP 37 3 mwd_a37 rfl (x_in (by omega) (by omega)) dX12_slope_274 ?_
    refine lv_topl (fun j_56 ej_56 => ?_)
    have ej_56 : j_56 = (σ.2.2.2 57) (Int32.toNatClampNeg i_2) := ej_56
    have bj_56 := b_atJ hB57 ej_56
    refine lv_aload_n hx hb dX12_slope_275 rfl (lv_at hl 6 rfl) ?_
    refine va_get (D := D) (ci := 11) (v := .ref (ad 58)) (C := RX12) (T := TX12) (N := 85) hx hb hts inX12 hown hK hP 0 mwd_o0 rfl 58 (by decide) fl127 (fun _ h9 => h9) rfl dX12_slope_276 ?_
    refine lv_iload hx hb dX12_slope_279 (lv_at hl 4 rfl) ?_
    refine va_lald hx hb hK hP 38 3 mwd_a38 rfl (x_in (by omega) (by omega)) dX12_slope_281 ?_
    refine lv_topl (fun j_57 ej_57 => ?_)
    have ej_57 : j_57 = (σ.2.2.2 58) (Int32.toNatClampNeg i_2) := ej_57
    have bj_57 := b_atJ hB58 ej_57
    refine x_callvW (va_runV (As := [.long j_54, .long j_55, .long j_56, .long j_57]) (rest := []) ⟨hx, hb, hml, hown, hts⟩ (q_divides l D y H.size ad zw (sJ (sJ (sI (sJ (sJ (sI σ 44 n_50) 42 j_51) 43 j_52) 44 n_53) 42 j_54) 43 j_55) j_54 j_55 j_56 j_57 (by first | omega | decide) (by first | omega | decide) (by first | omega | decide) (by first | omega | decide) (by first | omega | decide) (by first | omega | decide) (by first | omega | decide) (by first | omega | decide)) (cwV 4 hts g_q_slope0_4 rfl rfl rfl (by decide +kernel) ⟨Nat.le_of_ble_eq_true rfl, Nat.le_of_ble_eq_true rfl⟩) (x_preV (q := (RX12, TX12, 85)) hK hP hD (ci := 11) (q0 := 0) rfl mwd_o0) rfl rfl hl.1 rfl (lv_room (Nat.le_of_ble_eq_true rfl)) dX12_slope_282 ⟨Nat.le_of_ble_eq_true rfl, Nat.le_of_ble_eq_true rfl⟩) hP hD hS hA (fun u H locs hw hP hD hS => ?_)
    obtain ⟨n_58, j_59, j_60⟩ := u
    try dsimp only at hw
    have hP : va_P D vwCl (mwd y ad zw (sJ (sJ (sI (sJ (sJ (sI (sJ (sJ (sI σ 44 n_50) 42 j_51) 43 j_52) 44 n_53) 42 j_54) 43 j_55) 44 n_58) 42 j_59) 43 j_60)) H := hP
    have hD : va_D A (mwd y ad zw (sJ (sJ (sI (sJ (sJ (sI (sJ (sJ (sI σ 44 n_50) 42 j_51) 43 j_52) 44 n_53) 42 j_54) 43 j_55) 44 n_58) 42 j_59) 43 j_60)) := hD
    have hw : -1000000000 ≤ j_59.toInt ∧ j_59.toInt ≤ 1000000000 ∧ 0 ≤ j_60.toInt ∧ j_60.toInt ≤ 1000000000 := hw
    refine lv_goto (tgt := 331) hx hb dX12_slope_285 (by decide) ?_
    refine lv_aload_n hx hb dX12_slope_331 rfl (lv_at hl 6 rfl) ?_
    refine lv_iload_n hx hb dX12_slope_332 rfl (lv_at hl 8 rfl) ?_
    refine lv_iload_n hx hb dX12_slope_333 rfl (lv_at hl 7 rfl) ?_
    refine lv_aload_n hx hb dX12_slope_334 rfl (lv_at hl 6 rfl) ?_
    refine va_get (D := D) (ci := 11) (v := .long j_59) (C := RX12) (T := TX12) (N := 85) hx hb hts inX12 hown hK hP 0 mwd_o0 rfl 42 (by decide) fl387 (fun _ h9 => h9) rfl dX12_slope_335 ?_
    refine lv_aload_n hx hb dX12_slope_338 rfl (lv_at hl 6 rfl) ?_
    refine va_get (D := D) (ci := 11) (v := .long j_60) (C := RX12) (T := TX12) (N := 85) hx hb hts inX12 hown hK hP 0 mwd_o0 rfl 43 (by decide) fl391 (fun _ h9 => h9) rfl dX12_slope_339 ?_
    refine x_callvW (va_runV (As := [.int 0, .int k, .long j_59, .long j_60]) (rest := []) ⟨hx, hb, hml, hown, hts⟩ (q_lets0 l D y H.size ad zw (sJ (sJ (sI (sJ (sJ (sI (sJ (sJ (sI σ 44 n_50) 42 j_51) 43 j_52) 44 n_53) 42 j_54) 43 j_55) 44 n_58) 42 j_59) 43 j_60) k j_59 j_60 (by first | omega | decide) (by first | omega | decide) (by first | omega | decide) (by first | omega | decide) (by first | omega | decide) (by first | omega | decide) hB75 hB76) (cwV 4 hts g_q_slope0_1 rfl rfl rfl (by decide +kernel) ⟨Nat.le_of_ble_eq_true rfl, Nat.le_of_ble_eq_true rfl⟩) (x_preV (q := (RX12, TX12, 85)) hK hP hD (ci := 11) (q0 := 0) rfl mwd_o0) rfl rfl hl.1 rfl (lv_room (Nat.le_of_ble_eq_true rfl)) dX12_slope_342 ⟨Nat.le_of_ble_eq_true rfl, Nat.le_of_ble_eq_true rfl⟩) hP hD hS hA (fun u H locs hw hP hD hS => ?_)
    obtain ⟨f_61, f_62⟩ := u
    try dsimp only at hw
    have hP : va_P D vwCl (mwd y ad zw (tJ (tJ (sJ (sJ (sI (sJ (sJ (sI (sJ (sJ (sI σ 44 n_50) 42 j_51) 43 j_52) 44 n_53) 42 j_54) 43 j_55) 44 n_58) 42 j_59) 43 j_60) 75 f_61) 76 f_62)) H := hP
    have hD : va_D A (mwd y ad zw (tJ (tJ (sJ (sJ (sI (sJ (sJ (sI (sJ (sJ (sI σ 44 n_50) 42 j_51) 43 j_52) 44 n_53) 42 j_54) 43 j_55) 44 n_58) 42 j_59) 43 j_60) 75 f_61) 76 f_62)) := hD
    have hw : (True) ∧ bJ f_61 (-1000000000) 1000000000 ∧ bJ f_62 0 1000000000 := hw
    obtain ⟨hw, hg_63, hg_64⟩ := hw
    have hP : va_P D vwCl (mwd y ad zw (tJ (tJ (sJ (sJ (sI σ 44 n_58) 42 j_59) 43 j_60) 75 f_61) 76 f_62)) H := hP
    have hD : va_D A (mwd y ad zw (tJ (tJ (sJ (sJ (sI σ 44 n_58) 42 j_59) 43 j_60) 75 f_61) 76 f_62)) := hD
    exact x_vretW (u := (n_58, j_59, j_60, f_61, f_62)) hx hb hr hQ (by (try dsimp only); exact ⟨trivial, hg_63, hg_64⟩) hP hD hK hS dX12_slope_345 hlocks
  · refine lv_tableIn (tgt := 323) hx hb dX12_slope_79 (by decide) (by decide) rfl (by decide) ?_
    refine lv_aload_n hx hb dX12_slope_323 rfl (lv_at hl 6 rfl) ?_
    refine lv_lload hx hb dX12_slope_324 (lv_at hl 3 rfl) ?_
    refine lv_lload hx hb dX12_slope_326 (lv_at hl 2 rfl) ?_
    refine x_callvW (va_runV (As := [.long j_5, .long j_8]) (rest := []) ⟨hx, hb, hml, hown, hts⟩ (q_comes l D y H.size ad zw σ j_5 j_8 (by first | omega | decide) (by first | omega | decide) (by first | omega | decide) (by first | omega | decide)) (cwV 2 hts g_q_slope0_5 rfl rfl rfl (by decide +kernel) ⟨Nat.le_of_ble_eq_true rfl, Nat.le_of_ble_eq_true rfl⟩) (x_preV (q := (RX12, TX12, 85)) hK hP hD (ci := 11) (q0 := 0) rfl mwd_o0) rfl rfl hl.1 rfl (lv_room (Nat.le_of_ble_eq_true rfl)) dX12_slope_328 ⟨Nat.le_of_ble_eq_true rfl, Nat.le_of_ble_eq_true rfl⟩) hP hD hS hA (fun u H locs hw hP hD hS => ?_)
    obtain ⟨n_65, j_66, j_67⟩ := u
    try dsimp only at hw
    have hP : va_P D vwCl (mwd y ad zw (sJ (sJ (sI σ 44 n_65) 42 j_66) 43 j_67)) H := hP
    have hD : va_D A (mwd y ad zw (sJ (sJ (sI σ 44 n_65) 42 j_66) 43 j_67)) := hD
    have hw : -1000000000 ≤ j_66.toInt ∧ j_66.toInt ≤ 1000000000 ∧ 0 ≤ j_67.toInt ∧ j_67.toInt ≤ 1000000000 := hw
    refine lv_aload_n hx hb dX12_slope_331 rfl (lv_at hl 6 rfl) ?_
    refine lv_iload_n hx hb dX12_slope_332 rfl (lv_at hl 8 rfl) ?_
    refine lv_iload_n hx hb dX12_slope_333 rfl (lv_at hl 7 rfl) ?_
    refine lv_aload_n hx hb dX12_slope_334 rfl (lv_at hl 6 rfl) ?_
    refine va_get (D := D) (ci := 11) (v := .long j_66) (C := RX12) (T := TX12) (N := 85) hx hb hts inX12 hown hK hP 0 mwd_o0 rfl 42 (by decide) fl387 (fun _ h9 => h9) rfl dX12_slope_335 ?_
    refine lv_aload_n hx hb dX12_slope_338 rfl (lv_at hl 6 rfl) ?_
    refine va_get (D := D) (ci := 11) (v := .long j_67) (C := RX12) (T := TX12) (N := 85) hx hb hts inX12 hown hK hP 0 mwd_o0 rfl 43 (by decide) fl391 (fun _ h9 => h9) rfl dX12_slope_339 ?_
    refine x_callvW (va_runV (As := [.int 0, .int k, .long j_66, .long j_67]) (rest := []) ⟨hx, hb, hml, hown, hts⟩ (q_lets0 l D y H.size ad zw (sJ (sJ (sI σ 44 n_65) 42 j_66) 43 j_67) k j_66 j_67 (by first | omega | decide) (by first | omega | decide) (by first | omega | decide) (by first | omega | decide) (by first | omega | decide) (by first | omega | decide) hB75 hB76) (cwV 4 hts g_q_slope0_1 rfl rfl rfl (by decide +kernel) ⟨Nat.le_of_ble_eq_true rfl, Nat.le_of_ble_eq_true rfl⟩) (x_preV (q := (RX12, TX12, 85)) hK hP hD (ci := 11) (q0 := 0) rfl mwd_o0) rfl rfl hl.1 rfl (lv_room (Nat.le_of_ble_eq_true rfl)) dX12_slope_342 ⟨Nat.le_of_ble_eq_true rfl, Nat.le_of_ble_eq_true rfl⟩) hP hD hS hA (fun u H locs hw hP hD hS => ?_)
    obtain ⟨f_68, f_69⟩ := u
    try dsimp only at hw
    have hP : va_P D vwCl (mwd y ad zw (tJ (tJ (sJ (sJ (sI σ 44 n_65) 42 j_66) 43 j_67) 75 f_68) 76 f_69)) H := hP
    have hD : va_D A (mwd y ad zw (tJ (tJ (sJ (sJ (sI σ 44 n_65) 42 j_66) 43 j_67) 75 f_68) 76 f_69)) := hD
    have hw : (True) ∧ bJ f_68 (-1000000000) 1000000000 ∧ bJ f_69 0 1000000000 := hw
    obtain ⟨hw, hg_70, hg_71⟩ := hw
    exact x_vretW (u := (n_65, j_66, j_67, f_68, f_69)) hx hb hr hQ (by (try dsimp only); exact ⟨trivial, hg_70, hg_71⟩) hP hD hK hS dX12_slope_345 hlocks
  · refine lv_tableIn (tgt := 323) hx hb dX12_slope_79 (by decide) (by decide) rfl (by decide) ?_
    refine lv_aload_n hx hb dX12_slope_323 rfl (lv_at hl 6 rfl) ?_
    refine lv_lload hx hb dX12_slope_324 (lv_at hl 3 rfl) ?_
    refine lv_lload hx hb dX12_slope_326 (lv_at hl 2 rfl) ?_
    refine x_callvW (va_runV (As := [.long j_5, .long j_8]) (rest := []) ⟨hx, hb, hml, hown, hts⟩ (q_comes l D y H.size ad zw σ j_5 j_8 (by first | omega | decide) (by first | omega | decide) (by first | omega | decide) (by first | omega | decide)) (cwV 2 hts g_q_slope0_5 rfl rfl rfl (by decide +kernel) ⟨Nat.le_of_ble_eq_true rfl, Nat.le_of_ble_eq_true rfl⟩) (x_preV (q := (RX12, TX12, 85)) hK hP hD (ci := 11) (q0 := 0) rfl mwd_o0) rfl rfl hl.1 rfl (lv_room (Nat.le_of_ble_eq_true rfl)) dX12_slope_328 ⟨Nat.le_of_ble_eq_true rfl, Nat.le_of_ble_eq_true rfl⟩) hP hD hS hA (fun u H locs hw hP hD hS => ?_)
    obtain ⟨n_72, j_73, j_74⟩ := u
    try dsimp only at hw
    have hP : va_P D vwCl (mwd y ad zw (sJ (sJ (sI σ 44 n_72) 42 j_73) 43 j_74)) H := hP
    have hD : va_D A (mwd y ad zw (sJ (sJ (sI σ 44 n_72) 42 j_73) 43 j_74)) := hD
    have hw : -1000000000 ≤ j_73.toInt ∧ j_73.toInt ≤ 1000000000 ∧ 0 ≤ j_74.toInt ∧ j_74.toInt ≤ 1000000000 := hw
    refine lv_aload_n hx hb dX12_slope_331 rfl (lv_at hl 6 rfl) ?_
    refine lv_iload_n hx hb dX12_slope_332 rfl (lv_at hl 8 rfl) ?_
    refine lv_iload_n hx hb dX12_slope_333 rfl (lv_at hl 7 rfl) ?_
    refine lv_aload_n hx hb dX12_slope_334 rfl (lv_at hl 6 rfl) ?_
    refine va_get (D := D) (ci := 11) (v := .long j_73) (C := RX12) (T := TX12) (N := 85) hx hb hts inX12 hown hK hP 0 mwd_o0 rfl 42 (by decide) fl387 (fun _ h9 => h9) rfl dX12_slope_335 ?_
    refine lv_aload_n hx hb dX12_slope_338 rfl (lv_at hl 6 rfl) ?_
    refine va_get (D := D) (ci := 11) (v := .long j_74) (C := RX12) (T := TX12) (N := 85) hx hb hts inX12 hown hK hP 0 mwd_o0 rfl 43 (by decide) fl391 (fun _ h9 => h9) rfl dX12_slope_339 ?_
    refine x_callvW (va_runV (As := [.int 0, .int k, .long j_73, .long j_74]) (rest := []) ⟨hx, hb, hml, hown, hts⟩ (q_lets0 l D y H.size ad zw (sJ (sJ (sI σ 44 n_72) 42 j_73) 43 j_74) k j_73 j_74 (by first | omega | decide) (by first | omega | decide) (by first | omega | decide) (by first | omega | decide) (by first | omega | decide) (by first | omega | decide) hB75 hB76) (cwV 4 hts g_q_slope0_1 rfl rfl rfl (by decide +kernel) ⟨Nat.le_of_ble_eq_true rfl, Nat.le_of_ble_eq_true rfl⟩) (x_preV (q := (RX12, TX12, 85)) hK hP hD (ci := 11) (q0 := 0) rfl mwd_o0) rfl rfl hl.1 rfl (lv_room (Nat.le_of_ble_eq_true rfl)) dX12_slope_342 ⟨Nat.le_of_ble_eq_true rfl, Nat.le_of_ble_eq_true rfl⟩) hP hD hS hA (fun u H locs hw hP hD hS => ?_)
    obtain ⟨f_75, f_76⟩ := u
    try dsimp only at hw
    have hP : va_P D vwCl (mwd y ad zw (tJ (tJ (sJ (sJ (sI σ 44 n_72) 42 j_73) 43 j_74) 75 f_75) 76 f_76)) H := hP
    have hD : va_D A (mwd y ad zw (tJ (tJ (sJ (sJ (sI σ 44 n_72) 42 j_73) 43 j_74) 75 f_75) 76 f_76)) := hD
    have hw : (True) ∧ bJ f_75 (-1000000000) 1000000000 ∧ bJ f_76 0 1000000000 := hw
    obtain ⟨hw, hg_77, hg_78⟩ := hw
    exact x_vretW (u := (n_72, j_73, j_74, f_75, f_76)) hx hb hr hQ (by (try dsimp only); exact ⟨trivial, hg_77, hg_78⟩) hP hD hK hS dX12_slope_345 hlocks
  · refine lv_tableIn (tgt := 288) hx hb dX12_slope_79 (by decide) (by decide) rfl (by decide) ?_
    refine lv_aload_n hx hb dX12_slope_288 rfl (lv_at hl 6 rfl) ?_
    refine va_get (D := D) (ci := 11) (v := .ref (ad 57)) (C := RX12) (T := TX12) (N := 85) hx hb hts inX12 hown hK hP 0 mwd_o0 rfl 57 (by decide) fl124 (fun _ h9 => h9) rfl dX12_slope_289 ?_
    refine lv_iload_n hx hb dX12_slope_292 rfl (lv_at hl 5 rfl) ?_
    refine va_lald hx hb hK hP 37 3 mwd_a37 rfl (x_in (by omega) (by omega)) dX12_slope_293 ?_
    refine lv_topl (fun j_79 ej_79 => ?_)
    have ej_79 : j_79 = (σ.2.2.2 57) (Int32.toNatClampNeg i_1) := ej_79
    have bj_79 := b_atJ hB57 ej_79
    refine lv_lconst (v := 0) hx hb dX12_slope_294 (by decide) ?_
    refine W.lcmp hx hb dX12_slope_295 ?_
    refine lv_if_ge (tgt := 312) hx hb dX12_slope_296 (by decide) (fun c_80 => ?_) (fun c_80 => ?_)
    · have kc_80 : j_79.toInt ≥ 0 := by have h9 := x_tri j_79 (0 : Int64); (try simp only [Int64.reduceToInt] at h9); rcases h9 with ⟨g1, g2⟩ | ⟨g1, g2⟩ | ⟨g1, g2⟩ <;> first | omega | (exfalso; rw [g1] at c_80; revert c_80; decide)
      refine lv_aload_n hx hb dX12_slope_312 rfl (lv_at hl 6 rfl) ?_
      refine lv_lload hx hb dX12_slope_313 (lv_at hl 3 rfl) ?_
      refine lv_lload hx hb dX12_slope_315 (lv_at hl 2 rfl) ?_
      refine x_callvW (va_runV (As := [.long j_5, .long j_8]) (rest := []) ⟨hx, hb, hml, hown, hts⟩ (q_comes l D y H.size ad zw σ j_5 j_8 (by first | omega | decide) (by first | omega | decide) (by first | omega | decide) (by first | omega | decide)) (cwV 2 hts g_q_slope0_5 rfl rfl rfl (by decide +kernel) ⟨Nat.le_of_ble_eq_true rfl, Nat.le_of_ble_eq_true rfl⟩) (x_preV (q := (RX12, TX12, 85)) hK hP hD (ci := 11) (q0 := 0) rfl mwd_o0) rfl rfl hl.1 rfl (lv_room (Nat.le_of_ble_eq_true rfl)) dX12_slope_317 ⟨Nat.le_of_ble_eq_true rfl, Nat.le_of_ble_eq_true rfl⟩) hP hD hS hA (fun u H locs hw hP hD hS => ?_)
      obtain ⟨n_81, j_82, j_83⟩ := u
      try dsimp only at hw
      have hP : va_P D vwCl (mwd y ad zw (sJ (sJ (sI σ 44 n_81) 42 j_82) 43 j_83)) H := hP
      have hD : va_D A (mwd y ad zw (sJ (sJ (sI σ 44 n_81) 42 j_82) 43 j_83)) := hD
      have hw : -1000000000 ≤ j_82.toInt ∧ j_82.toInt ≤ 1000000000 ∧ 0 ≤ j_83.toInt ∧ j_83.toInt ≤ 1000000000 := hw
      refine lv_goto (tgt := 331) hx hb dX12_slope_320 (by decide) ?_
      refine lv_aload_n hx hb dX12_slope_331 rfl (lv_at hl 6 rfl) ?_
      refine lv_iload_n hx hb dX12_slope_332 rfl (lv_at hl 8 rfl) ?_
      refine lv_iload_n hx hb dX12_slope_333 rfl (lv_at hl 7 rfl) ?_
      refine lv_aload_n hx hb dX12_slope_334 rfl (lv_at hl 6 rfl) ?_
      refine va_get (D := D) (ci := 11) (v := .long j_82) (C := RX12) (T := TX12) (N := 85) hx hb hts inX12 hown hK hP 0 mwd_o0 rfl 42 (by decide) fl387 (fun _ h9 => h9) rfl dX12_slope_335 ?_
      refine lv_aload_n hx hb dX12_slope_338 rfl (lv_at hl 6 rfl) ?_
      refine va_get (D := D) (ci := 11) (v := .long j_83) (C := RX12) (T := TX12) (N := 85) hx hb hts inX12 hown hK hP 0 mwd_o0 rfl 43 (by decide) fl391 (fun _ h9 => h9) rfl dX12_slope_339 ?_
      refine x_callvW (va_runV (As := [.int 0, .int k, .long j_82, .long j_83]) (rest := []) ⟨hx, hb, hml, hown, hts⟩ (q_lets0 l D y H.size ad zw (sJ (sJ (sI σ 44 n_81) 42 j_82) 43 j_83) k j_82 j_83 (by first | omega | decide) (by first | omega | decide) (by first | omega | decide) (by first | omega | decide) (by first | omega | decide) (by first | omega | decide) hB75 hB76) (cwV 4 hts g_q_slope0_1 rfl rfl rfl (by decide +kernel) ⟨Nat.le_of_ble_eq_true rfl, Nat.le_of_ble_eq_true rfl⟩) (x_preV (q := (RX12, TX12, 85)) hK hP hD (ci := 11) (q0 := 0) rfl mwd_o0) rfl rfl hl.1 rfl (lv_room (Nat.le_of_ble_eq_true rfl)) dX12_slope_342 ⟨Nat.le_of_ble_eq_true rfl, Nat.le_of_ble_eq_true rfl⟩) hP hD hS hA (fun u H locs hw hP hD hS => ?_)
      obtain ⟨f_84, f_85⟩ := u
      try dsimp only at hw
      have hP : va_P D vwCl (mwd y ad zw (tJ (tJ (sJ (sJ (sI σ 44 n_81) 42 j_82) 43 j_83) 75 f_84) 76 f_85)) H := hP
      have hD : va_D A (mwd y ad zw (tJ (tJ (sJ (sJ (sI σ 44 n_81) 42 j_82) 43 j_83) 75 f_84) 76 f_85)) := hD
      have hw : (True) ∧ bJ f_84 (-1000000000) 1000000000 ∧ bJ f_85 0 1000000000 := hw
      obtain ⟨hw, hg_86, hg_87⟩ := hw
      exact x_vretW (u := (n_81, j_82, j_83, f_84, f_85)) hx hb hr hQ (by (try dsimp only); exact ⟨trivial, hg_86, hg_87⟩) hP hD hK hS dX12_slope_345 hlocks
    · have kc_80 : j_79.toInt < 0 := by have h9 := x_tri j_79 (0 : Int64); (try simp only [Int64.reduceToInt] at h9); rcases h9 with ⟨g1, g2⟩ | ⟨g1, g2⟩ | ⟨g1, g2⟩ <;> first | omega | (exfalso; rw [g1] at c_80; revert c_80; decide)
      refine lv_aload_n hx hb dX12_slope_299 rfl (lv_at hl 6 rfl) ?_
      refine lv_lconst (v := 0) hx hb dX12_slope_300 (by decide) ?_
      refine lv_lconst (v := 1) hx hb dX12_slope_301 (by decide) ?_
      refine lv_lload hx hb dX12_slope_302 (lv_at hl 3 rfl) ?_
      refine lv_lload hx hb dX12_slope_304 (lv_at hl 2 rfl) ?_
      refine x_callvW (va_runV (As := [.long 0, .long 1, .long j_5, .long j_8]) (rest := []) ⟨hx, hb, hml, hown, hts⟩ (q_takesOff l D y H.size ad zw σ 0 1 j_5 j_8 (by first | omega | decide) (by first | omega | decide) (by first | omega | decide) (by first | omega | decide) (by first | omega | decide) (by first | omega | decide) (by first | omega | decide) (by first | omega | decide)) (cwV 4 hts g_q_slope0_2 rfl rfl rfl (by decide +kernel) ⟨Nat.le_of_ble_eq_true rfl, Nat.le_of_ble_eq_true rfl⟩) (x_preV (q := (RX12, TX12, 85)) hK hP hD (ci := 11) (q0 := 0) rfl mwd_o0) rfl rfl hl.1 rfl (lv_room (Nat.le_of_ble_eq_true rfl)) dX12_slope_306 ⟨Nat.le_of_ble_eq_true rfl, Nat.le_of_ble_eq_true rfl⟩) hP hD hS hA (fun u H locs hw hP hD hS => ?_)
      obtain ⟨n_88, j_89, j_90⟩ := u
      try dsimp only at hw
      have hP : va_P D vwCl (mwd y ad zw (sJ (sJ (sI σ 44 n_88) 42 j_89) 43 j_90)) H := hP
      have hD : va_D A (mwd y ad zw (sJ (sJ (sI σ 44 n_88) 42 j_89) 43 j_90)) := hD
      have hw : -1000000000 ≤ j_89.toInt ∧ j_89.toInt ≤ 1000000000 ∧ 0 ≤ j_90.toInt ∧ j_90.toInt ≤ 1000000000 := hw
      refine lv_goto (tgt := 331) hx hb dX12_slope_309 (by decide) ?_
      refine lv_aload_n hx hb dX12_slope_331 rfl (lv_at hl 6 rfl) ?_
      refine lv_iload_n hx hb dX12_slope_332 rfl (lv_at hl 8 rfl) ?_
      refine lv_iload_n hx hb dX12_slope_333 rfl (lv_at hl 7 rfl) ?_
      refine lv_aload_n hx hb dX12_slope_334 rfl (lv_at hl 6 rfl) ?_
      refine va_get (D := D) (ci := 11) (v := .long j_89) (C := RX12) (T := TX12) (N := 85) hx hb hts inX12 hown hK hP 0 mwd_o0 rfl 42 (by decide) fl387 (fun _ h9 => h9) rfl dX12_slope_335 ?_
      refine lv_aload_n hx hb dX12_slope_338 rfl (lv_at hl 6 rfl) ?_
      refine va_get (D := D) (ci := 11) (v := .long j_90) (C := RX12) (T := TX12) (N := 85) hx hb hts inX12 hown hK hP 0 mwd_o0 rfl 43 (by decide) fl391 (fun _ h9 => h9) rfl dX12_slope_339 ?_
      refine x_callvW (va_runV (As := [.int 0, .int k, .long j_89, .long j_90]) (rest := []) ⟨hx, hb, hml, hown, hts⟩ (q_lets0 l D y H.size ad zw (sJ (sJ (sI σ 44 n_88) 42 j_89) 43 j_90) k j_89 j_90 (by first | omega | decide) (by first | omega | decide) (by first | omega | decide) (by first | omega | decide) (by first | omega | decide) (by first | omega | decide) hB75 hB76) (cwV 4 hts g_q_slope0_1 rfl rfl rfl (by decide +kernel) ⟨Nat.le_of_ble_eq_true rfl, Nat.le_of_ble_eq_true rfl⟩) (x_preV (q := (RX12, TX12, 85)) hK hP hD (ci := 11) (q0 := 0) rfl mwd_o0) rfl rfl hl.1 rfl (lv_room (Nat.le_of_ble_eq_true rfl)) dX12_slope_342 ⟨Nat.le_of_ble_eq_true rfl, Nat.le_of_ble_eq_true rfl⟩) hP hD hS hA (fun u H locs hw hP hD hS => ?_)
      obtain ⟨f_91, f_92⟩ := u
      try dsimp only at hw
      have hP : va_P D vwCl (mwd y ad zw (tJ (tJ (sJ (sJ (sI σ 44 n_88) 42 j_89) 43 j_90) 75 f_91) 76 f_92)) H := hP
      have hD : va_D A (mwd y ad zw (tJ (tJ (sJ (sJ (sI σ 44 n_88) 42 j_89) 43 j_90) 75 f_91) 76 f_92)) := hD
      have hw : (True) ∧ bJ f_91 (-1000000000) 1000000000 ∧ bJ f_92 0 1000000000 := hw
      obtain ⟨hw, hg_93, hg_94⟩ := hw
      exact x_vretW (u := (n_88, j_89, j_90, f_91, f_92)) hx hb hr hQ (by (try dsimp only); exact ⟨trivial, hg_93, hg_94⟩) hP hD hK hS dX12_slope_345 hlocks
  · refine lv_tableOut (tgt := 323) hx hb dX12_slope_79 g_16 (by decide) ?_
    refine lv_aload_n hx hb dX12_slope_323 rfl (lv_at hl 6 rfl) ?_
    refine lv_lload hx hb dX12_slope_324 (lv_at hl 3 rfl) ?_
    refine lv_lload hx hb dX12_slope_326 (lv_at hl 2 rfl) ?_
    refine x_callvW (va_runV (As := [.long j_5, .long j_8]) (rest := []) ⟨hx, hb, hml, hown, hts⟩ (q_comes l D y H.size ad zw σ j_5 j_8 (by first | omega | decide) (by first | omega | decide) (by first | omega | decide) (by first | omega | decide)) (cwV 2 hts g_q_slope0_5 rfl rfl rfl (by decide +kernel) ⟨Nat.le_of_ble_eq_true rfl, Nat.le_of_ble_eq_true rfl⟩) (x_preV (q := (RX12, TX12, 85)) hK hP hD (ci := 11) (q0 := 0) rfl mwd_o0) rfl rfl hl.1 rfl (lv_room (Nat.le_of_ble_eq_true rfl)) dX12_slope_328 ⟨Nat.le_of_ble_eq_true rfl, Nat.le_of_ble_eq_true rfl⟩) hP hD hS hA (fun u H locs hw hP hD hS => ?_)
    obtain ⟨n_95, j_96, j_97⟩ := u
    try dsimp only at hw
    have hP : va_P D vwCl (mwd y ad zw (sJ (sJ (sI σ 44 n_95) 42 j_96) 43 j_97)) H := hP
    have hD : va_D A (mwd y ad zw (sJ (sJ (sI σ 44 n_95) 42 j_96) 43 j_97)) := hD
    have hw : -1000000000 ≤ j_96.toInt ∧ j_96.toInt ≤ 1000000000 ∧ 0 ≤ j_97.toInt ∧ j_97.toInt ≤ 1000000000 := hw
    refine lv_aload_n hx hb dX12_slope_331 rfl (lv_at hl 6 rfl) ?_
    refine lv_iload_n hx hb dX12_slope_332 rfl (lv_at hl 8 rfl) ?_
    refine lv_iload_n hx hb dX12_slope_333 rfl (lv_at hl 7 rfl) ?_
    refine lv_aload_n hx hb dX12_slope_334 rfl (lv_at hl 6 rfl) ?_
    refine va_get (D := D) (ci := 11) (v := .long j_96) (C := RX12) (T := TX12) (N := 85) hx hb hts inX12 hown hK hP 0 mwd_o0 rfl 42 (by decide) fl387 (fun _ h9 => h9) rfl dX12_slope_335 ?_
    refine lv_aload_n hx hb dX12_slope_338 rfl (lv_at hl 6 rfl) ?_
    refine va_get (D := D) (ci := 11) (v := .long j_97) (C := RX12) (T := TX12) (N := 85) hx hb hts inX12 hown hK hP 0 mwd_o0 rfl 43 (by decide) fl391 (fun _ h9 => h9) rfl dX12_slope_339 ?_
    refine x_callvW (va_runV (As := [.int 0, .int k, .long j_96, .long j_97]) (rest := []) ⟨hx, hb, hml, hown, hts⟩ (q_lets0 l D y H.size ad zw (sJ (sJ (sI σ 44 n_95) 42 j_96) 43 j_97) k j_96 j_97 (by first | omega | decide) (by first | omega | decide) (by first | omega | decide) (by first | omega | decide) (by first | omega | decide) (by first | omega | decide) hB75 hB76) (cwV 4 hts g_q_slope0_1 rfl rfl rfl (by decide +kernel) ⟨Nat.le_of_ble_eq_true rfl, Nat.le_of_ble_eq_true rfl⟩) (x_preV (q := (RX12, TX12, 85)) hK hP hD (ci := 11) (q0 := 0) rfl mwd_o0) rfl rfl hl.1 rfl (lv_room (Nat.le_of_ble_eq_true rfl)) dX12_slope_342 ⟨Nat.le_of_ble_eq_true rfl, Nat.le_of_ble_eq_true rfl⟩) hP hD hS hA (fun u H locs hw hP hD hS => ?_)
    obtain ⟨f_98, f_99⟩ := u
    try dsimp only at hw
    have hP : va_P D vwCl (mwd y ad zw (tJ (tJ (sJ (sJ (sI σ 44 n_95) 42 j_96) 43 j_97) 75 f_98) 76 f_99)) H := hP
    have hD : va_D A (mwd y ad zw (tJ (tJ (sJ (sJ (sI σ 44 n_95) 42 j_96) 43 j_97) 75 f_98) 76 f_99)) := hD
    have hw : (True) ∧ bJ f_98 (-1000000000) 1000000000 ∧ bJ f_99 0 1000000000 := hw
    obtain ⟨hw, hg_100, hg_101⟩ := hw
    exact x_vretW (u := (n_95, j_96, j_97, f_98, f_99)) hx hb hr hQ (by (try dsimp only); exact ⟨trivial, hg_100, hg_101⟩) hP hD hK hS dX12_slope_345 hlocks

def v_q_slope1 : List Cond := .code yX12_slope cX12_slope 17 none :: ([.fieldLink RX12 133 "SlopeRunnerModel" "first" "[I", .fieldLink RX12 136 "SlopeRunnerModel" "second" "[I", .fieldLink RX12 167 "SlopeRunnerModel" "slopeUp" "[J", .fieldLink RX12 170 "SlopeRunnerModel" "slopeDown" "[J", .fieldLink RX12 130 "SlopeRunnerModel" "op" "[I", .fieldLink RX12 387 "SlopeRunnerModel" "up" "J", .fieldLink RX12 391 "SlopeRunnerModel" "down" "J", .fieldLink RX12 124 "SlopeRunnerModel" "valueAbove" "[J", .fieldLink RX12 127 "SlopeRunnerModel" "valueBelow" "[J"] ++ ((wsV RX12 424 RX12 yX12_adds v_q_adds) ++ ((wsV RX12 457 RX12 yX12_lets v_q_lets1) ++ ((wsV RX12 408 RX12 yX12_takesOff v_q_takesOff) ++ ((wsV RX12 427 RX12 yX12_multiplies v_q_multiplies) ++ ((wsV RX12 430 RX12 yX12_divides v_q_divides) ++ ((wsV RX12 400 RX12 yX12_comes v_q_comes) ++ wsX120)))))))
theorem g_q_slope1_0 : GoodIn v_q_slope1 (wsV RX12 424 RX12 yX12_adds v_q_adds) := goodIn_sub (fun w h => List.mem_cons_of_mem _ (List.mem_append_right _ (List.mem_append_left _ h))) (by decide +kernel)
theorem g_q_slope1_1 : GoodIn v_q_slope1 (wsV RX12 457 RX12 yX12_lets v_q_lets1) := goodIn_sub (fun w h => List.mem_cons_of_mem _ (List.mem_append_right _ (List.mem_append_right _ (List.mem_append_left _ h)))) (by decide +kernel)
theorem g_q_slope1_2 : GoodIn v_q_slope1 (wsV RX12 408 RX12 yX12_takesOff v_q_takesOff) := goodIn_sub (fun w h => List.mem_cons_of_mem _ (List.mem_append_right _ (List.mem_append_right _ (List.mem_append_right _ (List.mem_append_left _ h))))) (by decide +kernel)
theorem g_q_slope1_3 : GoodIn v_q_slope1 (wsV RX12 427 RX12 yX12_multiplies v_q_multiplies) := goodIn_sub (fun w h => List.mem_cons_of_mem _ (List.mem_append_right _ (List.mem_append_right _ (List.mem_append_right _ (List.mem_append_right _ (List.mem_append_left _ h)))))) (by decide +kernel)
theorem g_q_slope1_4 : GoodIn v_q_slope1 (wsV RX12 430 RX12 yX12_divides v_q_divides) := goodIn_sub (fun w h => List.mem_cons_of_mem _ (List.mem_append_right _ (List.mem_append_right _ (List.mem_append_right _ (List.mem_append_right _ (List.mem_append_right _ (List.mem_append_left _ h))))))) (by decide +kernel)
theorem g_q_slope1_5 : GoodIn v_q_slope1 (wsV RX12 400 RX12 yX12_comes v_q_comes) := goodIn_sub (fun w h => List.mem_cons_of_mem _ (List.mem_append_right _ (List.mem_append_right _ (List.mem_append_right _ (List.mem_append_right _ (List.mem_append_right _ (List.mem_append_right _ (List.mem_append_left _ h)))))))) (by decide +kernel)
set_option maxHeartbeats 4000000 in
set_option maxRecDepth 100000 in
theorem q_slope1 (l : Launch) (D : va_G) (y : Nat → ClassId) (sz : Nat) (ad : Nat → Nat) (zw : Nat → Nat → Int32) (σ : OS) (k : Int32) (hk0 : 0 ≤ k.toInt) (hk1 : k.toInt < 1760) (hne : σ.2.2.1 59 (Int32.toNatClampNeg k) ≠ 0) (hop : opc (σ.2.2.1 59) (σ.2.2.1 60) (σ.2.2.1 61)) (hB75 : bJ (σ.2.2.2 75) (-1000000000) 1000000000) (hB76 : bJ (σ.2.2.2 76) 0 1000000000) (hB57 : bJ (σ.2.2.2 57) (-1000000000) 1000000000) (hB58 : bJ (σ.2.2.2 58) 0 1000000000) : Met l yX12_slope v_q_slope1 ({ frames := 4, cells := 0, slots := 0, locals := 108 } : Room) (va_Pc [.ref (ad 1), .int k, .int 1] (xPre D (xT y) (mwd y ad zw σ) sz)) (va_Qv (fun (u : Int32 × Int64 × Int64 × (Nat → Int64) × (Nat → Int64)) => (True) ∧ bJ u.2.2.2.1 (-1000000000) 1000000000 ∧ bJ u.2.2.2.2 0 1000000000) (fun (u : Int32 × Int64 × Int64 × (Nat → Int64) × (Nat → Int64)) => xB D (xT y) (va_A (mwd y ad zw σ) sz) (mwd y ad zw (tJ (tJ (sJ (sJ (sI σ 44 u.1) 42 u.2.1) 43 u.2.2.1) 75 u.2.2.2.1) 76 u.2.2.2.2))) (va_A (mwd y ad zw σ) sz)) 0 0 (va_A (mwd y ad zw σ) sz) := by
  refine x_metv (cc := cX12_slope) (maxL := 17) (by decide) rfl (Nat.le_of_ble_eq_true rfl) ?_
  intro p e s m below meth c A H locs Q hx hb hml hown hts hr hlocks hmn hA hP hK hD hS ls hl hQ
  have hl : lv_has ls 17 [(0, .ref (ad 1)), (1, .int k), (2, .int 1)] := hl
  have fl133 := hts (.fieldLink RX12 133 "SlopeRunnerModel" "first" "[I") (List.mem_of_getElem? (i := 1) rfl)
  have inX12 : ∀ w ∈ wsX120, w ∈ v_q_slope1 := (fun w h => List.mem_cons_of_mem _ (List.mem_append_right _ (List.mem_append_right _ (List.mem_append_right _ (List.mem_append_right _ (List.mem_append_right _ (List.mem_append_right _ (List.mem_append_right _ h))))))))
  have fl136 := hts (.fieldLink RX12 136 "SlopeRunnerModel" "second" "[I") (List.mem_of_getElem? (i := 2) rfl)
  have fl167 := hts (.fieldLink RX12 167 "SlopeRunnerModel" "slopeUp" "[J") (List.mem_of_getElem? (i := 3) rfl)
  have kk_1760 : (1760 : Int32).toInt = 1760 := rfl
  have fl170 := hts (.fieldLink RX12 170 "SlopeRunnerModel" "slopeDown" "[J") (List.mem_of_getElem? (i := 4) rfl)
  have fl130 := hts (.fieldLink RX12 130 "SlopeRunnerModel" "op" "[I") (List.mem_of_getElem? (i := 5) rfl)
  have fl387 := hts (.fieldLink RX12 387 "SlopeRunnerModel" "up" "J") (List.mem_of_getElem? (i := 6) rfl)
  have fl391 := hts (.fieldLink RX12 391 "SlopeRunnerModel" "down" "J") (List.mem_of_getElem? (i := 7) rfl)
  have kk_1 : (1 : Int32).toInt = 1 := rfl
  have fl124 := hts (.fieldLink RX12 124 "SlopeRunnerModel" "valueAbove" "[J") (List.mem_of_getElem? (i := 8) rfl)
  have fl127 := hts (.fieldLink RX12 127 "SlopeRunnerModel" "valueBelow" "[J") (List.mem_of_getElem? (i := 9) rfl)
  have kl_0 : (0 : Int64).toInt = 0 := rfl
  have kl_1 : (1 : Int64).toInt = 1 := rfl
  refine lv_aload_n hx hb dX12_slope_0 rfl (lv_at hl 0 rfl) ?_
  refine va_get (D := D) (ci := 11) (v := .ref (ad 60)) (C := RX12) (T := TX12) (N := 85) hx hb hts inX12 hown hK hP 0 mwd_o0 rfl 60 (by decide) fl133 (fun _ h9 => h9) rfl dX12_slope_1 ?_
  refine lv_iload_n hx hb dX12_slope_4 rfl (lv_at hl 1 rfl) ?_
  refine va_iald hx hb hK hP 40 2 mwd_a40 rfl (x_in (by omega) (by omega)) dX12_slope_5 ?_
  refine lv_topi (fun i_1 ei_1 => ?_)
  have ei_1 : i_1 = (σ.2.2.1 60) (Int32.toNatClampNeg k) := ei_1
  have gi_1 := opc_1 hop hne ei_1
  refine lv_istore_n (lv' := [(3, .int i_1), (0, .ref (ad 1)), (1, .int k), (2, .int 1)]) hx hb dX12_slope_6 rfl hl (by decide) rfl (fun ls hl => ?_)
  refine lv_aload_n hx hb dX12_slope_7 rfl (lv_at hl 1 rfl) ?_
  refine va_get (D := D) (ci := 11) (v := .ref (ad 61)) (C := RX12) (T := TX12) (N := 85) hx hb hts inX12 hown hK hP 0 mwd_o0 rfl 61 (by decide) fl136 (fun _ h9 => h9) rfl dX12_slope_8 ?_
  refine lv_iload_n hx hb dX12_slope_11 rfl (lv_at hl 2 rfl) ?_
  refine va_iald hx hb hK hP 41 2 mwd_a41 rfl (x_in (by omega) (by omega)) dX12_slope_12 ?_
  refine lv_topi (fun i_2 ei_2 => ?_)
  have ei_2 : i_2 = (σ.2.2.1 61) (Int32.toNatClampNeg k) := ei_2
  have gi_2 := opc_2 hop hne ei_2
  refine lv_istore (lv' := [(4, .int i_2), (3, .int i_1), (0, .ref (ad 1)), (1, .int k), (2, .int 1)]) hx hb dX12_slope_13 hl (by decide) rfl (fun ls hl => ?_)
  refine lv_aload_n hx hb dX12_slope_15 rfl (lv_at hl 2 rfl) ?_
  refine va_get (D := D) (ci := 11) (v := .ref (ad 75)) (C := RX12) (T := TX12) (N := 85) hx hb hts inX12 hown hK hP 0 mwd_o0 rfl 75 (by decide) fl167 (fun _ h9 => h9) rfl dX12_slope_16 ?_
  refine lv_sipush (v := 1760) hx hb dX12_slope_19 (by decide) ?_
  refine lv_iload_n hx hb dX12_slope_22 rfl (lv_at hl 4 rfl) ?_
  refine lv_imul hx hb dX12_slope_23 ?_
  refine lv_topi (fun i_3 ei_3 => ?_)
  obtain rfl : i_3 = 1760 := ei_3.trans (by decide)
  refine lv_iload_n hx hb dX12_slope_24 rfl (lv_at hl 1 rfl) ?_
  refine lv_iadd hx hb dX12_slope_25 ?_
  refine lv_topi (fun i_4 ei_4 => ?_)
  have vi_4 : i_4.toInt = 1760 + i_1.toInt := by have h9 := x_add ei_4 (by omega) (by omega); omega
  refine va_lald hx hb hK hP 51 3 mwd_a51 rfl (x_in (by omega) (by omega)) dX12_slope_26 ?_
  refine lv_topl (fun j_5 ej_5 => ?_)
  have ej_5 : j_5 = (σ.2.2.2 75) (Int32.toNatClampNeg i_4) := ej_5
  have bj_5 := b_atJ hB75 ej_5
  refine lv_lstore (lv' := [(5, .long j_5), (4, .int i_2), (3, .int i_1), (0, .ref (ad 1)), (1, .int k), (2, .int 1)]) hx hb dX12_slope_27 hl (by decide) rfl (fun ls hl => ?_)
  refine lv_aload_n hx hb dX12_slope_29 rfl (lv_at hl 3 rfl) ?_
  refine va_get (D := D) (ci := 11) (v := .ref (ad 76)) (C := RX12) (T := TX12) (N := 85) hx hb hts inX12 hown hK hP 0 mwd_o0 rfl 76 (by decide) fl170 (fun _ h9 => h9) rfl dX12_slope_30 ?_
  refine lv_sipush (v := 1760) hx hb dX12_slope_33 (by decide) ?_
  refine lv_iload_n hx hb dX12_slope_36 rfl (lv_at hl 5 rfl) ?_
  refine lv_imul hx hb dX12_slope_37 ?_
  refine lv_topi (fun i_6 ei_6 => ?_)
  obtain rfl : i_6 = 1760 := ei_6.trans (by decide)
  refine lv_iload_n hx hb dX12_slope_38 rfl (lv_at hl 2 rfl) ?_
  refine lv_iadd hx hb dX12_slope_39 ?_
  refine lv_topi (fun i_7 ei_7 => ?_)
  have vi_7 : i_7.toInt = 1760 + i_1.toInt := by have h9 := x_add ei_7 (by omega) (by omega); omega
  refine va_lald hx hb hK hP 52 3 mwd_a52 rfl (x_in (by omega) (by omega)) dX12_slope_40 ?_
  refine lv_topl (fun j_8 ej_8 => ?_)
  have ej_8 : j_8 = (σ.2.2.2 76) (Int32.toNatClampNeg i_7) := ej_8
  have bj_8 := b_atJ hB76 ej_8
  refine lv_lstore (lv' := [(7, .long j_8), (5, .long j_5), (4, .int i_2), (3, .int i_1), (0, .ref (ad 1)), (1, .int k), (2, .int 1)]) hx hb dX12_slope_41 hl (by decide) rfl (fun ls hl => ?_)
  refine lv_aload_n hx hb dX12_slope_43 rfl (lv_at hl 4 rfl) ?_
  refine va_get (D := D) (ci := 11) (v := .ref (ad 75)) (C := RX12) (T := TX12) (N := 85) hx hb hts inX12 hown hK hP 0 mwd_o0 rfl 75 (by decide) fl167 (fun _ h9 => h9) rfl dX12_slope_44 ?_
  refine lv_sipush (v := 1760) hx hb dX12_slope_47 (by decide) ?_
  refine lv_iload_n hx hb dX12_slope_50 rfl (lv_at hl 6 rfl) ?_
  refine lv_imul hx hb dX12_slope_51 ?_
  refine lv_topi (fun i_9 ei_9 => ?_)
  obtain rfl : i_9 = 1760 := ei_9.trans (by decide)
  refine lv_iload hx hb dX12_slope_52 (lv_at hl 2 rfl) ?_
  refine lv_iadd hx hb dX12_slope_54 ?_
  refine lv_topi (fun i_10 ei_10 => ?_)
  have vi_10 : i_10.toInt = 1760 + i_2.toInt := by have h9 := x_add ei_10 (by omega) (by omega); omega
  refine va_lald hx hb hK hP 51 3 mwd_a51 rfl (x_in (by omega) (by omega)) dX12_slope_55 ?_
  refine lv_topl (fun j_11 ej_11 => ?_)
  have ej_11 : j_11 = (σ.2.2.2 75) (Int32.toNatClampNeg i_10) := ej_11
  have bj_11 := b_atJ hB75 ej_11
  refine lv_lstore (lv' := [(9, .long j_11), (7, .long j_8), (5, .long j_5), (4, .int i_2), (3, .int i_1), (0, .ref (ad 1)), (1, .int k), (2, .int 1)]) hx hb dX12_slope_56 hl (by decide) rfl (fun ls hl => ?_)
  refine lv_aload_n hx hb dX12_slope_58 rfl (lv_at hl 5 rfl) ?_
  refine va_get (D := D) (ci := 11) (v := .ref (ad 76)) (C := RX12) (T := TX12) (N := 85) hx hb hts inX12 hown hK hP 0 mwd_o0 rfl 76 (by decide) fl170 (fun _ h9 => h9) rfl dX12_slope_59 ?_
  refine lv_sipush (v := 1760) hx hb dX12_slope_62 (by decide) ?_
  refine lv_iload_n hx hb dX12_slope_65 rfl (lv_at hl 7 rfl) ?_
  refine lv_imul hx hb dX12_slope_66 ?_
  refine lv_topi (fun i_12 ei_12 => ?_)
  obtain rfl : i_12 = 1760 := ei_12.trans (by decide)
  refine lv_iload hx hb dX12_slope_67 (lv_at hl 3 rfl) ?_
  refine lv_iadd hx hb dX12_slope_69 ?_
  refine lv_topi (fun i_13 ei_13 => ?_)
  have vi_13 : i_13.toInt = 1760 + i_2.toInt := by have h9 := x_add ei_13 (by omega) (by omega); omega
  refine va_lald hx hb hK hP 52 3 mwd_a52 rfl (x_in (by omega) (by omega)) dX12_slope_70 ?_
  refine lv_topl (fun j_14 ej_14 => ?_)
  have ej_14 : j_14 = (σ.2.2.2 76) (Int32.toNatClampNeg i_13) := ej_14
  have bj_14 := b_atJ hB76 ej_14
  refine lv_lstore (lv' := [(11, .long j_14), (9, .long j_11), (7, .long j_8), (5, .long j_5), (4, .int i_2), (3, .int i_1), (0, .ref (ad 1)), (1, .int k), (2, .int 1)]) hx hb dX12_slope_71 hl (by decide) rfl (fun ls hl => ?_)
  refine lv_aload_n hx hb dX12_slope_73 rfl (lv_at hl 6 rfl) ?_
  refine va_get (D := D) (ci := 11) (v := .ref (ad 59)) (C := RX12) (T := TX12) (N := 85) hx hb hts inX12 hown hK hP 0 mwd_o0 rfl 59 (by decide) fl130 (fun _ h9 => h9) rfl dX12_slope_74 ?_
  refine lv_iload_n hx hb dX12_slope_77 rfl (lv_at hl 7 rfl) ?_
  refine va_iald hx hb hK hP 39 2 mwd_a39 rfl (x_in (by omega) (by omega)) dX12_slope_78 ?_
  refine lv_topi (fun i_15 ei_15 => ?_)
  have ei_15 : i_15 = (σ.2.2.1 59) (Int32.toNatClampNeg k) := ei_15
  rcases (show i_15 = 1 ∨ i_15 = 2 ∨ i_15 = 3 ∨ i_15 = 4 ∨ i_15 = 5 ∨ i_15 = 6 ∨ i_15 = 7 ∨ (i_15.toInt < 1 ∨ 7 < i_15.toInt) by simp only [x_eq, Int32.reduceToInt]; omega) with rfl | rfl | rfl | rfl | rfl | rfl | rfl | g_16
  · refine lv_tableIn (tgt := 120) hx hb dX12_slope_79 (by decide) (by decide) rfl (by decide) ?_
    refine lv_aload_n hx hb dX12_slope_120 rfl (lv_at hl 6 rfl) ?_
    refine lv_lload hx hb dX12_slope_121 (lv_at hl 3 rfl) ?_
    refine lv_lload hx hb dX12_slope_123 (lv_at hl 2 rfl) ?_
    refine lv_lload hx hb dX12_slope_125 (lv_at hl 1 rfl) ?_
    refine lv_lload hx hb dX12_slope_127 (lv_at hl 0 rfl) ?_
    refine x_callvW (va_runV (As := [.long j_5, .long j_8, .long j_11, .long j_14]) (rest := []) ⟨hx, hb, hml, hown, hts⟩ (q_adds l D y H.size ad zw σ j_5 j_8 j_11 j_14 (by first | omega | decide) (by first | omega | decide) (by first | omega | decide) (by first | omega | decide) (by first | omega | decide) (by first | omega | decide) (by first | omega | decide) (by first | omega | decide)) (cwV 4 hts g_q_slope1_0 rfl rfl rfl (by decide +kernel) ⟨Nat.le_of_ble_eq_true rfl, Nat.le_of_ble_eq_true rfl⟩) (x_preV (q := (RX12, TX12, 85)) hK hP hD (ci := 11) (q0 := 0) rfl mwd_o0) rfl rfl hl.1 rfl (lv_room (Nat.le_of_ble_eq_true rfl)) dX12_slope_129 ⟨Nat.le_of_ble_eq_true rfl, Nat.le_of_ble_eq_true rfl⟩) hP hD hS hA (fun u H locs hw hP hD hS => ?_)
    obtain ⟨n_17, j_18, j_19⟩ := u
    try dsimp only at hw
    have hP : va_P D vwCl (mwd y ad zw (sJ (sJ (sI σ 44 n_17) 42 j_18) 43 j_19)) H := hP
    have hD : va_D A (mwd y ad zw (sJ (sJ (sI σ 44 n_17) 42 j_18) 43 j_19)) := hD
    have hw : -1000000000 ≤ j_18.toInt ∧ j_18.toInt ≤ 1000000000 ∧ 0 ≤ j_19.toInt ∧ j_19.toInt ≤ 1000000000 := hw
    refine lv_goto (tgt := 331) hx hb dX12_slope_132 (by decide) ?_
    refine lv_aload_n hx hb dX12_slope_331 rfl (lv_at hl 6 rfl) ?_
    refine lv_iload_n hx hb dX12_slope_332 rfl (lv_at hl 8 rfl) ?_
    refine lv_iload_n hx hb dX12_slope_333 rfl (lv_at hl 7 rfl) ?_
    refine lv_aload_n hx hb dX12_slope_334 rfl (lv_at hl 6 rfl) ?_
    refine va_get (D := D) (ci := 11) (v := .long j_18) (C := RX12) (T := TX12) (N := 85) hx hb hts inX12 hown hK hP 0 mwd_o0 rfl 42 (by decide) fl387 (fun _ h9 => h9) rfl dX12_slope_335 ?_
    refine lv_aload_n hx hb dX12_slope_338 rfl (lv_at hl 6 rfl) ?_
    refine va_get (D := D) (ci := 11) (v := .long j_19) (C := RX12) (T := TX12) (N := 85) hx hb hts inX12 hown hK hP 0 mwd_o0 rfl 43 (by decide) fl391 (fun _ h9 => h9) rfl dX12_slope_339 ?_
    refine x_callvW (va_runV (As := [.int 1, .int k, .long j_18, .long j_19]) (rest := []) ⟨hx, hb, hml, hown, hts⟩ (q_lets1 l D y H.size ad zw (sJ (sJ (sI σ 44 n_17) 42 j_18) 43 j_19) k j_18 j_19 (by first | omega | decide) (by first | omega | decide) (by first | omega | decide) (by first | omega | decide) (by first | omega | decide) (by first | omega | decide) hB75 hB76) (cwV 4 hts g_q_slope1_1 rfl rfl rfl (by decide +kernel) ⟨Nat.le_of_ble_eq_true rfl, Nat.le_of_ble_eq_true rfl⟩) (x_preV (q := (RX12, TX12, 85)) hK hP hD (ci := 11) (q0 := 0) rfl mwd_o0) rfl rfl hl.1 rfl (lv_room (Nat.le_of_ble_eq_true rfl)) dX12_slope_342 ⟨Nat.le_of_ble_eq_true rfl, Nat.le_of_ble_eq_true rfl⟩) hP hD hS hA (fun u H locs hw hP hD hS => ?_)
    obtain ⟨f_20, f_21⟩ := u
    try dsimp only at hw
    have hP : va_P D vwCl (mwd y ad zw (tJ (tJ (sJ (sJ (sI σ 44 n_17) 42 j_18) 43 j_19) 75 f_20) 76 f_21)) H := hP
    have hD : va_D A (mwd y ad zw (tJ (tJ (sJ (sJ (sI σ 44 n_17) 42 j_18) 43 j_19) 75 f_20) 76 f_21)) := hD
    have hw : (True) ∧ bJ f_20 (-1000000000) 1000000000 ∧ bJ f_21 0 1000000000 := hw
    obtain ⟨hw, hg_22, hg_23⟩ := hw
    exact x_vretW (u := (n_17, j_18, j_19, f_20, f_21)) hx hb hr hQ (by (try dsimp only); exact ⟨trivial, hg_22, hg_23⟩) hP hD hK hS dX12_slope_345 hlocks
  · refine lv_tableIn (tgt := 135) hx hb dX12_slope_79 (by decide) (by decide) rfl (by decide) ?_
    refine lv_aload_n hx hb dX12_slope_135 rfl (lv_at hl 6 rfl) ?_
    refine lv_lload hx hb dX12_slope_136 (lv_at hl 3 rfl) ?_
    refine lv_lload hx hb dX12_slope_138 (lv_at hl 2 rfl) ?_
    refine lv_lload hx hb dX12_slope_140 (lv_at hl 1 rfl) ?_
    refine lv_lload hx hb dX12_slope_142 (lv_at hl 0 rfl) ?_
    refine x_callvW (va_runV (As := [.long j_5, .long j_8, .long j_11, .long j_14]) (rest := []) ⟨hx, hb, hml, hown, hts⟩ (q_takesOff l D y H.size ad zw σ j_5 j_8 j_11 j_14 (by first | omega | decide) (by first | omega | decide) (by first | omega | decide) (by first | omega | decide) (by first | omega | decide) (by first | omega | decide) (by first | omega | decide) (by first | omega | decide)) (cwV 4 hts g_q_slope1_2 rfl rfl rfl (by decide +kernel) ⟨Nat.le_of_ble_eq_true rfl, Nat.le_of_ble_eq_true rfl⟩) (x_preV (q := (RX12, TX12, 85)) hK hP hD (ci := 11) (q0 := 0) rfl mwd_o0) rfl rfl hl.1 rfl (lv_room (Nat.le_of_ble_eq_true rfl)) dX12_slope_144 ⟨Nat.le_of_ble_eq_true rfl, Nat.le_of_ble_eq_true rfl⟩) hP hD hS hA (fun u H locs hw hP hD hS => ?_)
    obtain ⟨n_24, j_25, j_26⟩ := u
    try dsimp only at hw
    have hP : va_P D vwCl (mwd y ad zw (sJ (sJ (sI σ 44 n_24) 42 j_25) 43 j_26)) H := hP
    have hD : va_D A (mwd y ad zw (sJ (sJ (sI σ 44 n_24) 42 j_25) 43 j_26)) := hD
    have hw : -1000000000 ≤ j_25.toInt ∧ j_25.toInt ≤ 1000000000 ∧ 0 ≤ j_26.toInt ∧ j_26.toInt ≤ 1000000000 := hw
    refine lv_goto (tgt := 331) hx hb dX12_slope_147 (by decide) ?_
    refine lv_aload_n hx hb dX12_slope_331 rfl (lv_at hl 6 rfl) ?_
    refine lv_iload_n hx hb dX12_slope_332 rfl (lv_at hl 8 rfl) ?_
    refine lv_iload_n hx hb dX12_slope_333 rfl (lv_at hl 7 rfl) ?_
    refine lv_aload_n hx hb dX12_slope_334 rfl (lv_at hl 6 rfl) ?_
    refine va_get (D := D) (ci := 11) (v := .long j_25) (C := RX12) (T := TX12) (N := 85) hx hb hts inX12 hown hK hP 0 mwd_o0 rfl 42 (by decide) fl387 (fun _ h9 => h9) rfl dX12_slope_335 ?_
    refine lv_aload_n hx hb dX12_slope_338 rfl (lv_at hl 6 rfl) ?_
    refine va_get (D := D) (ci := 11) (v := .long j_26) (C := RX12) (T := TX12) (N := 85) hx hb hts inX12 hown hK hP 0 mwd_o0 rfl 43 (by decide) fl391 (fun _ h9 => h9) rfl dX12_slope_339 ?_
    refine x_callvW (va_runV (As := [.int 1, .int k, .long j_25, .long j_26]) (rest := []) ⟨hx, hb, hml, hown, hts⟩ (q_lets1 l D y H.size ad zw (sJ (sJ (sI σ 44 n_24) 42 j_25) 43 j_26) k j_25 j_26 (by first | omega | decide) (by first | omega | decide) (by first | omega | decide) (by first | omega | decide) (by first | omega | decide) (by first | omega | decide) hB75 hB76) (cwV 4 hts g_q_slope1_1 rfl rfl rfl (by decide +kernel) ⟨Nat.le_of_ble_eq_true rfl, Nat.le_of_ble_eq_true rfl⟩) (x_preV (q := (RX12, TX12, 85)) hK hP hD (ci := 11) (q0 := 0) rfl mwd_o0) rfl rfl hl.1 rfl (lv_room (Nat.le_of_ble_eq_true rfl)) dX12_slope_342 ⟨Nat.le_of_ble_eq_true rfl, Nat.le_of_ble_eq_true rfl⟩) hP hD hS hA (fun u H locs hw hP hD hS => ?_)
    obtain ⟨f_27, f_28⟩ := u
    try dsimp only at hw
    have hP : va_P D vwCl (mwd y ad zw (tJ (tJ (sJ (sJ (sI σ 44 n_24) 42 j_25) 43 j_26) 75 f_27) 76 f_28)) H := hP
    have hD : va_D A (mwd y ad zw (tJ (tJ (sJ (sJ (sI σ 44 n_24) 42 j_25) 43 j_26) 75 f_27) 76 f_28)) := hD
    have hw : (True) ∧ bJ f_27 (-1000000000) 1000000000 ∧ bJ f_28 0 1000000000 := hw
    obtain ⟨hw, hg_29, hg_30⟩ := hw
    exact x_vretW (u := (n_24, j_25, j_26, f_27, f_28)) hx hb hr hQ (by (try dsimp only); exact ⟨trivial, hg_29, hg_30⟩) hP hD hK hS dX12_slope_345 hlocks
  · refine lv_tableIn (tgt := 150) hx hb dX12_slope_79 (by decide) (by decide) rfl (by decide) ?_
    refine lv_aload_n hx hb dX12_slope_150 rfl (lv_at hl 6 rfl) ?_
    refine lv_lload hx hb dX12_slope_151 (lv_at hl 3 rfl) ?_
    refine lv_lload hx hb dX12_slope_153 (lv_at hl 2 rfl) ?_
    refine lv_aload_n hx hb dX12_slope_155 rfl (lv_at hl 6 rfl) ?_
    refine va_get (D := D) (ci := 11) (v := .ref (ad 57)) (C := RX12) (T := TX12) (N := 85) hx hb hts inX12 hown hK hP 0 mwd_o0 rfl 57 (by decide) fl124 (fun _ h9 => h9) rfl dX12_slope_156 ?_
    refine lv_iload hx hb dX12_slope_159 (lv_at hl 4 rfl) ?_
    refine va_lald hx hb hK hP 37 3 mwd_a37 rfl (x_in (by omega) (by omega)) dX12_slope_161 ?_
    refine lv_topl (fun j_31 ej_31 => ?_)
    have ej_31 : j_31 = (σ.2.2.2 57) (Int32.toNatClampNeg i_2) := ej_31
    have bj_31 := b_atJ hB57 ej_31
    refine lv_aload_n hx hb dX12_slope_162 rfl (lv_at hl 6 rfl) ?_
    refine va_get (D := D) (ci := 11) (v := .ref (ad 58)) (C := RX12) (T := TX12) (N := 85) hx hb hts inX12 hown hK hP 0 mwd_o0 rfl 58 (by decide) fl127 (fun _ h9 => h9) rfl dX12_slope_163 ?_
    refine lv_iload hx hb dX12_slope_166 (lv_at hl 4 rfl) ?_
    refine va_lald hx hb hK hP 38 3 mwd_a38 rfl (x_in (by omega) (by omega)) dX12_slope_168 ?_
    refine lv_topl (fun j_32 ej_32 => ?_)
    have ej_32 : j_32 = (σ.2.2.2 58) (Int32.toNatClampNeg i_2) := ej_32
    have bj_32 := b_atJ hB58 ej_32
    refine x_callvW (va_runV (As := [.long j_5, .long j_8, .long j_31, .long j_32]) (rest := []) ⟨hx, hb, hml, hown, hts⟩ (q_multiplies l D y H.size ad zw σ j_5 j_8 j_31 j_32 (by first | omega | decide) (by first | omega | decide) (by first | omega | decide) (by first | omega | decide) (by first | omega | decide) (by first | omega | decide) (by first | omega | decide) (by first | omega | decide)) (cwV 4 hts g_q_slope1_3 rfl rfl rfl (by decide +kernel) ⟨Nat.le_of_ble_eq_true rfl, Nat.le_of_ble_eq_true rfl⟩) (x_preV (q := (RX12, TX12, 85)) hK hP hD (ci := 11) (q0 := 0) rfl mwd_o0) rfl rfl hl.1 rfl (lv_room (Nat.le_of_ble_eq_true rfl)) dX12_slope_169 ⟨Nat.le_of_ble_eq_true rfl, Nat.le_of_ble_eq_true rfl⟩) hP hD hS hA (fun u H locs hw hP hD hS => ?_)
    obtain ⟨n_33, j_34, j_35⟩ := u
    try dsimp only at hw
    have hP : va_P D vwCl (mwd y ad zw (sJ (sJ (sI σ 44 n_33) 42 j_34) 43 j_35)) H := hP
    have hD : va_D A (mwd y ad zw (sJ (sJ (sI σ 44 n_33) 42 j_34) 43 j_35)) := hD
    have hw : -1000000000 ≤ j_34.toInt ∧ j_34.toInt ≤ 1000000000 ∧ 0 ≤ j_35.toInt ∧ j_35.toInt ≤ 1000000000 := hw
    refine lv_aload_n hx hb dX12_slope_172 rfl (lv_at hl 6 rfl) ?_
    refine va_get (D := D) (ci := 11) (v := .long j_34) (C := RX12) (T := TX12) (N := 85) hx hb hts inX12 hown hK hP 0 mwd_o0 rfl 42 (by decide) fl387 (fun _ h9 => h9) rfl dX12_slope_173 ?_
    refine lv_lstore (lv' := [(13, .long j_34), (11, .long j_14), (9, .long j_11), (7, .long j_8), (5, .long j_5), (4, .int i_2), (3, .int i_1), (0, .ref (ad 1)), (1, .int k), (2, .int 1)]) hx hb dX12_slope_176 hl (by decide) rfl (fun ls hl => ?_)
    refine lv_aload_n hx hb dX12_slope_178 rfl (lv_at hl 7 rfl) ?_
    refine va_get (D := D) (ci := 11) (v := .long j_35) (C := RX12) (T := TX12) (N := 85) hx hb hts inX12 hown hK hP 0 mwd_o0 rfl 43 (by decide) fl391 (fun _ h9 => h9) rfl dX12_slope_179 ?_
    refine lv_lstore (lv' := [(15, .long j_35), (13, .long j_34), (11, .long j_14), (9, .long j_11), (7, .long j_8), (5, .long j_5), (4, .int i_2), (3, .int i_1), (0, .ref (ad 1)), (1, .int k), (2, .int 1)]) hx hb dX12_slope_182 hl (by decide) rfl (fun ls hl => ?_)
    refine lv_aload_n hx hb dX12_slope_184 rfl (lv_at hl 8 rfl) ?_
    refine lv_aload_n hx hb dX12_slope_185 rfl (lv_at hl 8 rfl) ?_
    refine va_get (D := D) (ci := 11) (v := .ref (ad 57)) (C := RX12) (T := TX12) (N := 85) hx hb hts inX12 hown hK hP 0 mwd_o0 rfl 57 (by decide) fl124 (fun _ h9 => h9) rfl dX12_slope_186 ?_
    refine lv_iload_n hx hb dX12_slope_189 rfl (lv_at hl 7 rfl) ?_
    refine va_lald hx hb hK hP 37 3 mwd_a37 rfl (x_in (by omega) (by omega)) dX12_slope_190 ?_
    refine lv_topl (fun j_36 ej_36 => ?_)
    have ej_36 : j_36 = (σ.2.2.2 57) (Int32.toNatClampNeg i_1) := ej_36
    have bj_36 := b_atJ hB57 ej_36
    refine lv_aload_n hx hb dX12_slope_191 rfl (lv_at hl 8 rfl) ?_
    refine va_get (D := D) (ci := 11) (v := .ref (ad 58)) (C := RX12) (T := TX12) (N := 85) hx hb hts inX12 hown hK hP 0 mwd_o0 rfl 58 (by decide) fl127 (fun _ h9 => h9) rfl dX12_slope_192 ?_
    refine lv_iload_n hx hb dX12_slope_195 rfl (lv_at hl 7 rfl) ?_
    refine va_lald hx hb hK hP 38 3 mwd_a38 rfl (x_in (by omega) (by omega)) dX12_slope_196 ?_
    refine lv_topl (fun j_37 ej_37 => ?_)
    have ej_37 : j_37 = (σ.2.2.2 58) (Int32.toNatClampNeg i_1) := ej_37
    have bj_37 := b_atJ hB58 ej_37
    refine lv_lload hx hb dX12_slope_197 (lv_at hl 3 rfl) ?_
    refine lv_lload hx hb dX12_slope_199 (lv_at hl 2 rfl) ?_
    refine x_callvW (va_runV (As := [.long j_36, .long j_37, .long j_11, .long j_14]) (rest := []) ⟨hx, hb, hml, hown, hts⟩ (q_multiplies l D y H.size ad zw (sJ (sJ (sI σ 44 n_33) 42 j_34) 43 j_35) j_36 j_37 j_11 j_14 (by first | omega | decide) (by first | omega | decide) (by first | omega | decide) (by first | omega | decide) (by first | omega | decide) (by first | omega | decide) (by first | omega | decide) (by first | omega | decide)) (cwV 4 hts g_q_slope1_3 rfl rfl rfl (by decide +kernel) ⟨Nat.le_of_ble_eq_true rfl, Nat.le_of_ble_eq_true rfl⟩) (x_preV (q := (RX12, TX12, 85)) hK hP hD (ci := 11) (q0 := 0) rfl mwd_o0) rfl rfl hl.1 rfl (lv_room (Nat.le_of_ble_eq_true rfl)) dX12_slope_201 ⟨Nat.le_of_ble_eq_true rfl, Nat.le_of_ble_eq_true rfl⟩) hP hD hS hA (fun u H locs hw hP hD hS => ?_)
    obtain ⟨n_38, j_39, j_40⟩ := u
    try dsimp only at hw
    have hP : va_P D vwCl (mwd y ad zw (sJ (sJ (sI (sJ (sJ (sI σ 44 n_33) 42 j_34) 43 j_35) 44 n_38) 42 j_39) 43 j_40)) H := hP
    have hD : va_D A (mwd y ad zw (sJ (sJ (sI (sJ (sJ (sI σ 44 n_33) 42 j_34) 43 j_35) 44 n_38) 42 j_39) 43 j_40)) := hD
    have hw : -1000000000 ≤ j_39.toInt ∧ j_39.toInt ≤ 1000000000 ∧ 0 ≤ j_40.toInt ∧ j_40.toInt ≤ 1000000000 := hw
    refine lv_aload_n hx hb dX12_slope_204 rfl (lv_at hl 8 rfl) ?_
    refine lv_lload hx hb dX12_slope_205 (lv_at hl 1 rfl) ?_
    refine lv_lload hx hb dX12_slope_207 (lv_at hl 0 rfl) ?_
    refine lv_aload_n hx hb dX12_slope_209 rfl (lv_at hl 8 rfl) ?_
    refine va_get (D := D) (ci := 11) (v := .long j_39) (C := RX12) (T := TX12) (N := 85) hx hb hts inX12 hown hK hP 0 mwd_o0 rfl 42 (by decide) fl387 (fun _ h9 => h9) rfl dX12_slope_210 ?_
    refine lv_aload_n hx hb dX12_slope_213 rfl (lv_at hl 8 rfl) ?_
    refine va_get (D := D) (ci := 11) (v := .long j_40) (C := RX12) (T := TX12) (N := 85) hx hb hts inX12 hown hK hP 0 mwd_o0 rfl 43 (by decide) fl391 (fun _ h9 => h9) rfl dX12_slope_214 ?_
    refine x_callvW (va_runV (As := [.long j_34, .long j_35, .long j_39, .long j_40]) (rest := []) ⟨hx, hb, hml, hown, hts⟩ (q_adds l D y H.size ad zw (sJ (sJ (sI (sJ (sJ (sI σ 44 n_33) 42 j_34) 43 j_35) 44 n_38) 42 j_39) 43 j_40) j_34 j_35 j_39 j_40 (by first | omega | decide) (by first | omega | decide) (by first | omega | decide) (by first | omega | decide) (by first | omega | decide) (by first | omega | decide) (by first | omega | decide) (by first | omega | decide)) (cwV 4 hts g_q_slope1_0 rfl rfl rfl (by decide +kernel) ⟨Nat.le_of_ble_eq_true rfl, Nat.le_of_ble_eq_true rfl⟩) (x_preV (q := (RX12, TX12, 85)) hK hP hD (ci := 11) (q0 := 0) rfl mwd_o0) rfl rfl hl.1 rfl (lv_room (Nat.le_of_ble_eq_true rfl)) dX12_slope_217 ⟨Nat.le_of_ble_eq_true rfl, Nat.le_of_ble_eq_true rfl⟩) hP hD hS hA (fun u H locs hw hP hD hS => ?_)
    obtain ⟨n_41, j_42, j_43⟩ := u
    try dsimp only at hw
    have hP : va_P D vwCl (mwd y ad zw (sJ (sJ (sI (sJ (sJ (sI (sJ (sJ (sI σ 44 n_33) 42 j_34) 43 j_35) 44 n_38) 42 j_39) 43 j_40) 44 n_41) 42 j_42) 43 j_43)) H := hP
    have hD : va_D A (mwd y ad zw (sJ (sJ (sI (sJ (sJ (sI (sJ (sJ (sI σ 44 n_33) 42 j_34) 43 j_35) 44 n_38) 42 j_39) 43 j_40) 44 n_41) 42 j_42) 43 j_43)) := hD
    have hw : -1000000000 ≤ j_42.toInt ∧ j_42.toInt ≤ 1000000000 ∧ 0 ≤ j_43.toInt ∧ j_43.toInt ≤ 1000000000 := hw
    refine lv_goto (tgt := 331) hx hb dX12_slope_220 (by decide) ?_
    refine lv_aload_n hx hb dX12_slope_331 rfl (lv_at hl 8 rfl) ?_
    refine lv_iload_n hx hb dX12_slope_332 rfl (lv_at hl 10 rfl) ?_
    refine lv_iload_n hx hb dX12_slope_333 rfl (lv_at hl 9 rfl) ?_
    refine lv_aload_n hx hb dX12_slope_334 rfl (lv_at hl 8 rfl) ?_
    refine va_get (D := D) (ci := 11) (v := .long j_42) (C := RX12) (T := TX12) (N := 85) hx hb hts inX12 hown hK hP 0 mwd_o0 rfl 42 (by decide) fl387 (fun _ h9 => h9) rfl dX12_slope_335 ?_
    refine lv_aload_n hx hb dX12_slope_338 rfl (lv_at hl 8 rfl) ?_
    refine va_get (D := D) (ci := 11) (v := .long j_43) (C := RX12) (T := TX12) (N := 85) hx hb hts inX12 hown hK hP 0 mwd_o0 rfl 43 (by decide) fl391 (fun _ h9 => h9) rfl dX12_slope_339 ?_
    refine x_callvW (va_runV (As := [.int 1, .int k, .long j_42, .long j_43]) (rest := []) ⟨hx, hb, hml, hown, hts⟩ (q_lets1 l D y H.size ad zw (sJ (sJ (sI (sJ (sJ (sI (sJ (sJ (sI σ 44 n_33) 42 j_34) 43 j_35) 44 n_38) 42 j_39) 43 j_40) 44 n_41) 42 j_42) 43 j_43) k j_42 j_43 (by first | omega | decide) (by first | omega | decide) (by first | omega | decide) (by first | omega | decide) (by first | omega | decide) (by first | omega | decide) hB75 hB76) (cwV 4 hts g_q_slope1_1 rfl rfl rfl (by decide +kernel) ⟨Nat.le_of_ble_eq_true rfl, Nat.le_of_ble_eq_true rfl⟩) (x_preV (q := (RX12, TX12, 85)) hK hP hD (ci := 11) (q0 := 0) rfl mwd_o0) rfl rfl hl.1 rfl (lv_room (Nat.le_of_ble_eq_true rfl)) dX12_slope_342 ⟨Nat.le_of_ble_eq_true rfl, Nat.le_of_ble_eq_true rfl⟩) hP hD hS hA (fun u H locs hw hP hD hS => ?_)
    obtain ⟨f_44, f_45⟩ := u
    try dsimp only at hw
    have hP : va_P D vwCl (mwd y ad zw (tJ (tJ (sJ (sJ (sI (sJ (sJ (sI (sJ (sJ (sI σ 44 n_33) 42 j_34) 43 j_35) 44 n_38) 42 j_39) 43 j_40) 44 n_41) 42 j_42) 43 j_43) 75 f_44) 76 f_45)) H := hP
    have hD : va_D A (mwd y ad zw (tJ (tJ (sJ (sJ (sI (sJ (sJ (sI (sJ (sJ (sI σ 44 n_33) 42 j_34) 43 j_35) 44 n_38) 42 j_39) 43 j_40) 44 n_41) 42 j_42) 43 j_43) 75 f_44) 76 f_45)) := hD
    have hw : (True) ∧ bJ f_44 (-1000000000) 1000000000 ∧ bJ f_45 0 1000000000 := hw
    obtain ⟨hw, hg_46, hg_47⟩ := hw
    have hP : va_P D vwCl (mwd y ad zw (tJ (tJ (sJ (sJ (sI σ 44 n_41) 42 j_42) 43 j_43) 75 f_44) 76 f_45)) H := hP
    have hD : va_D A (mwd y ad zw (tJ (tJ (sJ (sJ (sI σ 44 n_41) 42 j_42) 43 j_43) 75 f_44) 76 f_45)) := hD
    exact x_vretW (u := (n_41, j_42, j_43, f_44, f_45)) hx hb hr hQ (by (try dsimp only); exact ⟨trivial, hg_46, hg_47⟩) hP hD hK hS dX12_slope_345 hlocks
  · refine lv_tableIn (tgt := 223) hx hb dX12_slope_79 (by decide) (by decide) rfl (by decide) ?_
    refine lv_aload_n hx hb dX12_slope_223 rfl (lv_at hl 6 rfl) ?_
    refine lv_aload_n hx hb dX12_slope_224 rfl (lv_at hl 6 rfl) ?_
    refine va_get (D := D) (ci := 11) (v := .ref (ad 57)) (C := RX12) (T := TX12) (N := 85) hx hb hts inX12 hown hK hP 0 mwd_o0 rfl 57 (by decide) fl124 (fun _ h9 => h9) rfl dX12_slope_225 ?_
    refine lv_iload_n hx hb dX12_slope_228 rfl (lv_at hl 7 rfl) ?_
    refine va_lald hx hb hK hP 37 3 mwd_a37 rfl (x_in (by omega) (by omega)) dX12_slope_229 ?_
    refine lv_topl (fun j_48 ej_48 => ?_)
    have ej_48 : j_48 = (σ.2.2.2 57) (Int32.toNatClampNeg k) := ej_48
    have bj_48 := b_atJ hB57 ej_48
    refine lv_aload_n hx hb dX12_slope_230 rfl (lv_at hl 6 rfl) ?_
    refine va_get (D := D) (ci := 11) (v := .ref (ad 58)) (C := RX12) (T := TX12) (N := 85) hx hb hts inX12 hown hK hP 0 mwd_o0 rfl 58 (by decide) fl127 (fun _ h9 => h9) rfl dX12_slope_231 ?_
    refine lv_iload_n hx hb dX12_slope_234 rfl (lv_at hl 7 rfl) ?_
    refine va_lald hx hb hK hP 38 3 mwd_a38 rfl (x_in (by omega) (by omega)) dX12_slope_235 ?_
    refine lv_topl (fun j_49 ej_49 => ?_)
    have ej_49 : j_49 = (σ.2.2.2 58) (Int32.toNatClampNeg k) := ej_49
    have bj_49 := b_atJ hB58 ej_49
    refine lv_lload hx hb dX12_slope_236 (lv_at hl 1 rfl) ?_
    refine lv_lload hx hb dX12_slope_238 (lv_at hl 0 rfl) ?_
    refine x_callvW (va_runV (As := [.long j_48, .long j_49, .long j_11, .long j_14]) (rest := []) ⟨hx, hb, hml, hown, hts⟩ (q_multiplies l D y H.size ad zw σ j_48 j_49 j_11 j_14 (by first | omega | decide) (by first | omega | decide) (by first | omega | decide) (by first | omega | decide) (by first | omega | decide) (by first | omega | decide) (by first | omega | decide) (by first | omega | decide)) (cwV 4 hts g_q_slope1_3 rfl rfl rfl (by decide +kernel) ⟨Nat.le_of_ble_eq_true rfl, Nat.le_of_ble_eq_true rfl⟩) (x_preV (q := (RX12, TX12, 85)) hK hP hD (ci := 11) (q0 := 0) rfl mwd_o0) rfl rfl hl.1 rfl (lv_room (Nat.le_of_ble_eq_true rfl)) dX12_slope_240 ⟨Nat.le_of_ble_eq_true rfl, Nat.le_of_ble_eq_true rfl⟩) hP hD hS hA (fun u H locs hw hP hD hS => ?_)
    obtain ⟨n_50, j_51, j_52⟩ := u
    try dsimp only at hw
    have hP : va_P D vwCl (mwd y ad zw (sJ (sJ (sI σ 44 n_50) 42 j_51) 43 j_52)) H := hP
    have hD : va_D A (mwd y ad zw (sJ (sJ (sI σ 44 n_50) 42 j_51) 43 j_52)) := hD
    have hw : -1000000000 ≤ j_51.toInt ∧ j_51.toInt ≤ 1000000000 ∧ 0 ≤ j_52.toInt ∧ j_52.toInt ≤ 1000000000 := hw
    refine lv_aload_n hx hb dX12_slope_243 rfl (lv_at hl 6 rfl) ?_
    refine lv_lload hx hb dX12_slope_244 (lv_at hl 3 rfl) ?_
    refine lv_lload hx hb dX12_slope_246 (lv_at hl 2 rfl) ?_
    refine lv_aload_n hx hb dX12_slope_248 rfl (lv_at hl 6 rfl) ?_
    refine va_get (D := D) (ci := 11) (v := .long j_51) (C := RX12) (T := TX12) (N := 85) hx hb hts inX12 hown hK hP 0 mwd_o0 rfl 42 (by decide) fl387 (fun _ h9 => h9) rfl dX12_slope_249 ?_
    refine lv_aload_n hx hb dX12_slope_252 rfl (lv_at hl 6 rfl) ?_
    refine va_get (D := D) (ci := 11) (v := .long j_52) (C := RX12) (T := TX12) (N := 85) hx hb hts inX12 hown hK hP 0 mwd_o0 rfl 43 (by decide) fl391 (fun _ h9 => h9) rfl dX12_slope_253 ?_
    refine x_callvW (va_runV (As := [.long j_5, .long j_8, .long j_51, .long j_52]) (rest := []) ⟨hx, hb, hml, hown, hts⟩ (q_takesOff l D y H.size ad zw (sJ (sJ (sI σ 44 n_50) 42 j_51) 43 j_52) j_5 j_8 j_51 j_52 (by first | omega | decide) (by first | omega | decide) (by first | omega | decide) (by first | omega | decide) (by first | omega | decide) (by first | omega | decide) (by first | omega | decide) (by first | omega | decide)) (cwV 4 hts g_q_slope1_2 rfl rfl rfl (by decide +kernel) ⟨Nat.le_of_ble_eq_true rfl, Nat.le_of_ble_eq_true rfl⟩) (x_preV (q := (RX12, TX12, 85)) hK hP hD (ci := 11) (q0 := 0) rfl mwd_o0) rfl rfl hl.1 rfl (lv_room (Nat.le_of_ble_eq_true rfl)) dX12_slope_256 ⟨Nat.le_of_ble_eq_true rfl, Nat.le_of_ble_eq_true rfl⟩) hP hD hS hA (fun u H locs hw hP hD hS => ?_)
    obtain ⟨n_53, j_54, j_55⟩ := u
    try dsimp only at hw
    have hP : va_P D vwCl (mwd y ad zw (sJ (sJ (sI (sJ (sJ (sI σ 44 n_50) 42 j_51) 43 j_52) 44 n_53) 42 j_54) 43 j_55)) H := hP
    have hD : va_D A (mwd y ad zw (sJ (sJ (sI (sJ (sJ (sI σ 44 n_50) 42 j_51) 43 j_52) 44 n_53) 42 j_54) 43 j_55)) := hD
    have hw : -1000000000 ≤ j_54.toInt ∧ j_54.toInt ≤ 1000000000 ∧ 0 ≤ j_55.toInt ∧ j_55.toInt ≤ 1000000000 := hw
    refine lv_aload_n hx hb dX12_slope_259 rfl (lv_at hl 6 rfl) ?_
    refine lv_aload_n hx hb dX12_slope_260 rfl (lv_at hl 6 rfl) ?_
    refine va_get (D := D) (ci := 11) (v := .long j_54) (C := RX12) (T := TX12) (N := 85) hx hb hts inX12 hown hK hP 0 mwd_o0 rfl 42 (by decide) fl387 (fun _ h9 => h9) rfl dX12_slope_261 ?_
    refine lv_aload_n hx hb dX12_slope_264 rfl (lv_at hl 6 rfl) ?_
    refine va_get (D := D) (ci := 11) (v := .long j_55) (C := RX12) (T := TX12) (N := 85) hx hb hts inX12 hown hK hP 0 mwd_o0 rfl 43 (by decide) fl391 (fun _ h9 => h9) rfl dX12_slope_265 ?_
    refine lv_aload_n hx hb dX12_slope_268 rfl (lv_at hl 6 rfl) ?_
    refine va_get (D := D) (ci := 11) (v := .ref (ad 57)) (C := RX12) (T := TX12) (N := 85) hx hb hts inX12 hown hK hP 0 mwd_o0 rfl 57 (by decide) fl124 (fun _ h9 => h9) rfl dX12_slope_269 ?_
    refine lv_iload hx hb dX12_slope_272 (lv_at hl 4 rfl) ?_
    refine va_lald hx hb hK hP 37 3 mwd_a37 rfl (x_in (by omega) (by omega)) dX12_slope_274 ?_
    refine lv_topl (fun j_56 ej_56 => ?_)
    have ej_56 : j_56 = (σ.2.2.2 57) (Int32.toNatClampNeg i_2) := ej_56
    have bj_56 := b_atJ hB57 ej_56
    refine lv_aload_n hx hb dX12_slope_275 rfl (lv_at hl 6 rfl) ?_
    refine va_get (D := D) (ci := 11) (v := .ref (ad 58)) (C := RX12) (T := TX12) (N := 85) hx hb hts inX12 hown hK hP 0 mwd_o0 rfl 58 (by decide) fl127 (fun _ h9 => h9) rfl dX12_slope_276 ?_
    refine lv_iload hx hb dX12_slope_279 (lv_at hl 4 rfl) ?_
    refine va_lald hx hb hK hP 38 3 mwd_a38 rfl (x_in (by omega) (by omega)) dX12_slope_281 ?_
    refine lv_topl (fun j_57 ej_57 => ?_)
    have ej_57 : j_57 = (σ.2.2.2 58) (Int32.toNatClampNeg i_2) := ej_57
    have bj_57 := b_atJ hB58 ej_57
    refine x_callvW (va_runV (As := [.long j_54, .long j_55, .long j_56, .long j_57]) (rest := []) ⟨hx, hb, hml, hown, hts⟩ (q_divides l D y H.size ad zw (sJ (sJ (sI (sJ (sJ (sI σ 44 n_50) 42 j_51) 43 j_52) 44 n_53) 42 j_54) 43 j_55) j_54 j_55 j_56 j_57 (by first | omega | decide) (by first | omega | decide) (by first | omega | decide) (by first | omega | decide) (by first | omega | decide) (by first | omega | decide) (by first | omega | decide) (by first | omega | decide)) (cwV 4 hts g_q_slope1_4 rfl rfl rfl (by decide +kernel) ⟨Nat.le_of_ble_eq_true rfl, Nat.le_of_ble_eq_true rfl⟩) (x_preV (q := (RX12, TX12, 85)) hK hP hD (ci := 11) (q0 := 0) rfl mwd_o0) rfl rfl hl.1 rfl (lv_room (Nat.le_of_ble_eq_true rfl)) dX12_slope_282 ⟨Nat.le_of_ble_eq_true rfl, Nat.le_of_ble_eq_true rfl⟩) hP hD hS hA (fun u H locs hw hP hD hS => ?_)
    obtain ⟨n_58, j_59, j_60⟩ := u
    try dsimp only at hw
    have hP : va_P D vwCl (mwd y ad zw (sJ (sJ (sI (sJ (sJ (sI (sJ (sJ (sI σ 44 n_50) 42 j_51) 43 j_52) 44 n_53) 42 j_54) 43 j_55) 44 n_58) 42 j_59) 43 j_60)) H := hP
    have hD : va_D A (mwd y ad zw (sJ (sJ (sI (sJ (sJ (sI (sJ (sJ (sI σ 44 n_50) 42 j_51) 43 j_52) 44 n_53) 42 j_54) 43 j_55) 44 n_58) 42 j_59) 43 j_60)) := hD
    have hw : -1000000000 ≤ j_59.toInt ∧ j_59.toInt ≤ 1000000000 ∧ 0 ≤ j_60.toInt ∧ j_60.toInt ≤ 1000000000 := hw
    refine lv_goto (tgt := 331) hx hb dX12_slope_285 (by decide) ?_
    refine lv_aload_n hx hb dX12_slope_331 rfl (lv_at hl 6 rfl) ?_
    refine lv_iload_n hx hb dX12_slope_332 rfl (lv_at hl 8 rfl) ?_
    refine lv_iload_n hx hb dX12_slope_333 rfl (lv_at hl 7 rfl) ?_
    refine lv_aload_n hx hb dX12_slope_334 rfl (lv_at hl 6 rfl) ?_
    refine va_get (D := D) (ci := 11) (v := .long j_59) (C := RX12) (T := TX12) (N := 85) hx hb hts inX12 hown hK hP 0 mwd_o0 rfl 42 (by decide) fl387 (fun _ h9 => h9) rfl dX12_slope_335 ?_
    refine lv_aload_n hx hb dX12_slope_338 rfl (lv_at hl 6 rfl) ?_
    refine va_get (D := D) (ci := 11) (v := .long j_60) (C := RX12) (T := TX12) (N := 85) hx hb hts inX12 hown hK hP 0 mwd_o0 rfl 43 (by decide) fl391 (fun _ h9 => h9) rfl dX12_slope_339 ?_
    refine x_callvW (va_runV (As := [.int 1, .int k, .long j_59, .long j_60]) (rest := []) ⟨hx, hb, hml, hown, hts⟩ (q_lets1 l D y H.size ad zw (sJ (sJ (sI (sJ (sJ (sI (sJ (sJ (sI σ 44 n_50) 42 j_51) 43 j_52) 44 n_53) 42 j_54) 43 j_55) 44 n_58) 42 j_59) 43 j_60) k j_59 j_60 (by first | omega | decide) (by first | omega | decide) (by first | omega | decide) (by first | omega | decide) (by first | omega | decide) (by first | omega | decide) hB75 hB76) (cwV 4 hts g_q_slope1_1 rfl rfl rfl (by decide +kernel) ⟨Nat.le_of_ble_eq_true rfl, Nat.le_of_ble_eq_true rfl⟩) (x_preV (q := (RX12, TX12, 85)) hK hP hD (ci := 11) (q0 := 0) rfl mwd_o0) rfl rfl hl.1 rfl (lv_room (Nat.le_of_ble_eq_true rfl)) dX12_slope_342 ⟨Nat.le_of_ble_eq_true rfl, Nat.le_of_ble_eq_true rfl⟩) hP hD hS hA (fun u H locs hw hP hD hS => ?_)
    obtain ⟨f_61, f_62⟩ := u
    try dsimp only at hw
    have hP : va_P D vwCl (mwd y ad zw (tJ (tJ (sJ (sJ (sI (sJ (sJ (sI (sJ (sJ (sI σ 44 n_50) 42 j_51) 43 j_52) 44 n_53) 42 j_54) 43 j_55) 44 n_58) 42 j_59) 43 j_60) 75 f_61) 76 f_62)) H := hP
    have hD : va_D A (mwd y ad zw (tJ (tJ (sJ (sJ (sI (sJ (sJ (sI (sJ (sJ (sI σ 44 n_50) 42 j_51) 43 j_52) 44 n_53) 42 j_54) 43 j_55) 44 n_58) 42 j_59) 43 j_60) 75 f_61) 76 f_62)) := hD
    have hw : (True) ∧ bJ f_61 (-1000000000) 1000000000 ∧ bJ f_62 0 1000000000 := hw
    obtain ⟨hw, hg_63, hg_64⟩ := hw
    have hP : va_P D vwCl (mwd y ad zw (tJ (tJ (sJ (sJ (sI σ 44 n_58) 42 j_59) 43 j_60) 75 f_61) 76 f_62)) H := hP
    have hD : va_D A (mwd y ad zw (tJ (tJ (sJ (sJ (sI σ 44 n_58) 42 j_59) 43 j_60) 75 f_61) 76 f_62)) := hD
    exact x_vretW (u := (n_58, j_59, j_60, f_61, f_62)) hx hb hr hQ (by (try dsimp only); exact ⟨trivial, hg_63, hg_64⟩) hP hD hK hS dX12_slope_345 hlocks
  · refine lv_tableIn (tgt := 323) hx hb dX12_slope_79 (by decide) (by decide) rfl (by decide) ?_
    refine lv_aload_n hx hb dX12_slope_323 rfl (lv_at hl 6 rfl) ?_
    refine lv_lload hx hb dX12_slope_324 (lv_at hl 3 rfl) ?_
    refine lv_lload hx hb dX12_slope_326 (lv_at hl 2 rfl) ?_
    refine x_callvW (va_runV (As := [.long j_5, .long j_8]) (rest := []) ⟨hx, hb, hml, hown, hts⟩ (q_comes l D y H.size ad zw σ j_5 j_8 (by first | omega | decide) (by first | omega | decide) (by first | omega | decide) (by first | omega | decide)) (cwV 2 hts g_q_slope1_5 rfl rfl rfl (by decide +kernel) ⟨Nat.le_of_ble_eq_true rfl, Nat.le_of_ble_eq_true rfl⟩) (x_preV (q := (RX12, TX12, 85)) hK hP hD (ci := 11) (q0 := 0) rfl mwd_o0) rfl rfl hl.1 rfl (lv_room (Nat.le_of_ble_eq_true rfl)) dX12_slope_328 ⟨Nat.le_of_ble_eq_true rfl, Nat.le_of_ble_eq_true rfl⟩) hP hD hS hA (fun u H locs hw hP hD hS => ?_)
    obtain ⟨n_65, j_66, j_67⟩ := u
    try dsimp only at hw
    have hP : va_P D vwCl (mwd y ad zw (sJ (sJ (sI σ 44 n_65) 42 j_66) 43 j_67)) H := hP
    have hD : va_D A (mwd y ad zw (sJ (sJ (sI σ 44 n_65) 42 j_66) 43 j_67)) := hD
    have hw : -1000000000 ≤ j_66.toInt ∧ j_66.toInt ≤ 1000000000 ∧ 0 ≤ j_67.toInt ∧ j_67.toInt ≤ 1000000000 := hw
    refine lv_aload_n hx hb dX12_slope_331 rfl (lv_at hl 6 rfl) ?_
    refine lv_iload_n hx hb dX12_slope_332 rfl (lv_at hl 8 rfl) ?_
    refine lv_iload_n hx hb dX12_slope_333 rfl (lv_at hl 7 rfl) ?_
    refine lv_aload_n hx hb dX12_slope_334 rfl (lv_at hl 6 rfl) ?_
    refine va_get (D := D) (ci := 11) (v := .long j_66) (C := RX12) (T := TX12) (N := 85) hx hb hts inX12 hown hK hP 0 mwd_o0 rfl 42 (by decide) fl387 (fun _ h9 => h9) rfl dX12_slope_335 ?_
    refine lv_aload_n hx hb dX12_slope_338 rfl (lv_at hl 6 rfl) ?_
    refine va_get (D := D) (ci := 11) (v := .long j_67) (C := RX12) (T := TX12) (N := 85) hx hb hts inX12 hown hK hP 0 mwd_o0 rfl 43 (by decide) fl391 (fun _ h9 => h9) rfl dX12_slope_339 ?_
    refine x_callvW (va_runV (As := [.int 1, .int k, .long j_66, .long j_67]) (rest := []) ⟨hx, hb, hml, hown, hts⟩ (q_lets1 l D y H.size ad zw (sJ (sJ (sI σ 44 n_65) 42 j_66) 43 j_67) k j_66 j_67 (by first | omega | decide) (by first | omega | decide) (by first | omega | decide) (by first | omega | decide) (by first | omega | decide) (by first | omega | decide) hB75 hB76) (cwV 4 hts g_q_slope1_1 rfl rfl rfl (by decide +kernel) ⟨Nat.le_of_ble_eq_true rfl, Nat.le_of_ble_eq_true rfl⟩) (x_preV (q := (RX12, TX12, 85)) hK hP hD (ci := 11) (q0 := 0) rfl mwd_o0) rfl rfl hl.1 rfl (lv_room (Nat.le_of_ble_eq_true rfl)) dX12_slope_342 ⟨Nat.le_of_ble_eq_true rfl, Nat.le_of_ble_eq_true rfl⟩) hP hD hS hA (fun u H locs hw hP hD hS => ?_)
    obtain ⟨f_68, f_69⟩ := u
    try dsimp only at hw
    have hP : va_P D vwCl (mwd y ad zw (tJ (tJ (sJ (sJ (sI σ 44 n_65) 42 j_66) 43 j_67) 75 f_68) 76 f_69)) H := hP
    have hD : va_D A (mwd y ad zw (tJ (tJ (sJ (sJ (sI σ 44 n_65) 42 j_66) 43 j_67) 75 f_68) 76 f_69)) := hD
    have hw : (True) ∧ bJ f_68 (-1000000000) 1000000000 ∧ bJ f_69 0 1000000000 := hw
    obtain ⟨hw, hg_70, hg_71⟩ := hw
    exact x_vretW (u := (n_65, j_66, j_67, f_68, f_69)) hx hb hr hQ (by (try dsimp only); exact ⟨trivial, hg_70, hg_71⟩) hP hD hK hS dX12_slope_345 hlocks
  · refine lv_tableIn (tgt := 323) hx hb dX12_slope_79 (by decide) (by decide) rfl (by decide) ?_
    refine lv_aload_n hx hb dX12_slope_323 rfl (lv_at hl 6 rfl) ?_
    refine lv_lload hx hb dX12_slope_324 (lv_at hl 3 rfl) ?_
    refine lv_lload hx hb dX12_slope_326 (lv_at hl 2 rfl) ?_
    refine x_callvW (va_runV (As := [.long j_5, .long j_8]) (rest := []) ⟨hx, hb, hml, hown, hts⟩ (q_comes l D y H.size ad zw σ j_5 j_8 (by first | omega | decide) (by first | omega | decide) (by first | omega | decide) (by first | omega | decide)) (cwV 2 hts g_q_slope1_5 rfl rfl rfl (by decide +kernel) ⟨Nat.le_of_ble_eq_true rfl, Nat.le_of_ble_eq_true rfl⟩) (x_preV (q := (RX12, TX12, 85)) hK hP hD (ci := 11) (q0 := 0) rfl mwd_o0) rfl rfl hl.1 rfl (lv_room (Nat.le_of_ble_eq_true rfl)) dX12_slope_328 ⟨Nat.le_of_ble_eq_true rfl, Nat.le_of_ble_eq_true rfl⟩) hP hD hS hA (fun u H locs hw hP hD hS => ?_)
    obtain ⟨n_72, j_73, j_74⟩ := u
    try dsimp only at hw
    have hP : va_P D vwCl (mwd y ad zw (sJ (sJ (sI σ 44 n_72) 42 j_73) 43 j_74)) H := hP
    have hD : va_D A (mwd y ad zw (sJ (sJ (sI σ 44 n_72) 42 j_73) 43 j_74)) := hD
    have hw : -1000000000 ≤ j_73.toInt ∧ j_73.toInt ≤ 1000000000 ∧ 0 ≤ j_74.toInt ∧ j_74.toInt ≤ 1000000000 := hw
    refine lv_aload_n hx hb dX12_slope_331 rfl (lv_at hl 6 rfl) ?_
    refine lv_iload_n hx hb dX12_slope_332 rfl (lv_at hl 8 rfl) ?_
    refine lv_iload_n hx hb dX12_slope_333 rfl (lv_at hl 7 rfl) ?_
    refine lv_aload_n hx hb dX12_slope_334 rfl (lv_at hl 6 rfl) ?_
    refine va_get (D := D) (ci := 11) (v := .long j_73) (C := RX12) (T := TX12) (N := 85) hx hb hts inX12 hown hK hP 0 mwd_o0 rfl 42 (by decide) fl387 (fun _ h9 => h9) rfl dX12_slope_335 ?_
    refine lv_aload_n hx hb dX12_slope_338 rfl (lv_at hl 6 rfl) ?_
    refine va_get (D := D) (ci := 11) (v := .long j_74) (C := RX12) (T := TX12) (N := 85) hx hb hts inX12 hown hK hP 0 mwd_o0 rfl 43 (by decide) fl391 (fun _ h9 => h9) rfl dX12_slope_339 ?_
    refine x_callvW (va_runV (As := [.int 1, .int k, .long j_73, .long j_74]) (rest := []) ⟨hx, hb, hml, hown, hts⟩ (q_lets1 l D y H.size ad zw (sJ (sJ (sI σ 44 n_72) 42 j_73) 43 j_74) k j_73 j_74 (by first | omega | decide) (by first | omega | decide) (by first | omega | decide) (by first | omega | decide) (by first | omega | decide) (by first | omega | decide) hB75 hB76) (cwV 4 hts g_q_slope1_1 rfl rfl rfl (by decide +kernel) ⟨Nat.le_of_ble_eq_true rfl, Nat.le_of_ble_eq_true rfl⟩) (x_preV (q := (RX12, TX12, 85)) hK hP hD (ci := 11) (q0 := 0) rfl mwd_o0) rfl rfl hl.1 rfl (lv_room (Nat.le_of_ble_eq_true rfl)) dX12_slope_342 ⟨Nat.le_of_ble_eq_true rfl, Nat.le_of_ble_eq_true rfl⟩) hP hD hS hA (fun u H locs hw hP hD hS => ?_)
    obtain ⟨f_75, f_76⟩ := u
    try dsimp only at hw
    have hP : va_P D vwCl (mwd y ad zw (tJ (tJ (sJ (sJ (sI σ 44 n_72) 42 j_73) 43 j_74) 75 f_75) 76 f_76)) H := hP
    have hD : va_D A (mwd y ad zw (tJ (tJ (sJ (sJ (sI σ 44 n_72) 42 j_73) 43 j_74) 75 f_75) 76 f_76)) := hD
    have hw : (True) ∧ bJ f_75 (-1000000000) 1000000000 ∧ bJ f_76 0 1000000000 := hw
    obtain ⟨hw, hg_77, hg_78⟩ := hw
    exact x_vretW (u := (n_72, j_73, j_74, f_75, f_76)) hx hb hr hQ (by (try dsimp only); exact ⟨trivial, hg_77, hg_78⟩) hP hD hK hS dX12_slope_345 hlocks
  · refine lv_tableIn (tgt := 288) hx hb dX12_slope_79 (by decide) (by decide) rfl (by decide) ?_
    refine lv_aload_n hx hb dX12_slope_288 rfl (lv_at hl 6 rfl) ?_
    refine va_get (D := D) (ci := 11) (v := .ref (ad 57)) (C := RX12) (T := TX12) (N := 85) hx hb hts inX12 hown hK hP 0 mwd_o0 rfl 57 (by decide) fl124 (fun _ h9 => h9) rfl dX12_slope_289 ?_
    refine lv_iload_n hx hb dX12_slope_292 rfl (lv_at hl 5 rfl) ?_
    refine va_lald hx hb hK hP 37 3 mwd_a37 rfl (x_in (by omega) (by omega)) dX12_slope_293 ?_
    refine lv_topl (fun j_79 ej_79 => ?_)
    have ej_79 : j_79 = (σ.2.2.2 57) (Int32.toNatClampNeg i_1) := ej_79
    have bj_79 := b_atJ hB57 ej_79
    refine lv_lconst (v := 0) hx hb dX12_slope_294 (by decide) ?_
    refine W.lcmp hx hb dX12_slope_295 ?_
    refine lv_if_ge (tgt := 312) hx hb dX12_slope_296 (by decide) (fun c_80 => ?_) (fun c_80 => ?_)
    · have kc_80 : j_79.toInt ≥ 0 := by have h9 := x_tri j_79 (0 : Int64); (try simp only [Int64.reduceToInt] at h9); rcases h9 with ⟨g1, g2⟩ | ⟨g1, g2⟩ | ⟨g1, g2⟩ <;> first | omega | (exfalso; rw [g1] at c_80; revert c_80; decide)
      refine lv_aload_n hx hb dX12_slope_312 rfl (lv_at hl 6 rfl) ?_
      refine lv_lload hx hb dX12_slope_313 (lv_at hl 3 rfl) ?_
      refine lv_lload hx hb dX12_slope_315 (lv_at hl 2 rfl) ?_
      refine x_callvW (va_runV (As := [.long j_5, .long j_8]) (rest := []) ⟨hx, hb, hml, hown, hts⟩ (q_comes l D y H.size ad zw σ j_5 j_8 (by first | omega | decide) (by first | omega | decide) (by first | omega | decide) (by first | omega | decide)) (cwV 2 hts g_q_slope1_5 rfl rfl rfl (by decide +kernel) ⟨Nat.le_of_ble_eq_true rfl, Nat.le_of_ble_eq_true rfl⟩) (x_preV (q := (RX12, TX12, 85)) hK hP hD (ci := 11) (q0 := 0) rfl mwd_o0) rfl rfl hl.1 rfl (lv_room (Nat.le_of_ble_eq_true rfl)) dX12_slope_317 ⟨Nat.le_of_ble_eq_true rfl, Nat.le_of_ble_eq_true rfl⟩) hP hD hS hA (fun u H locs hw hP hD hS => ?_)
      obtain ⟨n_81, j_82, j_83⟩ := u
      try dsimp only at hw
      have hP : va_P D vwCl (mwd y ad zw (sJ (sJ (sI σ 44 n_81) 42 j_82) 43 j_83)) H := hP
      have hD : va_D A (mwd y ad zw (sJ (sJ (sI σ 44 n_81) 42 j_82) 43 j_83)) := hD
      have hw : -1000000000 ≤ j_82.toInt ∧ j_82.toInt ≤ 1000000000 ∧ 0 ≤ j_83.toInt ∧ j_83.toInt ≤ 1000000000 := hw
      refine lv_goto (tgt := 331) hx hb dX12_slope_320 (by decide) ?_
      refine lv_aload_n hx hb dX12_slope_331 rfl (lv_at hl 6 rfl) ?_
      refine lv_iload_n hx hb dX12_slope_332 rfl (lv_at hl 8 rfl) ?_
      refine lv_iload_n hx hb dX12_slope_333 rfl (lv_at hl 7 rfl) ?_
      refine lv_aload_n hx hb dX12_slope_334 rfl (lv_at hl 6 rfl) ?_
      refine va_get (D := D) (ci := 11) (v := .long j_82) (C := RX12) (T := TX12) (N := 85) hx hb hts inX12 hown hK hP 0 mwd_o0 rfl 42 (by decide) fl387 (fun _ h9 => h9) rfl dX12_slope_335 ?_
      refine lv_aload_n hx hb dX12_slope_338 rfl (lv_at hl 6 rfl) ?_
      refine va_get (D := D) (ci := 11) (v := .long j_83) (C := RX12) (T := TX12) (N := 85) hx hb hts inX12 hown hK hP 0 mwd_o0 rfl 43 (by decide) fl391 (fun _ h9 => h9) rfl dX12_slope_339 ?_
      refine x_callvW (va_runV (As := [.int 1, .int k, .long j_82, .long j_83]) (rest := []) ⟨hx, hb, hml, hown, hts⟩ (q_lets1 l D y H.size ad zw (sJ (sJ (sI σ 44 n_81) 42 j_82) 43 j_83) k j_82 j_83 (by first | omega | decide) (by first | omega | decide) (by first | omega | decide) (by first | omega | decide) (by first | omega | decide) (by first | omega | decide) hB75 hB76) (cwV 4 hts g_q_slope1_1 rfl rfl rfl (by decide +kernel) ⟨Nat.le_of_ble_eq_true rfl, Nat.le_of_ble_eq_true rfl⟩) (x_preV (q := (RX12, TX12, 85)) hK hP hD (ci := 11) (q0 := 0) rfl mwd_o0) rfl rfl hl.1 rfl (lv_room (Nat.le_of_ble_eq_true rfl)) dX12_slope_342 ⟨Nat.le_of_ble_eq_true rfl, Nat.le_of_ble_eq_true rfl⟩) hP hD hS hA (fun u H locs hw hP hD hS => ?_)
      obtain ⟨f_84, f_85⟩ := u
      try dsimp only at hw
      have hP : va_P D vwCl (mwd y ad zw (tJ (tJ (sJ (sJ (sI σ 44 n_81) 42 j_82) 43 j_83) 75 f_84) 76 f_85)) H := hP
      have hD : va_D A (mwd y ad zw (tJ (tJ (sJ (sJ (sI σ 44 n_81) 42 j_82) 43 j_83) 75 f_84) 76 f_85)) := hD
      have hw : (True) ∧ bJ f_84 (-1000000000) 1000000000 ∧ bJ f_85 0 1000000000 := hw
      obtain ⟨hw, hg_86, hg_87⟩ := hw
      exact x_vretW (u := (n_81, j_82, j_83, f_84, f_85)) hx hb hr hQ (by (try dsimp only); exact ⟨trivial, hg_86, hg_87⟩) hP hD hK hS dX12_slope_345 hlocks
    · have kc_80 : j_79.toInt < 0 := by have h9 := x_tri j_79 (0 : Int64); (try simp only [Int64.reduceToInt] at h9); rcases h9 with ⟨g1, g2⟩ | ⟨g1, g2⟩ | ⟨g1, g2⟩ <;> first | omega | (exfalso; rw [g1] at c_80; revert c_80; decide)
      refine lv_aload_n hx hb dX12_slope_299 rfl (lv_at hl 6 rfl) ?_
      refine lv_lconst (v := 0) hx hb dX12_slope_300 (by decide) ?_
      refine lv_lconst (v := 1) hx hb dX12_slope_301 (by decide) ?_
      refine lv_lload hx hb dX12_slope_302 (lv_at hl 3 rfl) ?_
      refine lv_lload hx hb dX12_slope_304 (lv_at hl 2 rfl) ?_
      refine x_callvW (va_runV (As := [.long 0, .long 1, .long j_5, .long j_8]) (rest := []) ⟨hx, hb, hml, hown, hts⟩ (q_takesOff l D y H.size ad zw σ 0 1 j_5 j_8 (by first | omega | decide) (by first | omega | decide) (by first | omega | decide) (by first | omega | decide) (by first | omega | decide) (by first | omega | decide) (by first | omega | decide) (by first | omega | decide)) (cwV 4 hts g_q_slope1_2 rfl rfl rfl (by decide +kernel) ⟨Nat.le_of_ble_eq_true rfl, Nat.le_of_ble_eq_true rfl⟩) (x_preV (q := (RX12, TX12, 85)) hK hP hD (ci := 11) (q0 := 0) rfl mwd_o0) rfl rfl hl.1 rfl (lv_room (Nat.le_of_ble_eq_true rfl)) dX12_slope_306 ⟨Nat.le_of_ble_eq_true rfl, Nat.le_of_ble_eq_true rfl⟩) hP hD hS hA (fun u H locs hw hP hD hS => ?_)
      obtain ⟨n_88, j_89, j_90⟩ := u
      try dsimp only at hw
      have hP : va_P D vwCl (mwd y ad zw (sJ (sJ (sI σ 44 n_88) 42 j_89) 43 j_90)) H := hP
      have hD : va_D A (mwd y ad zw (sJ (sJ (sI σ 44 n_88) 42 j_89) 43 j_90)) := hD
      have hw : -1000000000 ≤ j_89.toInt ∧ j_89.toInt ≤ 1000000000 ∧ 0 ≤ j_90.toInt ∧ j_90.toInt ≤ 1000000000 := hw
      refine lv_goto (tgt := 331) hx hb dX12_slope_309 (by decide) ?_
      refine lv_aload_n hx hb dX12_slope_331 rfl (lv_at hl 6 rfl) ?_
      refine lv_iload_n hx hb dX12_slope_332 rfl (lv_at hl 8 rfl) ?_
      refine lv_iload_n hx hb dX12_slope_333 rfl (lv_at hl 7 rfl) ?_
      refine lv_aload_n hx hb dX12_slope_334 rfl (lv_at hl 6 rfl) ?_
      refine va_get (D := D) (ci := 11) (v := .long j_89) (C := RX12) (T := TX12) (N := 85) hx hb hts inX12 hown hK hP 0 mwd_o0 rfl 42 (by decide) fl387 (fun _ h9 => h9) rfl dX12_slope_335 ?_
      refine lv_aload_n hx hb dX12_slope_338 rfl (lv_at hl 6 rfl) ?_
      refine va_get (D := D) (ci := 11) (v := .long j_90) (C := RX12) (T := TX12) (N := 85) hx hb hts inX12 hown hK hP 0 mwd_o0 rfl 43 (by decide) fl391 (fun _ h9 => h9) rfl dX12_slope_339 ?_
      refine x_callvW (va_runV (As := [.int 1, .int k, .long j_89, .long j_90]) (rest := []) ⟨hx, hb, hml, hown, hts⟩ (q_lets1 l D y H.size ad zw (sJ (sJ (sI σ 44 n_88) 42 j_89) 43 j_90) k j_89 j_90 (by first | omega | decide) (by first | omega | decide) (by first | omega | decide) (by first | omega | decide) (by first | omega | decide) (by first | omega | decide) hB75 hB76) (cwV 4 hts g_q_slope1_1 rfl rfl rfl (by decide +kernel) ⟨Nat.le_of_ble_eq_true rfl, Nat.le_of_ble_eq_true rfl⟩) (x_preV (q := (RX12, TX12, 85)) hK hP hD (ci := 11) (q0 := 0) rfl mwd_o0) rfl rfl hl.1 rfl (lv_room (Nat.le_of_ble_eq_true rfl)) dX12_slope_342 ⟨Nat.le_of_ble_eq_true rfl, Nat.le_of_ble_eq_true rfl⟩) hP hD hS hA (fun u H locs hw hP hD hS => ?_)
      obtain ⟨f_91, f_92⟩ := u
      try dsimp only at hw
      have hP : va_P D vwCl (mwd y ad zw (tJ (tJ (sJ (sJ (sI σ 44 n_88) 42 j_89) 43 j_90) 75 f_91) 76 f_92)) H := hP
      have hD : va_D A (mwd y ad zw (tJ (tJ (sJ (sJ (sI σ 44 n_88) 42 j_89) 43 j_90) 75 f_91) 76 f_92)) := hD
      have hw : (True) ∧ bJ f_91 (-1000000000) 1000000000 ∧ bJ f_92 0 1000000000 := hw
      obtain ⟨hw, hg_93, hg_94⟩ := hw
      exact x_vretW (u := (n_88, j_89, j_90, f_91, f_92)) hx hb hr hQ (by (try dsimp only); exact ⟨trivial, hg_93, hg_94⟩) hP hD hK hS dX12_slope_345 hlocks
  · refine lv_tableOut (tgt := 323) hx hb dX12_slope_79 g_16 (by decide) ?_
    refine lv_aload_n hx hb dX12_slope_323 rfl (lv_at hl 6 rfl) ?_
    refine lv_lload hx hb dX12_slope_324 (lv_at hl 3 rfl) ?_
    refine lv_lload hx hb dX12_slope_326 (lv_at hl 2 rfl) ?_
    refine x_callvW (va_runV (As := [.long j_5, .long j_8]) (rest := []) ⟨hx, hb, hml, hown, hts⟩ (q_comes l D y H.size ad zw σ j_5 j_8 (by first | omega | decide) (by first | omega | decide) (by first | omega | decide) (by first | omega | decide)) (cwV 2 hts g_q_slope1_5 rfl rfl rfl (by decide +kernel) ⟨Nat.le_of_ble_eq_true rfl, Nat.le_of_ble_eq_true rfl⟩) (x_preV (q := (RX12, TX12, 85)) hK hP hD (ci := 11) (q0 := 0) rfl mwd_o0) rfl rfl hl.1 rfl (lv_room (Nat.le_of_ble_eq_true rfl)) dX12_slope_328 ⟨Nat.le_of_ble_eq_true rfl, Nat.le_of_ble_eq_true rfl⟩) hP hD hS hA (fun u H locs hw hP hD hS => ?_)
    obtain ⟨n_95, j_96, j_97⟩ := u
    try dsimp only at hw
    have hP : va_P D vwCl (mwd y ad zw (sJ (sJ (sI σ 44 n_95) 42 j_96) 43 j_97)) H := hP
    have hD : va_D A (mwd y ad zw (sJ (sJ (sI σ 44 n_95) 42 j_96) 43 j_97)) := hD
    have hw : -1000000000 ≤ j_96.toInt ∧ j_96.toInt ≤ 1000000000 ∧ 0 ≤ j_97.toInt ∧ j_97.toInt ≤ 1000000000 := hw
    refine lv_aload_n hx hb dX12_slope_331 rfl (lv_at hl 6 rfl) ?_
    refine lv_iload_n hx hb dX12_slope_332 rfl (lv_at hl 8 rfl) ?_
    refine lv_iload_n hx hb dX12_slope_333 rfl (lv_at hl 7 rfl) ?_
    refine lv_aload_n hx hb dX12_slope_334 rfl (lv_at hl 6 rfl) ?_
    refine va_get (D := D) (ci := 11) (v := .long j_96) (C := RX12) (T := TX12) (N := 85) hx hb hts inX12 hown hK hP 0 mwd_o0 rfl 42 (by decide) fl387 (fun _ h9 => h9) rfl dX12_slope_335 ?_
    refine lv_aload_n hx hb dX12_slope_338 rfl (lv_at hl 6 rfl) ?_
    refine va_get (D := D) (ci := 11) (v := .long j_97) (C := RX12) (T := TX12) (N := 85) hx hb hts inX12 hown hK hP 0 mwd_o0 rfl 43 (by decide) fl391 (fun _ h9 => h9) rfl dX12_slope_339 ?_
    refine x_callvW (va_runV (As := [.int 1, .int k, .long j_96, .long j_97]) (rest := []) ⟨hx, hb, hml, hown, hts⟩ (q_lets1 l D y H.size ad zw (sJ (sJ (sI σ 44 n_95) 42 j_96) 43 j_97) k j_96 j_97 (by first | omega | decide) (by first | omega | decide) (by first | omega | decide) (by first | omega | decide) (by first | omega | decide) (by first | omega | decide) hB75 hB76) (cwV 4 hts g_q_slope1_1 rfl rfl rfl (by decide +kernel) ⟨Nat.le_of_ble_eq_true rfl, Nat.le_of_ble_eq_true rfl⟩) (x_preV (q := (RX12, TX12, 85)) hK hP hD (ci := 11) (q0 := 0) rfl mwd_o0) rfl rfl hl.1 rfl (lv_room (Nat.le_of_ble_eq_true rfl)) dX12_slope_342 ⟨Nat.le_of_ble_eq_true rfl, Nat.le_of_ble_eq_true rfl⟩) hP hD hS hA (fun u H locs hw hP hD hS => ?_)
    obtain ⟨f_98, f_99⟩ := u
    try dsimp only at hw
    have hP : va_P D vwCl (mwd y ad zw (tJ (tJ (sJ (sJ (sI σ 44 n_95) 42 j_96) 43 j_97) 75 f_98) 76 f_99)) H := hP
    have hD : va_D A (mwd y ad zw (tJ (tJ (sJ (sJ (sI σ 44 n_95) 42 j_96) 43 j_97) 75 f_98) 76 f_99)) := hD
    have hw : (True) ∧ bJ f_98 (-1000000000) 1000000000 ∧ bJ f_99 0 1000000000 := hw
    obtain ⟨hw, hg_100, hg_101⟩ := hw
    exact x_vretW (u := (n_95, j_96, j_97, f_98, f_99)) hx hb hr hQ (by (try dsimp only); exact ⟨trivial, hg_100, hg_101⟩) hP hD hK hS dX12_slope_345 hlocks

def v_q_bends : List Cond := .code yX12_bends cX12_bends 18 none :: ([.fieldLink RX12 133 "SlopeRunnerModel" "first" "[I", .fieldLink RX12 136 "SlopeRunnerModel" "second" "[I", .fieldLink RX12 130 "SlopeRunnerModel" "op" "[I", .fieldLink RX12 167 "SlopeRunnerModel" "slopeUp" "[J", .fieldLink RX12 170 "SlopeRunnerModel" "slopeDown" "[J", .fieldLink RX12 387 "SlopeRunnerModel" "up" "J", .fieldLink RX12 391 "SlopeRunnerModel" "down" "J", .fieldLink RX12 124 "SlopeRunnerModel" "valueAbove" "[J", .fieldLink RX12 127 "SlopeRunnerModel" "valueBelow" "[J"] ++ ((wsV RX12 424 RX12 yX12_adds v_q_adds) ++ ((wsV RX12 457 RX12 yX12_lets v_q_lets2) ++ ((wsV RX12 408 RX12 yX12_takesOff v_q_takesOff) ++ ((wsV RX12 427 RX12 yX12_multiplies v_q_multiplies) ++ ((wsV RX12 430 RX12 yX12_divides v_q_divides) ++ ((wsV RX12 400 RX12 yX12_comes v_q_comes) ++ wsX120)))))))
theorem g_q_bends_0 : GoodIn v_q_bends (wsV RX12 424 RX12 yX12_adds v_q_adds) := goodIn_sub (fun w h => List.mem_cons_of_mem _ (List.mem_append_right _ (List.mem_append_left _ h))) (by decide +kernel)
theorem g_q_bends_1 : GoodIn v_q_bends (wsV RX12 457 RX12 yX12_lets v_q_lets2) := goodIn_sub (fun w h => List.mem_cons_of_mem _ (List.mem_append_right _ (List.mem_append_right _ (List.mem_append_left _ h)))) (by decide +kernel)
theorem g_q_bends_2 : GoodIn v_q_bends (wsV RX12 408 RX12 yX12_takesOff v_q_takesOff) := goodIn_sub (fun w h => List.mem_cons_of_mem _ (List.mem_append_right _ (List.mem_append_right _ (List.mem_append_right _ (List.mem_append_left _ h))))) (by decide +kernel)
theorem g_q_bends_3 : GoodIn v_q_bends (wsV RX12 427 RX12 yX12_multiplies v_q_multiplies) := goodIn_sub (fun w h => List.mem_cons_of_mem _ (List.mem_append_right _ (List.mem_append_right _ (List.mem_append_right _ (List.mem_append_right _ (List.mem_append_left _ h)))))) (by decide +kernel)
theorem g_q_bends_4 : GoodIn v_q_bends (wsV RX12 430 RX12 yX12_divides v_q_divides) := goodIn_sub (fun w h => List.mem_cons_of_mem _ (List.mem_append_right _ (List.mem_append_right _ (List.mem_append_right _ (List.mem_append_right _ (List.mem_append_right _ (List.mem_append_left _ h))))))) (by decide +kernel)
theorem g_q_bends_5 : GoodIn v_q_bends (wsV RX12 400 RX12 yX12_comes v_q_comes) := goodIn_sub (fun w h => List.mem_cons_of_mem _ (List.mem_append_right _ (List.mem_append_right _ (List.mem_append_right _ (List.mem_append_right _ (List.mem_append_right _ (List.mem_append_right _ (List.mem_append_left _ h)))))))) (by decide +kernel)
set_option maxHeartbeats 4000000 in
set_option maxRecDepth 100000 in
theorem q_bends (l : Launch) (D : va_G) (y : Nat → ClassId) (sz : Nat) (ad : Nat → Nat) (zw : Nat → Nat → Int32) (σ : OS) (k : Int32) (hk0 : 0 ≤ k.toInt) (hk1 : k.toInt < 1760) (hne : σ.2.2.1 59 (Int32.toNatClampNeg k) ≠ 0) (hop : opc (σ.2.2.1 59) (σ.2.2.1 60) (σ.2.2.1 61)) (hB75 : bJ (σ.2.2.2 75) (-1000000000) 1000000000) (hB76 : bJ (σ.2.2.2 76) 0 1000000000) (hB57 : bJ (σ.2.2.2 57) (-1000000000) 1000000000) (hB58 : bJ (σ.2.2.2 58) 0 1000000000) : Met l yX12_bends v_q_bends ({ frames := 4, cells := 0, slots := 0, locals := 108 } : Room) (va_Pc [.ref (ad 1), .int k] (xPre D (xT y) (mwd y ad zw σ) sz)) (va_Qv (fun (u : Int32 × Int64 × Int64 × (Nat → Int64) × (Nat → Int64)) => (True) ∧ bJ u.2.2.2.1 (-1000000000) 1000000000 ∧ bJ u.2.2.2.2 0 1000000000) (fun (u : Int32 × Int64 × Int64 × (Nat → Int64) × (Nat → Int64)) => xB D (xT y) (va_A (mwd y ad zw σ) sz) (mwd y ad zw (tJ (tJ (sJ (sJ (sI σ 44 u.1) 42 u.2.1) 43 u.2.2.1) 75 u.2.2.2.1) 76 u.2.2.2.2))) (va_A (mwd y ad zw σ) sz)) 0 0 (va_A (mwd y ad zw σ) sz) := by
  refine x_metv (cc := cX12_bends) (maxL := 18) (by decide) rfl (Nat.le_of_ble_eq_true rfl) ?_
  intro p e s m below meth c A H locs Q hx hb hml hown hts hr hlocks hmn hA hP hK hD hS ls hl hQ
  have hl : lv_has ls 18 [(0, .ref (ad 1)), (1, .int k)] := hl
  have fl133 := hts (.fieldLink RX12 133 "SlopeRunnerModel" "first" "[I") (List.mem_of_getElem? (i := 1) rfl)
  have inX12 : ∀ w ∈ wsX120, w ∈ v_q_bends := (fun w h => List.mem_cons_of_mem _ (List.mem_append_right _ (List.mem_append_right _ (List.mem_append_right _ (List.mem_append_right _ (List.mem_append_right _ (List.mem_append_right _ (List.mem_append_right _ h))))))))
  have fl136 := hts (.fieldLink RX12 136 "SlopeRunnerModel" "second" "[I") (List.mem_of_getElem? (i := 2) rfl)
  have kk_3520 : (3520 : Int32).toInt = 3520 := rfl
  have fl130 := hts (.fieldLink RX12 130 "SlopeRunnerModel" "op" "[I") (List.mem_of_getElem? (i := 3) rfl)
  have fl167 := hts (.fieldLink RX12 167 "SlopeRunnerModel" "slopeUp" "[J") (List.mem_of_getElem? (i := 4) rfl)
  have fl170 := hts (.fieldLink RX12 170 "SlopeRunnerModel" "slopeDown" "[J") (List.mem_of_getElem? (i := 5) rfl)
  have fl387 := hts (.fieldLink RX12 387 "SlopeRunnerModel" "up" "J") (List.mem_of_getElem? (i := 6) rfl)
  have fl391 := hts (.fieldLink RX12 391 "SlopeRunnerModel" "down" "J") (List.mem_of_getElem? (i := 7) rfl)
  have kk_2 : (2 : Int32).toInt = 2 := rfl
  have fl124 := hts (.fieldLink RX12 124 "SlopeRunnerModel" "valueAbove" "[J") (List.mem_of_getElem? (i := 8) rfl)
  have fl127 := hts (.fieldLink RX12 127 "SlopeRunnerModel" "valueBelow" "[J") (List.mem_of_getElem? (i := 9) rfl)
  have kk_1760 : (1760 : Int32).toInt = 1760 := rfl
  have kl_0 : (0 : Int64).toInt = 0 := rfl
  have kl_1 : (1 : Int64).toInt = 1 := rfl
  refine lv_aload_n hx hb dX12_bends_0 rfl (lv_at hl 0 rfl) ?_
  refine va_get (D := D) (ci := 11) (v := .ref (ad 60)) (C := RX12) (T := TX12) (N := 85) hx hb hts inX12 hown hK hP 0 mwd_o0 rfl 60 (by decide) fl133 (fun _ h9 => h9) rfl dX12_bends_1 ?_
  refine lv_iload_n hx hb dX12_bends_4 rfl (lv_at hl 1 rfl) ?_
  refine va_iald hx hb hK hP 40 2 mwd_a40 rfl (x_in (by omega) (by omega)) dX12_bends_5 ?_
  refine lv_topi (fun i_1 ei_1 => ?_)
  have ei_1 : i_1 = (σ.2.2.1 60) (Int32.toNatClampNeg k) := ei_1
  have gi_1 := opc_1 hop hne ei_1
  refine lv_istore_n (lv' := [(2, .int i_1), (0, .ref (ad 1)), (1, .int k)]) hx hb dX12_bends_6 rfl hl (by decide) rfl (fun ls hl => ?_)
  refine lv_aload_n hx hb dX12_bends_7 rfl (lv_at hl 1 rfl) ?_
  refine va_get (D := D) (ci := 11) (v := .ref (ad 61)) (C := RX12) (T := TX12) (N := 85) hx hb hts inX12 hown hK hP 0 mwd_o0 rfl 61 (by decide) fl136 (fun _ h9 => h9) rfl dX12_bends_8 ?_
  refine lv_iload_n hx hb dX12_bends_11 rfl (lv_at hl 2 rfl) ?_
  refine va_iald hx hb hK hP 41 2 mwd_a41 rfl (x_in (by omega) (by omega)) dX12_bends_12 ?_
  refine lv_topi (fun i_2 ei_2 => ?_)
  have ei_2 : i_2 = (σ.2.2.1 61) (Int32.toNatClampNeg k) := ei_2
  have gi_2 := opc_2 hop hne ei_2
  refine lv_istore_n (lv' := [(3, .int i_2), (2, .int i_1), (0, .ref (ad 1)), (1, .int k)]) hx hb dX12_bends_13 rfl hl (by decide) rfl (fun ls hl => ?_)
  refine lv_sipush (v := 3520) hx hb dX12_bends_14 (by decide) ?_
  refine lv_iload_n hx hb dX12_bends_17 rfl (lv_at hl 1 rfl) ?_
  refine lv_iadd hx hb dX12_bends_18 ?_
  refine lv_topi (fun i_3 ei_3 => ?_)
  have vi_3 : i_3.toInt = 3520 + i_1.toInt := by have h9 := x_add ei_3 (by omega) (by omega); omega
  refine lv_istore (lv' := [(4, .int i_3), (3, .int i_2), (2, .int i_1), (0, .ref (ad 1)), (1, .int k)]) hx hb dX12_bends_19 hl (by decide) rfl (fun ls hl => ?_)
  refine lv_sipush (v := 3520) hx hb dX12_bends_21 (by decide) ?_
  refine lv_iload_n hx hb dX12_bends_24 rfl (lv_at hl 1 rfl) ?_
  refine lv_iadd hx hb dX12_bends_25 ?_
  refine lv_topi (fun i_4 ei_4 => ?_)
  have vi_4 : i_4.toInt = 3520 + i_2.toInt := by have h9 := x_add ei_4 (by omega) (by omega); omega
  refine lv_istore (lv' := [(5, .int i_4), (4, .int i_3), (3, .int i_2), (2, .int i_1), (0, .ref (ad 1)), (1, .int k)]) hx hb dX12_bends_26 hl (by decide) rfl (fun ls hl => ?_)
  refine lv_aload_n hx hb dX12_bends_28 rfl (lv_at hl 4 rfl) ?_
  refine va_get (D := D) (ci := 11) (v := .ref (ad 59)) (C := RX12) (T := TX12) (N := 85) hx hb hts inX12 hown hK hP 0 mwd_o0 rfl 59 (by decide) fl130 (fun _ h9 => h9) rfl dX12_bends_29 ?_
  refine lv_iload_n hx hb dX12_bends_32 rfl (lv_at hl 5 rfl) ?_
  refine va_iald hx hb hK hP 39 2 mwd_a39 rfl (x_in (by omega) (by omega)) dX12_bends_33 ?_
  refine lv_topi (fun i_5 ei_5 => ?_)
  have ei_5 : i_5 = (σ.2.2.1 59) (Int32.toNatClampNeg k) := ei_5
  rcases (show i_5 = 1 ∨ i_5 = 2 ∨ i_5 = 3 ∨ i_5 = 4 ∨ i_5 = 5 ∨ i_5 = 6 ∨ i_5 = 7 ∨ (i_5.toInt < 1 ∨ 7 < i_5.toInt) by simp only [x_eq, Int32.reduceToInt]; omega) with rfl | rfl | rfl | rfl | rfl | rfl | rfl | g_6
  · refine lv_tableIn (tgt := 76) hx hb dX12_bends_34 (by decide) (by decide) rfl (by decide) ?_
    refine lv_aload_n hx hb dX12_bends_76 rfl (lv_at hl 4 rfl) ?_
    refine lv_aload_n hx hb dX12_bends_77 rfl (lv_at hl 4 rfl) ?_
    refine va_get (D := D) (ci := 11) (v := .ref (ad 75)) (C := RX12) (T := TX12) (N := 85) hx hb hts inX12 hown hK hP 0 mwd_o0 rfl 75 (by decide) fl167 (fun _ h9 => h9) rfl dX12_bends_78 ?_
    refine lv_iload hx hb dX12_bends_81 (lv_at hl 1 rfl) ?_
    refine va_lald hx hb hK hP 51 3 mwd_a51 rfl (x_in (by omega) (by omega)) dX12_bends_83 ?_
    refine lv_topl (fun j_7 ej_7 => ?_)
    have ej_7 : j_7 = (σ.2.2.2 75) (Int32.toNatClampNeg i_3) := ej_7
    have bj_7 := b_atJ hB75 ej_7
    refine lv_aload_n hx hb dX12_bends_84 rfl (lv_at hl 4 rfl) ?_
    refine va_get (D := D) (ci := 11) (v := .ref (ad 76)) (C := RX12) (T := TX12) (N := 85) hx hb hts inX12 hown hK hP 0 mwd_o0 rfl 76 (by decide) fl170 (fun _ h9 => h9) rfl dX12_bends_85 ?_
    refine lv_iload hx hb dX12_bends_88 (lv_at hl 1 rfl) ?_
    refine va_lald hx hb hK hP 52 3 mwd_a52 rfl (x_in (by omega) (by omega)) dX12_bends_90 ?_
    refine lv_topl (fun j_8 ej_8 => ?_)
    have ej_8 : j_8 = (σ.2.2.2 76) (Int32.toNatClampNeg i_3) := ej_8
    have bj_8 := b_atJ hB76 ej_8
    refine lv_aload_n hx hb dX12_bends_91 rfl (lv_at hl 4 rfl) ?_
    refine va_get (D := D) (ci := 11) (v := .ref (ad 75)) (C := RX12) (T := TX12) (N := 85) hx hb hts inX12 hown hK hP 0 mwd_o0 rfl 75 (by decide) fl167 (fun _ h9 => h9) rfl dX12_bends_92 ?_
    refine lv_iload hx hb dX12_bends_95 (lv_at hl 0 rfl) ?_
    refine va_lald hx hb hK hP 51 3 mwd_a51 rfl (x_in (by omega) (by omega)) dX12_bends_97 ?_
    refine lv_topl (fun j_9 ej_9 => ?_)
    have ej_9 : j_9 = (σ.2.2.2 75) (Int32.toNatClampNeg i_4) := ej_9
    have bj_9 := b_atJ hB75 ej_9
    refine lv_aload_n hx hb dX12_bends_98 rfl (lv_at hl 4 rfl) ?_
    refine va_get (D := D) (ci := 11) (v := .ref (ad 76)) (C := RX12) (T := TX12) (N := 85) hx hb hts inX12 hown hK hP 0 mwd_o0 rfl 76 (by decide) fl170 (fun _ h9 => h9) rfl dX12_bends_99 ?_
    refine lv_iload hx hb dX12_bends_102 (lv_at hl 0 rfl) ?_
    refine va_lald hx hb hK hP 52 3 mwd_a52 rfl (x_in (by omega) (by omega)) dX12_bends_104 ?_
    refine lv_topl (fun j_10 ej_10 => ?_)
    have ej_10 : j_10 = (σ.2.2.2 76) (Int32.toNatClampNeg i_4) := ej_10
    have bj_10 := b_atJ hB76 ej_10
    refine x_callvW (va_runV (As := [.long j_7, .long j_8, .long j_9, .long j_10]) (rest := []) ⟨hx, hb, hml, hown, hts⟩ (q_adds l D y H.size ad zw σ j_7 j_8 j_9 j_10 (by first | omega | decide) (by first | omega | decide) (by first | omega | decide) (by first | omega | decide) (by first | omega | decide) (by first | omega | decide) (by first | omega | decide) (by first | omega | decide)) (cwV 4 hts g_q_bends_0 rfl rfl rfl (by decide +kernel) ⟨Nat.le_of_ble_eq_true rfl, Nat.le_of_ble_eq_true rfl⟩) (x_preV (q := (RX12, TX12, 85)) hK hP hD (ci := 11) (q0 := 0) rfl mwd_o0) rfl rfl hl.1 rfl (lv_room (Nat.le_of_ble_eq_true rfl)) dX12_bends_105 ⟨Nat.le_of_ble_eq_true rfl, Nat.le_of_ble_eq_true rfl⟩) hP hD hS hA (fun u H locs hw hP hD hS => ?_)
    obtain ⟨n_11, j_12, j_13⟩ := u
    try dsimp only at hw
    have hP : va_P D vwCl (mwd y ad zw (sJ (sJ (sI σ 44 n_11) 42 j_12) 43 j_13)) H := hP
    have hD : va_D A (mwd y ad zw (sJ (sJ (sI σ 44 n_11) 42 j_12) 43 j_13)) := hD
    have hw : -1000000000 ≤ j_12.toInt ∧ j_12.toInt ≤ 1000000000 ∧ 0 ≤ j_13.toInt ∧ j_13.toInt ≤ 1000000000 := hw
    refine lv_goto (tgt := 649) hx hb dX12_bends_108 (by decide) ?_
    refine lv_aload_n hx hb dX12_bends_649 rfl (lv_at hl 4 rfl) ?_
    refine lv_iconst (v := 2) hx hb dX12_bends_650 (by decide) ?_
    refine lv_iload_n hx hb dX12_bends_651 rfl (lv_at hl 5 rfl) ?_
    refine lv_aload_n hx hb dX12_bends_652 rfl (lv_at hl 4 rfl) ?_
    refine va_get (D := D) (ci := 11) (v := .long j_12) (C := RX12) (T := TX12) (N := 85) hx hb hts inX12 hown hK hP 0 mwd_o0 rfl 42 (by decide) fl387 (fun _ h9 => h9) rfl dX12_bends_653 ?_
    refine lv_aload_n hx hb dX12_bends_656 rfl (lv_at hl 4 rfl) ?_
    refine va_get (D := D) (ci := 11) (v := .long j_13) (C := RX12) (T := TX12) (N := 85) hx hb hts inX12 hown hK hP 0 mwd_o0 rfl 43 (by decide) fl391 (fun _ h9 => h9) rfl dX12_bends_657 ?_
    refine x_callvW (va_runV (As := [.int 2, .int k, .long j_12, .long j_13]) (rest := []) ⟨hx, hb, hml, hown, hts⟩ (q_lets2 l D y H.size ad zw (sJ (sJ (sI σ 44 n_11) 42 j_12) 43 j_13) k j_12 j_13 (by first | omega | decide) (by first | omega | decide) (by first | omega | decide) (by first | omega | decide) (by first | omega | decide) (by first | omega | decide) hB75 hB76) (cwV 4 hts g_q_bends_1 rfl rfl rfl (by decide +kernel) ⟨Nat.le_of_ble_eq_true rfl, Nat.le_of_ble_eq_true rfl⟩) (x_preV (q := (RX12, TX12, 85)) hK hP hD (ci := 11) (q0 := 0) rfl mwd_o0) rfl rfl hl.1 rfl (lv_room (Nat.le_of_ble_eq_true rfl)) dX12_bends_660 ⟨Nat.le_of_ble_eq_true rfl, Nat.le_of_ble_eq_true rfl⟩) hP hD hS hA (fun u H locs hw hP hD hS => ?_)
    obtain ⟨f_14, f_15⟩ := u
    try dsimp only at hw
    have hP : va_P D vwCl (mwd y ad zw (tJ (tJ (sJ (sJ (sI σ 44 n_11) 42 j_12) 43 j_13) 75 f_14) 76 f_15)) H := hP
    have hD : va_D A (mwd y ad zw (tJ (tJ (sJ (sJ (sI σ 44 n_11) 42 j_12) 43 j_13) 75 f_14) 76 f_15)) := hD
    have hw : (True) ∧ bJ f_14 (-1000000000) 1000000000 ∧ bJ f_15 0 1000000000 := hw
    obtain ⟨hw, hg_16, hg_17⟩ := hw
    exact x_vretW (u := (n_11, j_12, j_13, f_14, f_15)) hx hb hr hQ (by (try dsimp only); exact ⟨trivial, hg_16, hg_17⟩) hP hD hK hS dX12_bends_663 hlocks
  · refine lv_tableIn (tgt := 111) hx hb dX12_bends_34 (by decide) (by decide) rfl (by decide) ?_
    refine lv_aload_n hx hb dX12_bends_111 rfl (lv_at hl 4 rfl) ?_
    refine lv_aload_n hx hb dX12_bends_112 rfl (lv_at hl 4 rfl) ?_
    refine va_get (D := D) (ci := 11) (v := .ref (ad 75)) (C := RX12) (T := TX12) (N := 85) hx hb hts inX12 hown hK hP 0 mwd_o0 rfl 75 (by decide) fl167 (fun _ h9 => h9) rfl dX12_bends_113 ?_
    refine lv_iload hx hb dX12_bends_116 (lv_at hl 1 rfl) ?_
    refine va_lald hx hb hK hP 51 3 mwd_a51 rfl (x_in (by omega) (by omega)) dX12_bends_118 ?_
    refine lv_topl (fun j_18 ej_18 => ?_)
    have ej_18 : j_18 = (σ.2.2.2 75) (Int32.toNatClampNeg i_3) := ej_18
    have bj_18 := b_atJ hB75 ej_18
    refine lv_aload_n hx hb dX12_bends_119 rfl (lv_at hl 4 rfl) ?_
    refine va_get (D := D) (ci := 11) (v := .ref (ad 76)) (C := RX12) (T := TX12) (N := 85) hx hb hts inX12 hown hK hP 0 mwd_o0 rfl 76 (by decide) fl170 (fun _ h9 => h9) rfl dX12_bends_120 ?_
    refine lv_iload hx hb dX12_bends_123 (lv_at hl 1 rfl) ?_
    refine va_lald hx hb hK hP 52 3 mwd_a52 rfl (x_in (by omega) (by omega)) dX12_bends_125 ?_
    refine lv_topl (fun j_19 ej_19 => ?_)
    have ej_19 : j_19 = (σ.2.2.2 76) (Int32.toNatClampNeg i_3) := ej_19
    have bj_19 := b_atJ hB76 ej_19
    refine lv_aload_n hx hb dX12_bends_126 rfl (lv_at hl 4 rfl) ?_
    refine va_get (D := D) (ci := 11) (v := .ref (ad 75)) (C := RX12) (T := TX12) (N := 85) hx hb hts inX12 hown hK hP 0 mwd_o0 rfl 75 (by decide) fl167 (fun _ h9 => h9) rfl dX12_bends_127 ?_
    refine lv_iload hx hb dX12_bends_130 (lv_at hl 0 rfl) ?_
    refine va_lald hx hb hK hP 51 3 mwd_a51 rfl (x_in (by omega) (by omega)) dX12_bends_132 ?_
    refine lv_topl (fun j_20 ej_20 => ?_)
    have ej_20 : j_20 = (σ.2.2.2 75) (Int32.toNatClampNeg i_4) := ej_20
    have bj_20 := b_atJ hB75 ej_20
    refine lv_aload_n hx hb dX12_bends_133 rfl (lv_at hl 4 rfl) ?_
    refine va_get (D := D) (ci := 11) (v := .ref (ad 76)) (C := RX12) (T := TX12) (N := 85) hx hb hts inX12 hown hK hP 0 mwd_o0 rfl 76 (by decide) fl170 (fun _ h9 => h9) rfl dX12_bends_134 ?_
    refine lv_iload hx hb dX12_bends_137 (lv_at hl 0 rfl) ?_
    refine va_lald hx hb hK hP 52 3 mwd_a52 rfl (x_in (by omega) (by omega)) dX12_bends_139 ?_
    refine lv_topl (fun j_21 ej_21 => ?_)
    have ej_21 : j_21 = (σ.2.2.2 76) (Int32.toNatClampNeg i_4) := ej_21
    have bj_21 := b_atJ hB76 ej_21
    refine x_callvW (va_runV (As := [.long j_18, .long j_19, .long j_20, .long j_21]) (rest := []) ⟨hx, hb, hml, hown, hts⟩ (q_takesOff l D y H.size ad zw σ j_18 j_19 j_20 j_21 (by first | omega | decide) (by first | omega | decide) (by first | omega | decide) (by first | omega | decide) (by first | omega | decide) (by first | omega | decide) (by first | omega | decide) (by first | omega | decide)) (cwV 4 hts g_q_bends_2 rfl rfl rfl (by decide +kernel) ⟨Nat.le_of_ble_eq_true rfl, Nat.le_of_ble_eq_true rfl⟩) (x_preV (q := (RX12, TX12, 85)) hK hP hD (ci := 11) (q0 := 0) rfl mwd_o0) rfl rfl hl.1 rfl (lv_room (Nat.le_of_ble_eq_true rfl)) dX12_bends_140 ⟨Nat.le_of_ble_eq_true rfl, Nat.le_of_ble_eq_true rfl⟩) hP hD hS hA (fun u H locs hw hP hD hS => ?_)
    obtain ⟨n_22, j_23, j_24⟩ := u
    try dsimp only at hw
    have hP : va_P D vwCl (mwd y ad zw (sJ (sJ (sI σ 44 n_22) 42 j_23) 43 j_24)) H := hP
    have hD : va_D A (mwd y ad zw (sJ (sJ (sI σ 44 n_22) 42 j_23) 43 j_24)) := hD
    have hw : -1000000000 ≤ j_23.toInt ∧ j_23.toInt ≤ 1000000000 ∧ 0 ≤ j_24.toInt ∧ j_24.toInt ≤ 1000000000 := hw
    refine lv_goto (tgt := 649) hx hb dX12_bends_143 (by decide) ?_
    refine lv_aload_n hx hb dX12_bends_649 rfl (lv_at hl 4 rfl) ?_
    refine lv_iconst (v := 2) hx hb dX12_bends_650 (by decide) ?_
    refine lv_iload_n hx hb dX12_bends_651 rfl (lv_at hl 5 rfl) ?_
    refine lv_aload_n hx hb dX12_bends_652 rfl (lv_at hl 4 rfl) ?_
    refine va_get (D := D) (ci := 11) (v := .long j_23) (C := RX12) (T := TX12) (N := 85) hx hb hts inX12 hown hK hP 0 mwd_o0 rfl 42 (by decide) fl387 (fun _ h9 => h9) rfl dX12_bends_653 ?_
    refine lv_aload_n hx hb dX12_bends_656 rfl (lv_at hl 4 rfl) ?_
    refine va_get (D := D) (ci := 11) (v := .long j_24) (C := RX12) (T := TX12) (N := 85) hx hb hts inX12 hown hK hP 0 mwd_o0 rfl 43 (by decide) fl391 (fun _ h9 => h9) rfl dX12_bends_657 ?_
    refine x_callvW (va_runV (As := [.int 2, .int k, .long j_23, .long j_24]) (rest := []) ⟨hx, hb, hml, hown, hts⟩ (q_lets2 l D y H.size ad zw (sJ (sJ (sI σ 44 n_22) 42 j_23) 43 j_24) k j_23 j_24 (by first | omega | decide) (by first | omega | decide) (by first | omega | decide) (by first | omega | decide) (by first | omega | decide) (by first | omega | decide) hB75 hB76) (cwV 4 hts g_q_bends_1 rfl rfl rfl (by decide +kernel) ⟨Nat.le_of_ble_eq_true rfl, Nat.le_of_ble_eq_true rfl⟩) (x_preV (q := (RX12, TX12, 85)) hK hP hD (ci := 11) (q0 := 0) rfl mwd_o0) rfl rfl hl.1 rfl (lv_room (Nat.le_of_ble_eq_true rfl)) dX12_bends_660 ⟨Nat.le_of_ble_eq_true rfl, Nat.le_of_ble_eq_true rfl⟩) hP hD hS hA (fun u H locs hw hP hD hS => ?_)
    obtain ⟨f_25, f_26⟩ := u
    try dsimp only at hw
    have hP : va_P D vwCl (mwd y ad zw (tJ (tJ (sJ (sJ (sI σ 44 n_22) 42 j_23) 43 j_24) 75 f_25) 76 f_26)) H := hP
    have hD : va_D A (mwd y ad zw (tJ (tJ (sJ (sJ (sI σ 44 n_22) 42 j_23) 43 j_24) 75 f_25) 76 f_26)) := hD
    have hw : (True) ∧ bJ f_25 (-1000000000) 1000000000 ∧ bJ f_26 0 1000000000 := hw
    obtain ⟨hw, hg_27, hg_28⟩ := hw
    exact x_vretW (u := (n_22, j_23, j_24, f_25, f_26)) hx hb hr hQ (by (try dsimp only); exact ⟨trivial, hg_27, hg_28⟩) hP hD hK hS dX12_bends_663 hlocks
  · refine lv_tableIn (tgt := 146) hx hb dX12_bends_34 (by decide) (by decide) rfl (by decide) ?_
    refine lv_aload_n hx hb dX12_bends_146 rfl (lv_at hl 4 rfl) ?_
    refine lv_aload_n hx hb dX12_bends_147 rfl (lv_at hl 4 rfl) ?_
    refine va_get (D := D) (ci := 11) (v := .ref (ad 75)) (C := RX12) (T := TX12) (N := 85) hx hb hts inX12 hown hK hP 0 mwd_o0 rfl 75 (by decide) fl167 (fun _ h9 => h9) rfl dX12_bends_148 ?_
    refine lv_iload hx hb dX12_bends_151 (lv_at hl 1 rfl) ?_
    refine va_lald hx hb hK hP 51 3 mwd_a51 rfl (x_in (by omega) (by omega)) dX12_bends_153 ?_
    refine lv_topl (fun j_29 ej_29 => ?_)
    have ej_29 : j_29 = (σ.2.2.2 75) (Int32.toNatClampNeg i_3) := ej_29
    have bj_29 := b_atJ hB75 ej_29
    refine lv_aload_n hx hb dX12_bends_154 rfl (lv_at hl 4 rfl) ?_
    refine va_get (D := D) (ci := 11) (v := .ref (ad 76)) (C := RX12) (T := TX12) (N := 85) hx hb hts inX12 hown hK hP 0 mwd_o0 rfl 76 (by decide) fl170 (fun _ h9 => h9) rfl dX12_bends_155 ?_
    refine lv_iload hx hb dX12_bends_158 (lv_at hl 1 rfl) ?_
    refine va_lald hx hb hK hP 52 3 mwd_a52 rfl (x_in (by omega) (by omega)) dX12_bends_160 ?_
    refine lv_topl (fun j_30 ej_30 => ?_)
    have ej_30 : j_30 = (σ.2.2.2 76) (Int32.toNatClampNeg i_3) := ej_30
    have bj_30 := b_atJ hB76 ej_30
    refine lv_aload_n hx hb dX12_bends_161 rfl (lv_at hl 4 rfl) ?_
    refine va_get (D := D) (ci := 11) (v := .ref (ad 57)) (C := RX12) (T := TX12) (N := 85) hx hb hts inX12 hown hK hP 0 mwd_o0 rfl 57 (by decide) fl124 (fun _ h9 => h9) rfl dX12_bends_162 ?_
    refine lv_iload_n hx hb dX12_bends_165 rfl (lv_at hl 2 rfl) ?_
    refine va_lald hx hb hK hP 37 3 mwd_a37 rfl (x_in (by omega) (by omega)) dX12_bends_166 ?_
    refine lv_topl (fun j_31 ej_31 => ?_)
    have ej_31 : j_31 = (σ.2.2.2 57) (Int32.toNatClampNeg i_2) := ej_31
    have bj_31 := b_atJ hB57 ej_31
    refine lv_aload_n hx hb dX12_bends_167 rfl (lv_at hl 4 rfl) ?_
    refine va_get (D := D) (ci := 11) (v := .ref (ad 58)) (C := RX12) (T := TX12) (N := 85) hx hb hts inX12 hown hK hP 0 mwd_o0 rfl 58 (by decide) fl127 (fun _ h9 => h9) rfl dX12_bends_168 ?_
    refine lv_iload_n hx hb dX12_bends_171 rfl (lv_at hl 2 rfl) ?_
    refine va_lald hx hb hK hP 38 3 mwd_a38 rfl (x_in (by omega) (by omega)) dX12_bends_172 ?_
    refine lv_topl (fun j_32 ej_32 => ?_)
    have ej_32 : j_32 = (σ.2.2.2 58) (Int32.toNatClampNeg i_2) := ej_32
    have bj_32 := b_atJ hB58 ej_32
    refine x_callvW (va_runV (As := [.long j_29, .long j_30, .long j_31, .long j_32]) (rest := []) ⟨hx, hb, hml, hown, hts⟩ (q_multiplies l D y H.size ad zw σ j_29 j_30 j_31 j_32 (by first | omega | decide) (by first | omega | decide) (by first | omega | decide) (by first | omega | decide) (by first | omega | decide) (by first | omega | decide) (by first | omega | decide) (by first | omega | decide)) (cwV 4 hts g_q_bends_3 rfl rfl rfl (by decide +kernel) ⟨Nat.le_of_ble_eq_true rfl, Nat.le_of_ble_eq_true rfl⟩) (x_preV (q := (RX12, TX12, 85)) hK hP hD (ci := 11) (q0 := 0) rfl mwd_o0) rfl rfl hl.1 rfl (lv_room (Nat.le_of_ble_eq_true rfl)) dX12_bends_173 ⟨Nat.le_of_ble_eq_true rfl, Nat.le_of_ble_eq_true rfl⟩) hP hD hS hA (fun u H locs hw hP hD hS => ?_)
    obtain ⟨n_33, j_34, j_35⟩ := u
    try dsimp only at hw
    have hP : va_P D vwCl (mwd y ad zw (sJ (sJ (sI σ 44 n_33) 42 j_34) 43 j_35)) H := hP
    have hD : va_D A (mwd y ad zw (sJ (sJ (sI σ 44 n_33) 42 j_34) 43 j_35)) := hD
    have hw : -1000000000 ≤ j_34.toInt ∧ j_34.toInt ≤ 1000000000 ∧ 0 ≤ j_35.toInt ∧ j_35.toInt ≤ 1000000000 := hw
    refine lv_aload_n hx hb dX12_bends_176 rfl (lv_at hl 4 rfl) ?_
    refine va_get (D := D) (ci := 11) (v := .long j_34) (C := RX12) (T := TX12) (N := 85) hx hb hts inX12 hown hK hP 0 mwd_o0 rfl 42 (by decide) fl387 (fun _ h9 => h9) rfl dX12_bends_177 ?_
    refine lv_lstore (lv' := [(6, .long j_34), (5, .int i_4), (4, .int i_3), (3, .int i_2), (2, .int i_1), (0, .ref (ad 1)), (1, .int k)]) hx hb dX12_bends_180 hl (by decide) rfl (fun ls hl => ?_)
    refine lv_aload_n hx hb dX12_bends_182 rfl (lv_at hl 5 rfl) ?_
    refine va_get (D := D) (ci := 11) (v := .long j_35) (C := RX12) (T := TX12) (N := 85) hx hb hts inX12 hown hK hP 0 mwd_o0 rfl 43 (by decide) fl391 (fun _ h9 => h9) rfl dX12_bends_183 ?_
    refine lv_lstore (lv' := [(8, .long j_35), (6, .long j_34), (5, .int i_4), (4, .int i_3), (3, .int i_2), (2, .int i_1), (0, .ref (ad 1)), (1, .int k)]) hx hb dX12_bends_186 hl (by decide) rfl (fun ls hl => ?_)
    refine lv_aload_n hx hb dX12_bends_188 rfl (lv_at hl 6 rfl) ?_
    refine lv_aload_n hx hb dX12_bends_189 rfl (lv_at hl 6 rfl) ?_
    refine va_get (D := D) (ci := 11) (v := .ref (ad 75)) (C := RX12) (T := TX12) (N := 85) hx hb hts inX12 hown hK hP 0 mwd_o0 rfl 75 (by decide) fl167 (fun _ h9 => h9) rfl dX12_bends_190 ?_
    refine lv_iload_n hx hb dX12_bends_193 rfl (lv_at hl 5 rfl) ?_
    refine va_lald hx hb hK hP 51 3 mwd_a51 rfl (x_in (by omega) (by omega)) dX12_bends_194 ?_
    refine lv_topl (fun j_36 ej_36 => ?_)
    have ej_36 : j_36 = (σ.2.2.2 75) (Int32.toNatClampNeg i_1) := ej_36
    have bj_36 := b_atJ hB75 ej_36
    refine lv_aload_n hx hb dX12_bends_195 rfl (lv_at hl 6 rfl) ?_
    refine va_get (D := D) (ci := 11) (v := .ref (ad 76)) (C := RX12) (T := TX12) (N := 85) hx hb hts inX12 hown hK hP 0 mwd_o0 rfl 76 (by decide) fl170 (fun _ h9 => h9) rfl dX12_bends_196 ?_
    refine lv_iload_n hx hb dX12_bends_199 rfl (lv_at hl 5 rfl) ?_
    refine va_lald hx hb hK hP 52 3 mwd_a52 rfl (x_in (by omega) (by omega)) dX12_bends_200 ?_
    refine lv_topl (fun j_37 ej_37 => ?_)
    have ej_37 : j_37 = (σ.2.2.2 76) (Int32.toNatClampNeg i_1) := ej_37
    have bj_37 := b_atJ hB76 ej_37
    refine lv_aload_n hx hb dX12_bends_201 rfl (lv_at hl 6 rfl) ?_
    refine va_get (D := D) (ci := 11) (v := .ref (ad 75)) (C := RX12) (T := TX12) (N := 85) hx hb hts inX12 hown hK hP 0 mwd_o0 rfl 75 (by decide) fl167 (fun _ h9 => h9) rfl dX12_bends_202 ?_
    refine lv_sipush (v := 1760) hx hb dX12_bends_205 (by decide) ?_
    refine lv_iload_n hx hb dX12_bends_208 rfl (lv_at hl 4 rfl) ?_
    refine lv_iadd hx hb dX12_bends_209 ?_
    refine lv_topi (fun i_38 ei_38 => ?_)
    have vi_38 : i_38.toInt = 1760 + i_2.toInt := by have h9 := x_add ei_38 (by omega) (by omega); omega
    refine va_lald hx hb hK hP 51 3 mwd_a51 rfl (x_in (by omega) (by omega)) dX12_bends_210 ?_
    refine lv_topl (fun j_39 ej_39 => ?_)
    have ej_39 : j_39 = (σ.2.2.2 75) (Int32.toNatClampNeg i_38) := ej_39
    have bj_39 := b_atJ hB75 ej_39
    refine lv_aload_n hx hb dX12_bends_211 rfl (lv_at hl 6 rfl) ?_
    refine va_get (D := D) (ci := 11) (v := .ref (ad 76)) (C := RX12) (T := TX12) (N := 85) hx hb hts inX12 hown hK hP 0 mwd_o0 rfl 76 (by decide) fl170 (fun _ h9 => h9) rfl dX12_bends_212 ?_
    refine lv_sipush (v := 1760) hx hb dX12_bends_215 (by decide) ?_
    refine lv_iload_n hx hb dX12_bends_218 rfl (lv_at hl 4 rfl) ?_
    refine lv_iadd hx hb dX12_bends_219 ?_
    refine lv_topi (fun i_40 ei_40 => ?_)
    have vi_40 : i_40.toInt = 1760 + i_2.toInt := by have h9 := x_add ei_40 (by omega) (by omega); omega
    refine va_lald hx hb hK hP 52 3 mwd_a52 rfl (x_in (by omega) (by omega)) dX12_bends_220 ?_
    refine lv_topl (fun j_41 ej_41 => ?_)
    have ej_41 : j_41 = (σ.2.2.2 76) (Int32.toNatClampNeg i_40) := ej_41
    have bj_41 := b_atJ hB76 ej_41
    refine x_callvW (va_runV (As := [.long j_36, .long j_37, .long j_39, .long j_41]) (rest := []) ⟨hx, hb, hml, hown, hts⟩ (q_multiplies l D y H.size ad zw (sJ (sJ (sI σ 44 n_33) 42 j_34) 43 j_35) j_36 j_37 j_39 j_41 (by first | omega | decide) (by first | omega | decide) (by first | omega | decide) (by first | omega | decide) (by first | omega | decide) (by first | omega | decide) (by first | omega | decide) (by first | omega | decide)) (cwV 4 hts g_q_bends_3 rfl rfl rfl (by decide +kernel) ⟨Nat.le_of_ble_eq_true rfl, Nat.le_of_ble_eq_true rfl⟩) (x_preV (q := (RX12, TX12, 85)) hK hP hD (ci := 11) (q0 := 0) rfl mwd_o0) rfl rfl hl.1 rfl (lv_room (Nat.le_of_ble_eq_true rfl)) dX12_bends_221 ⟨Nat.le_of_ble_eq_true rfl, Nat.le_of_ble_eq_true rfl⟩) hP hD hS hA (fun u H locs hw hP hD hS => ?_)
    obtain ⟨n_42, j_43, j_44⟩ := u
    try dsimp only at hw
    have hP : va_P D vwCl (mwd y ad zw (sJ (sJ (sI (sJ (sJ (sI σ 44 n_33) 42 j_34) 43 j_35) 44 n_42) 42 j_43) 43 j_44)) H := hP
    have hD : va_D A (mwd y ad zw (sJ (sJ (sI (sJ (sJ (sI σ 44 n_33) 42 j_34) 43 j_35) 44 n_42) 42 j_43) 43 j_44)) := hD
    have hw : -1000000000 ≤ j_43.toInt ∧ j_43.toInt ≤ 1000000000 ∧ 0 ≤ j_44.toInt ∧ j_44.toInt ≤ 1000000000 := hw
    refine lv_aload_n hx hb dX12_bends_224 rfl (lv_at hl 6 rfl) ?_
    refine lv_lload hx hb dX12_bends_225 (lv_at hl 1 rfl) ?_
    refine lv_lload hx hb dX12_bends_227 (lv_at hl 0 rfl) ?_
    refine lv_aload_n hx hb dX12_bends_229 rfl (lv_at hl 6 rfl) ?_
    refine va_get (D := D) (ci := 11) (v := .long j_43) (C := RX12) (T := TX12) (N := 85) hx hb hts inX12 hown hK hP 0 mwd_o0 rfl 42 (by decide) fl387 (fun _ h9 => h9) rfl dX12_bends_230 ?_
    refine lv_aload_n hx hb dX12_bends_233 rfl (lv_at hl 6 rfl) ?_
    refine va_get (D := D) (ci := 11) (v := .long j_44) (C := RX12) (T := TX12) (N := 85) hx hb hts inX12 hown hK hP 0 mwd_o0 rfl 43 (by decide) fl391 (fun _ h9 => h9) rfl dX12_bends_234 ?_
    refine x_callvW (va_runV (As := [.long j_34, .long j_35, .long j_43, .long j_44]) (rest := []) ⟨hx, hb, hml, hown, hts⟩ (q_adds l D y H.size ad zw (sJ (sJ (sI (sJ (sJ (sI σ 44 n_33) 42 j_34) 43 j_35) 44 n_42) 42 j_43) 43 j_44) j_34 j_35 j_43 j_44 (by first | omega | decide) (by first | omega | decide) (by first | omega | decide) (by first | omega | decide) (by first | omega | decide) (by first | omega | decide) (by first | omega | decide) (by first | omega | decide)) (cwV 4 hts g_q_bends_0 rfl rfl rfl (by decide +kernel) ⟨Nat.le_of_ble_eq_true rfl, Nat.le_of_ble_eq_true rfl⟩) (x_preV (q := (RX12, TX12, 85)) hK hP hD (ci := 11) (q0 := 0) rfl mwd_o0) rfl rfl hl.1 rfl (lv_room (Nat.le_of_ble_eq_true rfl)) dX12_bends_237 ⟨Nat.le_of_ble_eq_true rfl, Nat.le_of_ble_eq_true rfl⟩) hP hD hS hA (fun u H locs hw hP hD hS => ?_)
    obtain ⟨n_45, j_46, j_47⟩ := u
    try dsimp only at hw
    have hP : va_P D vwCl (mwd y ad zw (sJ (sJ (sI (sJ (sJ (sI (sJ (sJ (sI σ 44 n_33) 42 j_34) 43 j_35) 44 n_42) 42 j_43) 43 j_44) 44 n_45) 42 j_46) 43 j_47)) H := hP
    have hD : va_D A (mwd y ad zw (sJ (sJ (sI (sJ (sJ (sI (sJ (sJ (sI σ 44 n_33) 42 j_34) 43 j_35) 44 n_42) 42 j_43) 43 j_44) 44 n_45) 42 j_46) 43 j_47)) := hD
    have hw : -1000000000 ≤ j_46.toInt ∧ j_46.toInt ≤ 1000000000 ∧ 0 ≤ j_47.toInt ∧ j_47.toInt ≤ 1000000000 := hw
    refine lv_aload_n hx hb dX12_bends_240 rfl (lv_at hl 6 rfl) ?_
    refine va_get (D := D) (ci := 11) (v := .long j_46) (C := RX12) (T := TX12) (N := 85) hx hb hts inX12 hown hK hP 0 mwd_o0 rfl 42 (by decide) fl387 (fun _ h9 => h9) rfl dX12_bends_241 ?_
    refine lv_lstore (lv' := [(6, .long j_46), (8, .long j_35), (5, .int i_4), (4, .int i_3), (3, .int i_2), (2, .int i_1), (0, .ref (ad 1)), (1, .int k)]) hx hb dX12_bends_244 hl (by decide) rfl (fun ls hl => ?_)
    refine lv_aload_n hx hb dX12_bends_246 rfl (lv_at hl 6 rfl) ?_
    refine va_get (D := D) (ci := 11) (v := .long j_47) (C := RX12) (T := TX12) (N := 85) hx hb hts inX12 hown hK hP 0 mwd_o0 rfl 43 (by decide) fl391 (fun _ h9 => h9) rfl dX12_bends_247 ?_
    refine lv_lstore (lv' := [(8, .long j_47), (6, .long j_46), (5, .int i_4), (4, .int i_3), (3, .int i_2), (2, .int i_1), (0, .ref (ad 1)), (1, .int k)]) hx hb dX12_bends_250 hl (by decide) rfl (fun ls hl => ?_)
    refine lv_aload_n hx hb dX12_bends_252 rfl (lv_at hl 6 rfl) ?_
    refine lv_aload_n hx hb dX12_bends_253 rfl (lv_at hl 6 rfl) ?_
    refine va_get (D := D) (ci := 11) (v := .ref (ad 75)) (C := RX12) (T := TX12) (N := 85) hx hb hts inX12 hown hK hP 0 mwd_o0 rfl 75 (by decide) fl167 (fun _ h9 => h9) rfl dX12_bends_254 ?_
    refine lv_sipush (v := 1760) hx hb dX12_bends_257 (by decide) ?_
    refine lv_iload_n hx hb dX12_bends_260 rfl (lv_at hl 5 rfl) ?_
    refine lv_iadd hx hb dX12_bends_261 ?_
    refine lv_topi (fun i_48 ei_48 => ?_)
    have vi_48 : i_48.toInt = 1760 + i_1.toInt := by have h9 := x_add ei_48 (by omega) (by omega); omega
    refine va_lald hx hb hK hP 51 3 mwd_a51 rfl (x_in (by omega) (by omega)) dX12_bends_262 ?_
    refine lv_topl (fun j_49 ej_49 => ?_)
    have ej_49 : j_49 = (σ.2.2.2 75) (Int32.toNatClampNeg i_48) := ej_49
    have bj_49 := b_atJ hB75 ej_49
    refine lv_aload_n hx hb dX12_bends_263 rfl (lv_at hl 6 rfl) ?_
    refine va_get (D := D) (ci := 11) (v := .ref (ad 76)) (C := RX12) (T := TX12) (N := 85) hx hb hts inX12 hown hK hP 0 mwd_o0 rfl 76 (by decide) fl170 (fun _ h9 => h9) rfl dX12_bends_264 ?_
    refine lv_sipush (v := 1760) hx hb dX12_bends_267 (by decide) ?_
    refine lv_iload_n hx hb dX12_bends_270 rfl (lv_at hl 5 rfl) ?_
    refine lv_iadd hx hb dX12_bends_271 ?_
    refine lv_topi (fun i_50 ei_50 => ?_)
    have vi_50 : i_50.toInt = 1760 + i_1.toInt := by have h9 := x_add ei_50 (by omega) (by omega); omega
    refine va_lald hx hb hK hP 52 3 mwd_a52 rfl (x_in (by omega) (by omega)) dX12_bends_272 ?_
    refine lv_topl (fun j_51 ej_51 => ?_)
    have ej_51 : j_51 = (σ.2.2.2 76) (Int32.toNatClampNeg i_50) := ej_51
    have bj_51 := b_atJ hB76 ej_51
    refine lv_aload_n hx hb dX12_bends_273 rfl (lv_at hl 6 rfl) ?_
    refine va_get (D := D) (ci := 11) (v := .ref (ad 75)) (C := RX12) (T := TX12) (N := 85) hx hb hts inX12 hown hK hP 0 mwd_o0 rfl 75 (by decide) fl167 (fun _ h9 => h9) rfl dX12_bends_274 ?_
    refine lv_iload_n hx hb dX12_bends_277 rfl (lv_at hl 4 rfl) ?_
    refine va_lald hx hb hK hP 51 3 mwd_a51 rfl (x_in (by omega) (by omega)) dX12_bends_278 ?_
    refine lv_topl (fun j_52 ej_52 => ?_)
    have ej_52 : j_52 = (σ.2.2.2 75) (Int32.toNatClampNeg i_2) := ej_52
    have bj_52 := b_atJ hB75 ej_52
    refine lv_aload_n hx hb dX12_bends_279 rfl (lv_at hl 6 rfl) ?_
    refine va_get (D := D) (ci := 11) (v := .ref (ad 76)) (C := RX12) (T := TX12) (N := 85) hx hb hts inX12 hown hK hP 0 mwd_o0 rfl 76 (by decide) fl170 (fun _ h9 => h9) rfl dX12_bends_280 ?_
    refine lv_iload_n hx hb dX12_bends_283 rfl (lv_at hl 4 rfl) ?_
    refine va_lald hx hb hK hP 52 3 mwd_a52 rfl (x_in (by omega) (by omega)) dX12_bends_284 ?_
    refine lv_topl (fun j_53 ej_53 => ?_)
    have ej_53 : j_53 = (σ.2.2.2 76) (Int32.toNatClampNeg i_2) := ej_53
    have bj_53 := b_atJ hB76 ej_53
    refine x_callvW (va_runV (As := [.long j_49, .long j_51, .long j_52, .long j_53]) (rest := []) ⟨hx, hb, hml, hown, hts⟩ (q_multiplies l D y H.size ad zw (sJ (sJ (sI (sJ (sJ (sI (sJ (sJ (sI σ 44 n_33) 42 j_34) 43 j_35) 44 n_42) 42 j_43) 43 j_44) 44 n_45) 42 j_46) 43 j_47) j_49 j_51 j_52 j_53 (by first | omega | decide) (by first | omega | decide) (by first | omega | decide) (by first | omega | decide) (by first | omega | decide) (by first | omega | decide) (by first | omega | decide) (by first | omega | decide)) (cwV 4 hts g_q_bends_3 rfl rfl rfl (by decide +kernel) ⟨Nat.le_of_ble_eq_true rfl, Nat.le_of_ble_eq_true rfl⟩) (x_preV (q := (RX12, TX12, 85)) hK hP hD (ci := 11) (q0 := 0) rfl mwd_o0) rfl rfl hl.1 rfl (lv_room (Nat.le_of_ble_eq_true rfl)) dX12_bends_285 ⟨Nat.le_of_ble_eq_true rfl, Nat.le_of_ble_eq_true rfl⟩) hP hD hS hA (fun u H locs hw hP hD hS => ?_)
    obtain ⟨n_54, j_55, j_56⟩ := u
    try dsimp only at hw
    have hP : va_P D vwCl (mwd y ad zw (sJ (sJ (sI (sJ (sJ (sI (sJ (sJ (sI (sJ (sJ (sI σ 44 n_33) 42 j_34) 43 j_35) 44 n_42) 42 j_43) 43 j_44) 44 n_45) 42 j_46) 43 j_47) 44 n_54) 42 j_55) 43 j_56)) H := hP
    have hD : va_D A (mwd y ad zw (sJ (sJ (sI (sJ (sJ (sI (sJ (sJ (sI (sJ (sJ (sI σ 44 n_33) 42 j_34) 43 j_35) 44 n_42) 42 j_43) 43 j_44) 44 n_45) 42 j_46) 43 j_47) 44 n_54) 42 j_55) 43 j_56)) := hD
    have hw : -1000000000 ≤ j_55.toInt ∧ j_55.toInt ≤ 1000000000 ∧ 0 ≤ j_56.toInt ∧ j_56.toInt ≤ 1000000000 := hw
    refine lv_aload_n hx hb dX12_bends_288 rfl (lv_at hl 6 rfl) ?_
    refine va_get (D := D) (ci := 11) (v := .long j_55) (C := RX12) (T := TX12) (N := 85) hx hb hts inX12 hown hK hP 0 mwd_o0 rfl 42 (by decide) fl387 (fun _ h9 => h9) rfl dX12_bends_289 ?_
    refine lv_lstore (lv' := [(10, .long j_55), (8, .long j_47), (6, .long j_46), (5, .int i_4), (4, .int i_3), (3, .int i_2), (2, .int i_1), (0, .ref (ad 1)), (1, .int k)]) hx hb dX12_bends_292 hl (by decide) rfl (fun ls hl => ?_)
    refine lv_aload_n hx hb dX12_bends_294 rfl (lv_at hl 7 rfl) ?_
    refine va_get (D := D) (ci := 11) (v := .long j_56) (C := RX12) (T := TX12) (N := 85) hx hb hts inX12 hown hK hP 0 mwd_o0 rfl 43 (by decide) fl391 (fun _ h9 => h9) rfl dX12_bends_295 ?_
    refine lv_lstore (lv' := [(12, .long j_56), (10, .long j_55), (8, .long j_47), (6, .long j_46), (5, .int i_4), (4, .int i_3), (3, .int i_2), (2, .int i_1), (0, .ref (ad 1)), (1, .int k)]) hx hb dX12_bends_298 hl (by decide) rfl (fun ls hl => ?_)
    refine lv_aload_n hx hb dX12_bends_300 rfl (lv_at hl 8 rfl) ?_
    refine lv_aload_n hx hb dX12_bends_301 rfl (lv_at hl 8 rfl) ?_
    refine va_get (D := D) (ci := 11) (v := .ref (ad 57)) (C := RX12) (T := TX12) (N := 85) hx hb hts inX12 hown hK hP 0 mwd_o0 rfl 57 (by decide) fl124 (fun _ h9 => h9) rfl dX12_bends_302 ?_
    refine lv_iload_n hx hb dX12_bends_305 rfl (lv_at hl 7 rfl) ?_
    refine va_lald hx hb hK hP 37 3 mwd_a37 rfl (x_in (by omega) (by omega)) dX12_bends_306 ?_
    refine lv_topl (fun j_57 ej_57 => ?_)
    have ej_57 : j_57 = (σ.2.2.2 57) (Int32.toNatClampNeg i_1) := ej_57
    have bj_57 := b_atJ hB57 ej_57
    refine lv_aload_n hx hb dX12_bends_307 rfl (lv_at hl 8 rfl) ?_
    refine va_get (D := D) (ci := 11) (v := .ref (ad 58)) (C := RX12) (T := TX12) (N := 85) hx hb hts inX12 hown hK hP 0 mwd_o0 rfl 58 (by decide) fl127 (fun _ h9 => h9) rfl dX12_bends_308 ?_
    refine lv_iload_n hx hb dX12_bends_311 rfl (lv_at hl 7 rfl) ?_
    refine va_lald hx hb hK hP 38 3 mwd_a38 rfl (x_in (by omega) (by omega)) dX12_bends_312 ?_
    refine lv_topl (fun j_58 ej_58 => ?_)
    have ej_58 : j_58 = (σ.2.2.2 58) (Int32.toNatClampNeg i_1) := ej_58
    have bj_58 := b_atJ hB58 ej_58
    refine lv_aload_n hx hb dX12_bends_313 rfl (lv_at hl 8 rfl) ?_
    refine va_get (D := D) (ci := 11) (v := .ref (ad 75)) (C := RX12) (T := TX12) (N := 85) hx hb hts inX12 hown hK hP 0 mwd_o0 rfl 75 (by decide) fl167 (fun _ h9 => h9) rfl dX12_bends_314 ?_
    refine lv_iload hx hb dX12_bends_317 (lv_at hl 4 rfl) ?_
    refine va_lald hx hb hK hP 51 3 mwd_a51 rfl (x_in (by omega) (by omega)) dX12_bends_319 ?_
    refine lv_topl (fun j_59 ej_59 => ?_)
    have ej_59 : j_59 = (σ.2.2.2 75) (Int32.toNatClampNeg i_4) := ej_59
    have bj_59 := b_atJ hB75 ej_59
    refine lv_aload_n hx hb dX12_bends_320 rfl (lv_at hl 8 rfl) ?_
    refine va_get (D := D) (ci := 11) (v := .ref (ad 76)) (C := RX12) (T := TX12) (N := 85) hx hb hts inX12 hown hK hP 0 mwd_o0 rfl 76 (by decide) fl170 (fun _ h9 => h9) rfl dX12_bends_321 ?_
    refine lv_iload hx hb dX12_bends_324 (lv_at hl 4 rfl) ?_
    refine va_lald hx hb hK hP 52 3 mwd_a52 rfl (x_in (by omega) (by omega)) dX12_bends_326 ?_
    refine lv_topl (fun j_60 ej_60 => ?_)
    have ej_60 : j_60 = (σ.2.2.2 76) (Int32.toNatClampNeg i_4) := ej_60
    have bj_60 := b_atJ hB76 ej_60
    refine x_callvW (va_runV (As := [.long j_57, .long j_58, .long j_59, .long j_60]) (rest := []) ⟨hx, hb, hml, hown, hts⟩ (q_multiplies l D y H.size ad zw (sJ (sJ (sI (sJ (sJ (sI (sJ (sJ (sI (sJ (sJ (sI σ 44 n_33) 42 j_34) 43 j_35) 44 n_42) 42 j_43) 43 j_44) 44 n_45) 42 j_46) 43 j_47) 44 n_54) 42 j_55) 43 j_56) j_57 j_58 j_59 j_60 (by first | omega | decide) (by first | omega | decide) (by first | omega | decide) (by first | omega | decide) (by first | omega | decide) (by first | omega | decide) (by first | omega | decide) (by first | omega | decide)) (cwV 4 hts g_q_bends_3 rfl rfl rfl (by decide +kernel) ⟨Nat.le_of_ble_eq_true rfl, Nat.le_of_ble_eq_true rfl⟩) (x_preV (q := (RX12, TX12, 85)) hK hP hD (ci := 11) (q0 := 0) rfl mwd_o0) rfl rfl hl.1 rfl (lv_room (Nat.le_of_ble_eq_true rfl)) dX12_bends_327 ⟨Nat.le_of_ble_eq_true rfl, Nat.le_of_ble_eq_true rfl⟩) hP hD hS hA (fun u H locs hw hP hD hS => ?_)
    obtain ⟨n_61, j_62, j_63⟩ := u
    try dsimp only at hw
    have hP : va_P D vwCl (mwd y ad zw (sJ (sJ (sI (sJ (sJ (sI (sJ (sJ (sI (sJ (sJ (sI (sJ (sJ (sI σ 44 n_33) 42 j_34) 43 j_35) 44 n_42) 42 j_43) 43 j_44) 44 n_45) 42 j_46) 43 j_47) 44 n_54) 42 j_55) 43 j_56) 44 n_61) 42 j_62) 43 j_63)) H := hP
    have hD : va_D A (mwd y ad zw (sJ (sJ (sI (sJ (sJ (sI (sJ (sJ (sI (sJ (sJ (sI (sJ (sJ (sI σ 44 n_33) 42 j_34) 43 j_35) 44 n_42) 42 j_43) 43 j_44) 44 n_45) 42 j_46) 43 j_47) 44 n_54) 42 j_55) 43 j_56) 44 n_61) 42 j_62) 43 j_63)) := hD
    have hw : -1000000000 ≤ j_62.toInt ∧ j_62.toInt ≤ 1000000000 ∧ 0 ≤ j_63.toInt ∧ j_63.toInt ≤ 1000000000 := hw
    refine lv_aload_n hx hb dX12_bends_330 rfl (lv_at hl 8 rfl) ?_
    refine lv_lload hx hb dX12_bends_331 (lv_at hl 1 rfl) ?_
    refine lv_lload hx hb dX12_bends_333 (lv_at hl 0 rfl) ?_
    refine lv_aload_n hx hb dX12_bends_335 rfl (lv_at hl 8 rfl) ?_
    refine va_get (D := D) (ci := 11) (v := .long j_62) (C := RX12) (T := TX12) (N := 85) hx hb hts inX12 hown hK hP 0 mwd_o0 rfl 42 (by decide) fl387 (fun _ h9 => h9) rfl dX12_bends_336 ?_
    refine lv_aload_n hx hb dX12_bends_339 rfl (lv_at hl 8 rfl) ?_
    refine va_get (D := D) (ci := 11) (v := .long j_63) (C := RX12) (T := TX12) (N := 85) hx hb hts inX12 hown hK hP 0 mwd_o0 rfl 43 (by decide) fl391 (fun _ h9 => h9) rfl dX12_bends_340 ?_
    refine x_callvW (va_runV (As := [.long j_55, .long j_56, .long j_62, .long j_63]) (rest := []) ⟨hx, hb, hml, hown, hts⟩ (q_adds l D y H.size ad zw (sJ (sJ (sI (sJ (sJ (sI (sJ (sJ (sI (sJ (sJ (sI (sJ (sJ (sI σ 44 n_33) 42 j_34) 43 j_35) 44 n_42) 42 j_43) 43 j_44) 44 n_45) 42 j_46) 43 j_47) 44 n_54) 42 j_55) 43 j_56) 44 n_61) 42 j_62) 43 j_63) j_55 j_56 j_62 j_63 (by first | omega | decide) (by first | omega | decide) (by first | omega | decide) (by first | omega | decide) (by first | omega | decide) (by first | omega | decide) (by first | omega | decide) (by first | omega | decide)) (cwV 4 hts g_q_bends_0 rfl rfl rfl (by decide +kernel) ⟨Nat.le_of_ble_eq_true rfl, Nat.le_of_ble_eq_true rfl⟩) (x_preV (q := (RX12, TX12, 85)) hK hP hD (ci := 11) (q0 := 0) rfl mwd_o0) rfl rfl hl.1 rfl (lv_room (Nat.le_of_ble_eq_true rfl)) dX12_bends_343 ⟨Nat.le_of_ble_eq_true rfl, Nat.le_of_ble_eq_true rfl⟩) hP hD hS hA (fun u H locs hw hP hD hS => ?_)
    obtain ⟨n_64, j_65, j_66⟩ := u
    try dsimp only at hw
    have hP : va_P D vwCl (mwd y ad zw (sJ (sJ (sI (sJ (sJ (sI (sJ (sJ (sI (sJ (sJ (sI (sJ (sJ (sI (sJ (sJ (sI σ 44 n_33) 42 j_34) 43 j_35) 44 n_42) 42 j_43) 43 j_44) 44 n_45) 42 j_46) 43 j_47) 44 n_54) 42 j_55) 43 j_56) 44 n_61) 42 j_62) 43 j_63) 44 n_64) 42 j_65) 43 j_66)) H := hP
    have hD : va_D A (mwd y ad zw (sJ (sJ (sI (sJ (sJ (sI (sJ (sJ (sI (sJ (sJ (sI (sJ (sJ (sI (sJ (sJ (sI σ 44 n_33) 42 j_34) 43 j_35) 44 n_42) 42 j_43) 43 j_44) 44 n_45) 42 j_46) 43 j_47) 44 n_54) 42 j_55) 43 j_56) 44 n_61) 42 j_62) 43 j_63) 44 n_64) 42 j_65) 43 j_66)) := hD
    have hw : -1000000000 ≤ j_65.toInt ∧ j_65.toInt ≤ 1000000000 ∧ 0 ≤ j_66.toInt ∧ j_66.toInt ≤ 1000000000 := hw
    refine lv_aload_n hx hb dX12_bends_346 rfl (lv_at hl 8 rfl) ?_
    refine lv_lload hx hb dX12_bends_347 (lv_at hl 3 rfl) ?_
    refine lv_lload hx hb dX12_bends_349 (lv_at hl 2 rfl) ?_
    refine lv_aload_n hx hb dX12_bends_351 rfl (lv_at hl 8 rfl) ?_
    refine va_get (D := D) (ci := 11) (v := .long j_65) (C := RX12) (T := TX12) (N := 85) hx hb hts inX12 hown hK hP 0 mwd_o0 rfl 42 (by decide) fl387 (fun _ h9 => h9) rfl dX12_bends_352 ?_
    refine lv_aload_n hx hb dX12_bends_355 rfl (lv_at hl 8 rfl) ?_
    refine va_get (D := D) (ci := 11) (v := .long j_66) (C := RX12) (T := TX12) (N := 85) hx hb hts inX12 hown hK hP 0 mwd_o0 rfl 43 (by decide) fl391 (fun _ h9 => h9) rfl dX12_bends_356 ?_
    refine x_callvW (va_runV (As := [.long j_46, .long j_47, .long j_65, .long j_66]) (rest := []) ⟨hx, hb, hml, hown, hts⟩ (q_adds l D y H.size ad zw (sJ (sJ (sI (sJ (sJ (sI (sJ (sJ (sI (sJ (sJ (sI (sJ (sJ (sI (sJ (sJ (sI σ 44 n_33) 42 j_34) 43 j_35) 44 n_42) 42 j_43) 43 j_44) 44 n_45) 42 j_46) 43 j_47) 44 n_54) 42 j_55) 43 j_56) 44 n_61) 42 j_62) 43 j_63) 44 n_64) 42 j_65) 43 j_66) j_46 j_47 j_65 j_66 (by first | omega | decide) (by first | omega | decide) (by first | omega | decide) (by first | omega | decide) (by first | omega | decide) (by first | omega | decide) (by first | omega | decide) (by first | omega | decide)) (cwV 4 hts g_q_bends_0 rfl rfl rfl (by decide +kernel) ⟨Nat.le_of_ble_eq_true rfl, Nat.le_of_ble_eq_true rfl⟩) (x_preV (q := (RX12, TX12, 85)) hK hP hD (ci := 11) (q0 := 0) rfl mwd_o0) rfl rfl hl.1 rfl (lv_room (Nat.le_of_ble_eq_true rfl)) dX12_bends_359 ⟨Nat.le_of_ble_eq_true rfl, Nat.le_of_ble_eq_true rfl⟩) hP hD hS hA (fun u H locs hw hP hD hS => ?_)
    obtain ⟨n_67, j_68, j_69⟩ := u
    try dsimp only at hw
    have hP : va_P D vwCl (mwd y ad zw (sJ (sJ (sI (sJ (sJ (sI (sJ (sJ (sI (sJ (sJ (sI (sJ (sJ (sI (sJ (sJ (sI (sJ (sJ (sI σ 44 n_33) 42 j_34) 43 j_35) 44 n_42) 42 j_43) 43 j_44) 44 n_45) 42 j_46) 43 j_47) 44 n_54) 42 j_55) 43 j_56) 44 n_61) 42 j_62) 43 j_63) 44 n_64) 42 j_65) 43 j_66) 44 n_67) 42 j_68) 43 j_69)) H := hP
    have hD : va_D A (mwd y ad zw (sJ (sJ (sI (sJ (sJ (sI (sJ (sJ (sI (sJ (sJ (sI (sJ (sJ (sI (sJ (sJ (sI (sJ (sJ (sI σ 44 n_33) 42 j_34) 43 j_35) 44 n_42) 42 j_43) 43 j_44) 44 n_45) 42 j_46) 43 j_47) 44 n_54) 42 j_55) 43 j_56) 44 n_61) 42 j_62) 43 j_63) 44 n_64) 42 j_65) 43 j_66) 44 n_67) 42 j_68) 43 j_69)) := hD
    have hw : -1000000000 ≤ j_68.toInt ∧ j_68.toInt ≤ 1000000000 ∧ 0 ≤ j_69.toInt ∧ j_69.toInt ≤ 1000000000 := hw
    refine lv_goto (tgt := 649) hx hb dX12_bends_362 (by decide) ?_
    refine lv_aload_n hx hb dX12_bends_649 rfl (lv_at hl 8 rfl) ?_
    refine lv_iconst (v := 2) hx hb dX12_bends_650 (by decide) ?_
    refine lv_iload_n hx hb dX12_bends_651 rfl (lv_at hl 9 rfl) ?_
    refine lv_aload_n hx hb dX12_bends_652 rfl (lv_at hl 8 rfl) ?_
    refine va_get (D := D) (ci := 11) (v := .long j_68) (C := RX12) (T := TX12) (N := 85) hx hb hts inX12 hown hK hP 0 mwd_o0 rfl 42 (by decide) fl387 (fun _ h9 => h9) rfl dX12_bends_653 ?_
    refine lv_aload_n hx hb dX12_bends_656 rfl (lv_at hl 8 rfl) ?_
    refine va_get (D := D) (ci := 11) (v := .long j_69) (C := RX12) (T := TX12) (N := 85) hx hb hts inX12 hown hK hP 0 mwd_o0 rfl 43 (by decide) fl391 (fun _ h9 => h9) rfl dX12_bends_657 ?_
    refine x_callvW (va_runV (As := [.int 2, .int k, .long j_68, .long j_69]) (rest := []) ⟨hx, hb, hml, hown, hts⟩ (q_lets2 l D y H.size ad zw (sJ (sJ (sI (sJ (sJ (sI (sJ (sJ (sI (sJ (sJ (sI (sJ (sJ (sI (sJ (sJ (sI (sJ (sJ (sI σ 44 n_33) 42 j_34) 43 j_35) 44 n_42) 42 j_43) 43 j_44) 44 n_45) 42 j_46) 43 j_47) 44 n_54) 42 j_55) 43 j_56) 44 n_61) 42 j_62) 43 j_63) 44 n_64) 42 j_65) 43 j_66) 44 n_67) 42 j_68) 43 j_69) k j_68 j_69 (by first | omega | decide) (by first | omega | decide) (by first | omega | decide) (by first | omega | decide) (by first | omega | decide) (by first | omega | decide) hB75 hB76) (cwV 4 hts g_q_bends_1 rfl rfl rfl (by decide +kernel) ⟨Nat.le_of_ble_eq_true rfl, Nat.le_of_ble_eq_true rfl⟩) (x_preV (q := (RX12, TX12, 85)) hK hP hD (ci := 11) (q0 := 0) rfl mwd_o0) rfl rfl hl.1 rfl (lv_room (Nat.le_of_ble_eq_true rfl)) dX12_bends_660 ⟨Nat.le_of_ble_eq_true rfl, Nat.le_of_ble_eq_true rfl⟩) hP hD hS hA (fun u H locs hw hP hD hS => ?_)
    obtain ⟨f_70, f_71⟩ := u
    try dsimp only at hw
    have hP : va_P D vwCl (mwd y ad zw (tJ (tJ (sJ (sJ (sI (sJ (sJ (sI (sJ (sJ (sI (sJ (sJ (sI (sJ (sJ (sI (sJ (sJ (sI (sJ (sJ (sI σ 44 n_33) 42 j_34) 43 j_35) 44 n_42) 42 j_43) 43 j_44) 44 n_45) 42 j_46) 43 j_47) 44 n_54) 42 j_55) 43 j_56) 44 n_61) 42 j_62) 43 j_63) 44 n_64) 42 j_65) 43 j_66) 44 n_67) 42 j_68) 43 j_69) 75 f_70) 76 f_71)) H := hP
    have hD : va_D A (mwd y ad zw (tJ (tJ (sJ (sJ (sI (sJ (sJ (sI (sJ (sJ (sI (sJ (sJ (sI (sJ (sJ (sI (sJ (sJ (sI (sJ (sJ (sI σ 44 n_33) 42 j_34) 43 j_35) 44 n_42) 42 j_43) 43 j_44) 44 n_45) 42 j_46) 43 j_47) 44 n_54) 42 j_55) 43 j_56) 44 n_61) 42 j_62) 43 j_63) 44 n_64) 42 j_65) 43 j_66) 44 n_67) 42 j_68) 43 j_69) 75 f_70) 76 f_71)) := hD
    have hw : (True) ∧ bJ f_70 (-1000000000) 1000000000 ∧ bJ f_71 0 1000000000 := hw
    obtain ⟨hw, hg_72, hg_73⟩ := hw
    have hP : va_P D vwCl (mwd y ad zw (tJ (tJ (sJ (sJ (sI σ 44 n_67) 42 j_68) 43 j_69) 75 f_70) 76 f_71)) H := hP
    have hD : va_D A (mwd y ad zw (tJ (tJ (sJ (sJ (sI σ 44 n_67) 42 j_68) 43 j_69) 75 f_70) 76 f_71)) := hD
    exact x_vretW (u := (n_67, j_68, j_69, f_70, f_71)) hx hb hr hQ (by (try dsimp only); exact ⟨trivial, hg_72, hg_73⟩) hP hD hK hS dX12_bends_663 hlocks
  · refine lv_tableIn (tgt := 365) hx hb dX12_bends_34 (by decide) (by decide) rfl (by decide) ?_
    refine lv_aload_n hx hb dX12_bends_365 rfl (lv_at hl 4 rfl) ?_
    refine lv_aload_n hx hb dX12_bends_366 rfl (lv_at hl 4 rfl) ?_
    refine va_get (D := D) (ci := 11) (v := .ref (ad 75)) (C := RX12) (T := TX12) (N := 85) hx hb hts inX12 hown hK hP 0 mwd_o0 rfl 75 (by decide) fl167 (fun _ h9 => h9) rfl dX12_bends_367 ?_
    refine lv_iload_n hx hb dX12_bends_370 rfl (lv_at hl 5 rfl) ?_
    refine va_lald hx hb hK hP 51 3 mwd_a51 rfl (x_in (by omega) (by omega)) dX12_bends_371 ?_
    refine lv_topl (fun j_74 ej_74 => ?_)
    have ej_74 : j_74 = (σ.2.2.2 75) (Int32.toNatClampNeg k) := ej_74
    have bj_74 := b_atJ hB75 ej_74
    refine lv_aload_n hx hb dX12_bends_372 rfl (lv_at hl 4 rfl) ?_
    refine va_get (D := D) (ci := 11) (v := .ref (ad 76)) (C := RX12) (T := TX12) (N := 85) hx hb hts inX12 hown hK hP 0 mwd_o0 rfl 76 (by decide) fl170 (fun _ h9 => h9) rfl dX12_bends_373 ?_
    refine lv_iload_n hx hb dX12_bends_376 rfl (lv_at hl 5 rfl) ?_
    refine va_lald hx hb hK hP 52 3 mwd_a52 rfl (x_in (by omega) (by omega)) dX12_bends_377 ?_
    refine lv_topl (fun j_75 ej_75 => ?_)
    have ej_75 : j_75 = (σ.2.2.2 76) (Int32.toNatClampNeg k) := ej_75
    have bj_75 := b_atJ hB76 ej_75
    refine lv_aload_n hx hb dX12_bends_378 rfl (lv_at hl 4 rfl) ?_
    refine va_get (D := D) (ci := 11) (v := .ref (ad 75)) (C := RX12) (T := TX12) (N := 85) hx hb hts inX12 hown hK hP 0 mwd_o0 rfl 75 (by decide) fl167 (fun _ h9 => h9) rfl dX12_bends_379 ?_
    refine lv_sipush (v := 1760) hx hb dX12_bends_382 (by decide) ?_
    refine lv_iload_n hx hb dX12_bends_385 rfl (lv_at hl 2 rfl) ?_
    refine lv_iadd hx hb dX12_bends_386 ?_
    refine lv_topi (fun i_76 ei_76 => ?_)
    have vi_76 : i_76.toInt = 1760 + i_2.toInt := by have h9 := x_add ei_76 (by omega) (by omega); omega
    refine va_lald hx hb hK hP 51 3 mwd_a51 rfl (x_in (by omega) (by omega)) dX12_bends_387 ?_
    refine lv_topl (fun j_77 ej_77 => ?_)
    have ej_77 : j_77 = (σ.2.2.2 75) (Int32.toNatClampNeg i_76) := ej_77
    have bj_77 := b_atJ hB75 ej_77
    refine lv_aload_n hx hb dX12_bends_388 rfl (lv_at hl 4 rfl) ?_
    refine va_get (D := D) (ci := 11) (v := .ref (ad 76)) (C := RX12) (T := TX12) (N := 85) hx hb hts inX12 hown hK hP 0 mwd_o0 rfl 76 (by decide) fl170 (fun _ h9 => h9) rfl dX12_bends_389 ?_
    refine lv_sipush (v := 1760) hx hb dX12_bends_392 (by decide) ?_
    refine lv_iload_n hx hb dX12_bends_395 rfl (lv_at hl 2 rfl) ?_
    refine lv_iadd hx hb dX12_bends_396 ?_
    refine lv_topi (fun i_78 ei_78 => ?_)
    have vi_78 : i_78.toInt = 1760 + i_2.toInt := by have h9 := x_add ei_78 (by omega) (by omega); omega
    refine va_lald hx hb hK hP 52 3 mwd_a52 rfl (x_in (by omega) (by omega)) dX12_bends_397 ?_
    refine lv_topl (fun j_79 ej_79 => ?_)
    have ej_79 : j_79 = (σ.2.2.2 76) (Int32.toNatClampNeg i_78) := ej_79
    have bj_79 := b_atJ hB76 ej_79
    refine x_callvW (va_runV (As := [.long j_74, .long j_75, .long j_77, .long j_79]) (rest := []) ⟨hx, hb, hml, hown, hts⟩ (q_multiplies l D y H.size ad zw σ j_74 j_75 j_77 j_79 (by first | omega | decide) (by first | omega | decide) (by first | omega | decide) (by first | omega | decide) (by first | omega | decide) (by first | omega | decide) (by first | omega | decide) (by first | omega | decide)) (cwV 4 hts g_q_bends_3 rfl rfl rfl (by decide +kernel) ⟨Nat.le_of_ble_eq_true rfl, Nat.le_of_ble_eq_true rfl⟩) (x_preV (q := (RX12, TX12, 85)) hK hP hD (ci := 11) (q0 := 0) rfl mwd_o0) rfl rfl hl.1 rfl (lv_room (Nat.le_of_ble_eq_true rfl)) dX12_bends_398 ⟨Nat.le_of_ble_eq_true rfl, Nat.le_of_ble_eq_true rfl⟩) hP hD hS hA (fun u H locs hw hP hD hS => ?_)
    obtain ⟨n_80, j_81, j_82⟩ := u
    try dsimp only at hw
    have hP : va_P D vwCl (mwd y ad zw (sJ (sJ (sI σ 44 n_80) 42 j_81) 43 j_82)) H := hP
    have hD : va_D A (mwd y ad zw (sJ (sJ (sI σ 44 n_80) 42 j_81) 43 j_82)) := hD
    have hw : -1000000000 ≤ j_81.toInt ∧ j_81.toInt ≤ 1000000000 ∧ 0 ≤ j_82.toInt ∧ j_82.toInt ≤ 1000000000 := hw
    refine lv_aload_n hx hb dX12_bends_401 rfl (lv_at hl 4 rfl) ?_
    refine lv_aload_n hx hb dX12_bends_402 rfl (lv_at hl 4 rfl) ?_
    refine va_get (D := D) (ci := 11) (v := .ref (ad 75)) (C := RX12) (T := TX12) (N := 85) hx hb hts inX12 hown hK hP 0 mwd_o0 rfl 75 (by decide) fl167 (fun _ h9 => h9) rfl dX12_bends_403 ?_
    refine lv_iload hx hb dX12_bends_406 (lv_at hl 1 rfl) ?_
    refine va_lald hx hb hK hP 51 3 mwd_a51 rfl (x_in (by omega) (by omega)) dX12_bends_408 ?_
    refine lv_topl (fun j_83 ej_83 => ?_)
    have ej_83 : j_83 = (σ.2.2.2 75) (Int32.toNatClampNeg i_3) := ej_83
    have bj_83 := b_atJ hB75 ej_83
    refine lv_aload_n hx hb dX12_bends_409 rfl (lv_at hl 4 rfl) ?_
    refine va_get (D := D) (ci := 11) (v := .ref (ad 76)) (C := RX12) (T := TX12) (N := 85) hx hb hts inX12 hown hK hP 0 mwd_o0 rfl 76 (by decide) fl170 (fun _ h9 => h9) rfl dX12_bends_410 ?_
    refine lv_iload hx hb dX12_bends_413 (lv_at hl 1 rfl) ?_
    refine va_lald hx hb hK hP 52 3 mwd_a52 rfl (x_in (by omega) (by omega)) dX12_bends_415 ?_
    refine lv_topl (fun j_84 ej_84 => ?_)
    have ej_84 : j_84 = (σ.2.2.2 76) (Int32.toNatClampNeg i_3) := ej_84
    have bj_84 := b_atJ hB76 ej_84
    refine lv_aload_n hx hb dX12_bends_416 rfl (lv_at hl 4 rfl) ?_
    refine va_get (D := D) (ci := 11) (v := .long j_81) (C := RX12) (T := TX12) (N := 85) hx hb hts inX12 hown hK hP 0 mwd_o0 rfl 42 (by decide) fl387 (fun _ h9 => h9) rfl dX12_bends_417 ?_
    refine lv_aload_n hx hb dX12_bends_420 rfl (lv_at hl 4 rfl) ?_
    refine va_get (D := D) (ci := 11) (v := .long j_82) (C := RX12) (T := TX12) (N := 85) hx hb hts inX12 hown hK hP 0 mwd_o0 rfl 43 (by decide) fl391 (fun _ h9 => h9) rfl dX12_bends_421 ?_
    refine x_callvW (va_runV (As := [.long j_83, .long j_84, .long j_81, .long j_82]) (rest := []) ⟨hx, hb, hml, hown, hts⟩ (q_takesOff l D y H.size ad zw (sJ (sJ (sI σ 44 n_80) 42 j_81) 43 j_82) j_83 j_84 j_81 j_82 (by first | omega | decide) (by first | omega | decide) (by first | omega | decide) (by first | omega | decide) (by first | omega | decide) (by first | omega | decide) (by first | omega | decide) (by first | omega | decide)) (cwV 4 hts g_q_bends_2 rfl rfl rfl (by decide +kernel) ⟨Nat.le_of_ble_eq_true rfl, Nat.le_of_ble_eq_true rfl⟩) (x_preV (q := (RX12, TX12, 85)) hK hP hD (ci := 11) (q0 := 0) rfl mwd_o0) rfl rfl hl.1 rfl (lv_room (Nat.le_of_ble_eq_true rfl)) dX12_bends_424 ⟨Nat.le_of_ble_eq_true rfl, Nat.le_of_ble_eq_true rfl⟩) hP hD hS hA (fun u H locs hw hP hD hS => ?_)
    obtain ⟨n_85, j_86, j_87⟩ := u
    try dsimp only at hw
    have hP : va_P D vwCl (mwd y ad zw (sJ (sJ (sI (sJ (sJ (sI σ 44 n_80) 42 j_81) 43 j_82) 44 n_85) 42 j_86) 43 j_87)) H := hP
    have hD : va_D A (mwd y ad zw (sJ (sJ (sI (sJ (sJ (sI σ 44 n_80) 42 j_81) 43 j_82) 44 n_85) 42 j_86) 43 j_87)) := hD
    have hw : -1000000000 ≤ j_86.toInt ∧ j_86.toInt ≤ 1000000000 ∧ 0 ≤ j_87.toInt ∧ j_87.toInt ≤ 1000000000 := hw
    refine lv_aload_n hx hb dX12_bends_427 rfl (lv_at hl 4 rfl) ?_
    refine va_get (D := D) (ci := 11) (v := .long j_86) (C := RX12) (T := TX12) (N := 85) hx hb hts inX12 hown hK hP 0 mwd_o0 rfl 42 (by decide) fl387 (fun _ h9 => h9) rfl dX12_bends_428 ?_
    refine lv_lstore (lv' := [(14, .long j_86), (5, .int i_4), (4, .int i_3), (3, .int i_2), (2, .int i_1), (0, .ref (ad 1)), (1, .int k)]) hx hb dX12_bends_431 hl (by decide) rfl (fun ls hl => ?_)
    refine lv_aload_n hx hb dX12_bends_433 rfl (lv_at hl 5 rfl) ?_
    refine va_get (D := D) (ci := 11) (v := .long j_87) (C := RX12) (T := TX12) (N := 85) hx hb hts inX12 hown hK hP 0 mwd_o0 rfl 43 (by decide) fl391 (fun _ h9 => h9) rfl dX12_bends_434 ?_
    refine lv_lstore (lv' := [(16, .long j_87), (14, .long j_86), (5, .int i_4), (4, .int i_3), (3, .int i_2), (2, .int i_1), (0, .ref (ad 1)), (1, .int k)]) hx hb dX12_bends_437 hl (by decide) rfl (fun ls hl => ?_)
    refine lv_aload_n hx hb dX12_bends_439 rfl (lv_at hl 6 rfl) ?_
    refine lv_aload_n hx hb dX12_bends_440 rfl (lv_at hl 6 rfl) ?_
    refine va_get (D := D) (ci := 11) (v := .ref (ad 75)) (C := RX12) (T := TX12) (N := 85) hx hb hts inX12 hown hK hP 0 mwd_o0 rfl 75 (by decide) fl167 (fun _ h9 => h9) rfl dX12_bends_441 ?_
    refine lv_sipush (v := 1760) hx hb dX12_bends_444 (by decide) ?_
    refine lv_iload_n hx hb dX12_bends_447 rfl (lv_at hl 7 rfl) ?_
    refine lv_iadd hx hb dX12_bends_448 ?_
    refine lv_topi (fun i_88 ei_88 => ?_)
    have vi_88 : i_88.toInt = 1760 + k.toInt := by have h9 := x_add ei_88 (by omega) (by omega); omega
    refine va_lald hx hb hK hP 51 3 mwd_a51 rfl (x_in (by omega) (by omega)) dX12_bends_449 ?_
    refine lv_topl (fun j_89 ej_89 => ?_)
    have ej_89 : j_89 = (σ.2.2.2 75) (Int32.toNatClampNeg i_88) := ej_89
    have bj_89 := b_atJ hB75 ej_89
    refine lv_aload_n hx hb dX12_bends_450 rfl (lv_at hl 6 rfl) ?_
    refine va_get (D := D) (ci := 11) (v := .ref (ad 76)) (C := RX12) (T := TX12) (N := 85) hx hb hts inX12 hown hK hP 0 mwd_o0 rfl 76 (by decide) fl170 (fun _ h9 => h9) rfl dX12_bends_451 ?_
    refine lv_sipush (v := 1760) hx hb dX12_bends_454 (by decide) ?_
    refine lv_iload_n hx hb dX12_bends_457 rfl (lv_at hl 7 rfl) ?_
    refine lv_iadd hx hb dX12_bends_458 ?_
    refine lv_topi (fun i_90 ei_90 => ?_)
    have vi_90 : i_90.toInt = 1760 + k.toInt := by have h9 := x_add ei_90 (by omega) (by omega); omega
    refine va_lald hx hb hK hP 52 3 mwd_a52 rfl (x_in (by omega) (by omega)) dX12_bends_459 ?_
    refine lv_topl (fun j_91 ej_91 => ?_)
    have ej_91 : j_91 = (σ.2.2.2 76) (Int32.toNatClampNeg i_90) := ej_91
    have bj_91 := b_atJ hB76 ej_91
    refine lv_aload_n hx hb dX12_bends_460 rfl (lv_at hl 6 rfl) ?_
    refine va_get (D := D) (ci := 11) (v := .ref (ad 75)) (C := RX12) (T := TX12) (N := 85) hx hb hts inX12 hown hK hP 0 mwd_o0 rfl 75 (by decide) fl167 (fun _ h9 => h9) rfl dX12_bends_461 ?_
    refine lv_iload_n hx hb dX12_bends_464 rfl (lv_at hl 4 rfl) ?_
    refine va_lald hx hb hK hP 51 3 mwd_a51 rfl (x_in (by omega) (by omega)) dX12_bends_465 ?_
    refine lv_topl (fun j_92 ej_92 => ?_)
    have ej_92 : j_92 = (σ.2.2.2 75) (Int32.toNatClampNeg i_2) := ej_92
    have bj_92 := b_atJ hB75 ej_92
    refine lv_aload_n hx hb dX12_bends_466 rfl (lv_at hl 6 rfl) ?_
    refine va_get (D := D) (ci := 11) (v := .ref (ad 76)) (C := RX12) (T := TX12) (N := 85) hx hb hts inX12 hown hK hP 0 mwd_o0 rfl 76 (by decide) fl170 (fun _ h9 => h9) rfl dX12_bends_467 ?_
    refine lv_iload_n hx hb dX12_bends_470 rfl (lv_at hl 4 rfl) ?_
    refine va_lald hx hb hK hP 52 3 mwd_a52 rfl (x_in (by omega) (by omega)) dX12_bends_471 ?_
    refine lv_topl (fun j_93 ej_93 => ?_)
    have ej_93 : j_93 = (σ.2.2.2 76) (Int32.toNatClampNeg i_2) := ej_93
    have bj_93 := b_atJ hB76 ej_93
    refine x_callvW (va_runV (As := [.long j_89, .long j_91, .long j_92, .long j_93]) (rest := []) ⟨hx, hb, hml, hown, hts⟩ (q_multiplies l D y H.size ad zw (sJ (sJ (sI (sJ (sJ (sI σ 44 n_80) 42 j_81) 43 j_82) 44 n_85) 42 j_86) 43 j_87) j_89 j_91 j_92 j_93 (by first | omega | decide) (by first | omega | decide) (by first | omega | decide) (by first | omega | decide) (by first | omega | decide) (by first | omega | decide) (by first | omega | decide) (by first | omega | decide)) (cwV 4 hts g_q_bends_3 rfl rfl rfl (by decide +kernel) ⟨Nat.le_of_ble_eq_true rfl, Nat.le_of_ble_eq_true rfl⟩) (x_preV (q := (RX12, TX12, 85)) hK hP hD (ci := 11) (q0 := 0) rfl mwd_o0) rfl rfl hl.1 rfl (lv_room (Nat.le_of_ble_eq_true rfl)) dX12_bends_472 ⟨Nat.le_of_ble_eq_true rfl, Nat.le_of_ble_eq_true rfl⟩) hP hD hS hA (fun u H locs hw hP hD hS => ?_)
    obtain ⟨n_94, j_95, j_96⟩ := u
    try dsimp only at hw
    have hP : va_P D vwCl (mwd y ad zw (sJ (sJ (sI (sJ (sJ (sI (sJ (sJ (sI σ 44 n_80) 42 j_81) 43 j_82) 44 n_85) 42 j_86) 43 j_87) 44 n_94) 42 j_95) 43 j_96)) H := hP
    have hD : va_D A (mwd y ad zw (sJ (sJ (sI (sJ (sJ (sI (sJ (sJ (sI σ 44 n_80) 42 j_81) 43 j_82) 44 n_85) 42 j_86) 43 j_87) 44 n_94) 42 j_95) 43 j_96)) := hD
    have hw : -1000000000 ≤ j_95.toInt ∧ j_95.toInt ≤ 1000000000 ∧ 0 ≤ j_96.toInt ∧ j_96.toInt ≤ 1000000000 := hw
    refine lv_aload_n hx hb dX12_bends_475 rfl (lv_at hl 6 rfl) ?_
    refine lv_lload hx hb dX12_bends_476 (lv_at hl 1 rfl) ?_
    refine lv_lload hx hb dX12_bends_478 (lv_at hl 0 rfl) ?_
    refine lv_aload_n hx hb dX12_bends_480 rfl (lv_at hl 6 rfl) ?_
    refine va_get (D := D) (ci := 11) (v := .long j_95) (C := RX12) (T := TX12) (N := 85) hx hb hts inX12 hown hK hP 0 mwd_o0 rfl 42 (by decide) fl387 (fun _ h9 => h9) rfl dX12_bends_481 ?_
    refine lv_aload_n hx hb dX12_bends_484 rfl (lv_at hl 6 rfl) ?_
    refine va_get (D := D) (ci := 11) (v := .long j_96) (C := RX12) (T := TX12) (N := 85) hx hb hts inX12 hown hK hP 0 mwd_o0 rfl 43 (by decide) fl391 (fun _ h9 => h9) rfl dX12_bends_485 ?_
    refine x_callvW (va_runV (As := [.long j_86, .long j_87, .long j_95, .long j_96]) (rest := []) ⟨hx, hb, hml, hown, hts⟩ (q_takesOff l D y H.size ad zw (sJ (sJ (sI (sJ (sJ (sI (sJ (sJ (sI σ 44 n_80) 42 j_81) 43 j_82) 44 n_85) 42 j_86) 43 j_87) 44 n_94) 42 j_95) 43 j_96) j_86 j_87 j_95 j_96 (by first | omega | decide) (by first | omega | decide) (by first | omega | decide) (by first | omega | decide) (by first | omega | decide) (by first | omega | decide) (by first | omega | decide) (by first | omega | decide)) (cwV 4 hts g_q_bends_2 rfl rfl rfl (by decide +kernel) ⟨Nat.le_of_ble_eq_true rfl, Nat.le_of_ble_eq_true rfl⟩) (x_preV (q := (RX12, TX12, 85)) hK hP hD (ci := 11) (q0 := 0) rfl mwd_o0) rfl rfl hl.1 rfl (lv_room (Nat.le_of_ble_eq_true rfl)) dX12_bends_488 ⟨Nat.le_of_ble_eq_true rfl, Nat.le_of_ble_eq_true rfl⟩) hP hD hS hA (fun u H locs hw hP hD hS => ?_)
    obtain ⟨n_97, j_98, j_99⟩ := u
    try dsimp only at hw
    have hP : va_P D vwCl (mwd y ad zw (sJ (sJ (sI (sJ (sJ (sI (sJ (sJ (sI (sJ (sJ (sI σ 44 n_80) 42 j_81) 43 j_82) 44 n_85) 42 j_86) 43 j_87) 44 n_94) 42 j_95) 43 j_96) 44 n_97) 42 j_98) 43 j_99)) H := hP
    have hD : va_D A (mwd y ad zw (sJ (sJ (sI (sJ (sJ (sI (sJ (sJ (sI (sJ (sJ (sI σ 44 n_80) 42 j_81) 43 j_82) 44 n_85) 42 j_86) 43 j_87) 44 n_94) 42 j_95) 43 j_96) 44 n_97) 42 j_98) 43 j_99)) := hD
    have hw : -1000000000 ≤ j_98.toInt ∧ j_98.toInt ≤ 1000000000 ∧ 0 ≤ j_99.toInt ∧ j_99.toInt ≤ 1000000000 := hw
    refine lv_aload_n hx hb dX12_bends_491 rfl (lv_at hl 6 rfl) ?_
    refine va_get (D := D) (ci := 11) (v := .long j_98) (C := RX12) (T := TX12) (N := 85) hx hb hts inX12 hown hK hP 0 mwd_o0 rfl 42 (by decide) fl387 (fun _ h9 => h9) rfl dX12_bends_492 ?_
    refine lv_lstore (lv' := [(14, .long j_98), (16, .long j_87), (5, .int i_4), (4, .int i_3), (3, .int i_2), (2, .int i_1), (0, .ref (ad 1)), (1, .int k)]) hx hb dX12_bends_495 hl (by decide) rfl (fun ls hl => ?_)
    refine lv_aload_n hx hb dX12_bends_497 rfl (lv_at hl 6 rfl) ?_
    refine va_get (D := D) (ci := 11) (v := .long j_99) (C := RX12) (T := TX12) (N := 85) hx hb hts inX12 hown hK hP 0 mwd_o0 rfl 43 (by decide) fl391 (fun _ h9 => h9) rfl dX12_bends_498 ?_
    refine lv_lstore (lv' := [(16, .long j_99), (14, .long j_98), (5, .int i_4), (4, .int i_3), (3, .int i_2), (2, .int i_1), (0, .ref (ad 1)), (1, .int k)]) hx hb dX12_bends_501 hl (by decide) rfl (fun ls hl => ?_)
    refine lv_aload_n hx hb dX12_bends_503 rfl (lv_at hl 6 rfl) ?_
    refine lv_aload_n hx hb dX12_bends_504 rfl (lv_at hl 6 rfl) ?_
    refine va_get (D := D) (ci := 11) (v := .ref (ad 57)) (C := RX12) (T := TX12) (N := 85) hx hb hts inX12 hown hK hP 0 mwd_o0 rfl 57 (by decide) fl124 (fun _ h9 => h9) rfl dX12_bends_505 ?_
    refine lv_iload_n hx hb dX12_bends_508 rfl (lv_at hl 7 rfl) ?_
    refine va_lald hx hb hK hP 37 3 mwd_a37 rfl (x_in (by omega) (by omega)) dX12_bends_509 ?_
    refine lv_topl (fun j_100 ej_100 => ?_)
    have ej_100 : j_100 = (σ.2.2.2 57) (Int32.toNatClampNeg k) := ej_100
    have bj_100 := b_atJ hB57 ej_100
    refine lv_aload_n hx hb dX12_bends_510 rfl (lv_at hl 6 rfl) ?_
    refine va_get (D := D) (ci := 11) (v := .ref (ad 58)) (C := RX12) (T := TX12) (N := 85) hx hb hts inX12 hown hK hP 0 mwd_o0 rfl 58 (by decide) fl127 (fun _ h9 => h9) rfl dX12_bends_511 ?_
    refine lv_iload_n hx hb dX12_bends_514 rfl (lv_at hl 7 rfl) ?_
    refine va_lald hx hb hK hP 38 3 mwd_a38 rfl (x_in (by omega) (by omega)) dX12_bends_515 ?_
    refine lv_topl (fun j_101 ej_101 => ?_)
    have ej_101 : j_101 = (σ.2.2.2 58) (Int32.toNatClampNeg k) := ej_101
    have bj_101 := b_atJ hB58 ej_101
    refine lv_aload_n hx hb dX12_bends_516 rfl (lv_at hl 6 rfl) ?_
    refine va_get (D := D) (ci := 11) (v := .ref (ad 75)) (C := RX12) (T := TX12) (N := 85) hx hb hts inX12 hown hK hP 0 mwd_o0 rfl 75 (by decide) fl167 (fun _ h9 => h9) rfl dX12_bends_517 ?_
    refine lv_iload hx hb dX12_bends_520 (lv_at hl 2 rfl) ?_
    refine va_lald hx hb hK hP 51 3 mwd_a51 rfl (x_in (by omega) (by omega)) dX12_bends_522 ?_
    refine lv_topl (fun j_102 ej_102 => ?_)
    have ej_102 : j_102 = (σ.2.2.2 75) (Int32.toNatClampNeg i_4) := ej_102
    have bj_102 := b_atJ hB75 ej_102
    refine lv_aload_n hx hb dX12_bends_523 rfl (lv_at hl 6 rfl) ?_
    refine va_get (D := D) (ci := 11) (v := .ref (ad 76)) (C := RX12) (T := TX12) (N := 85) hx hb hts inX12 hown hK hP 0 mwd_o0 rfl 76 (by decide) fl170 (fun _ h9 => h9) rfl dX12_bends_524 ?_
    refine lv_iload hx hb dX12_bends_527 (lv_at hl 2 rfl) ?_
    refine va_lald hx hb hK hP 52 3 mwd_a52 rfl (x_in (by omega) (by omega)) dX12_bends_529 ?_
    refine lv_topl (fun j_103 ej_103 => ?_)
    have ej_103 : j_103 = (σ.2.2.2 76) (Int32.toNatClampNeg i_4) := ej_103
    have bj_103 := b_atJ hB76 ej_103
    refine x_callvW (va_runV (As := [.long j_100, .long j_101, .long j_102, .long j_103]) (rest := []) ⟨hx, hb, hml, hown, hts⟩ (q_multiplies l D y H.size ad zw (sJ (sJ (sI (sJ (sJ (sI (sJ (sJ (sI (sJ (sJ (sI σ 44 n_80) 42 j_81) 43 j_82) 44 n_85) 42 j_86) 43 j_87) 44 n_94) 42 j_95) 43 j_96) 44 n_97) 42 j_98) 43 j_99) j_100 j_101 j_102 j_103 (by first | omega | decide) (by first | omega | decide) (by first | omega | decide) (by first | omega | decide) (by first | omega | decide) (by first | omega | decide) (by first | omega | decide) (by first | omega | decide)) (cwV 4 hts g_q_bends_3 rfl rfl rfl (by decide +kernel) ⟨Nat.le_of_ble_eq_true rfl, Nat.le_of_ble_eq_true rfl⟩) (x_preV (q := (RX12, TX12, 85)) hK hP hD (ci := 11) (q0 := 0) rfl mwd_o0) rfl rfl hl.1 rfl (lv_room (Nat.le_of_ble_eq_true rfl)) dX12_bends_530 ⟨Nat.le_of_ble_eq_true rfl, Nat.le_of_ble_eq_true rfl⟩) hP hD hS hA (fun u H locs hw hP hD hS => ?_)
    obtain ⟨n_104, j_105, j_106⟩ := u
    try dsimp only at hw
    have hP : va_P D vwCl (mwd y ad zw (sJ (sJ (sI (sJ (sJ (sI (sJ (sJ (sI (sJ (sJ (sI (sJ (sJ (sI σ 44 n_80) 42 j_81) 43 j_82) 44 n_85) 42 j_86) 43 j_87) 44 n_94) 42 j_95) 43 j_96) 44 n_97) 42 j_98) 43 j_99) 44 n_104) 42 j_105) 43 j_106)) H := hP
    have hD : va_D A (mwd y ad zw (sJ (sJ (sI (sJ (sJ (sI (sJ (sJ (sI (sJ (sJ (sI (sJ (sJ (sI σ 44 n_80) 42 j_81) 43 j_82) 44 n_85) 42 j_86) 43 j_87) 44 n_94) 42 j_95) 43 j_96) 44 n_97) 42 j_98) 43 j_99) 44 n_104) 42 j_105) 43 j_106)) := hD
    have hw : -1000000000 ≤ j_105.toInt ∧ j_105.toInt ≤ 1000000000 ∧ 0 ≤ j_106.toInt ∧ j_106.toInt ≤ 1000000000 := hw
    refine lv_aload_n hx hb dX12_bends_533 rfl (lv_at hl 6 rfl) ?_
    refine lv_lload hx hb dX12_bends_534 (lv_at hl 1 rfl) ?_
    refine lv_lload hx hb dX12_bends_536 (lv_at hl 0 rfl) ?_
    refine lv_aload_n hx hb dX12_bends_538 rfl (lv_at hl 6 rfl) ?_
    refine va_get (D := D) (ci := 11) (v := .long j_105) (C := RX12) (T := TX12) (N := 85) hx hb hts inX12 hown hK hP 0 mwd_o0 rfl 42 (by decide) fl387 (fun _ h9 => h9) rfl dX12_bends_539 ?_
    refine lv_aload_n hx hb dX12_bends_542 rfl (lv_at hl 6 rfl) ?_
    refine va_get (D := D) (ci := 11) (v := .long j_106) (C := RX12) (T := TX12) (N := 85) hx hb hts inX12 hown hK hP 0 mwd_o0 rfl 43 (by decide) fl391 (fun _ h9 => h9) rfl dX12_bends_543 ?_
    refine x_callvW (va_runV (As := [.long j_98, .long j_99, .long j_105, .long j_106]) (rest := []) ⟨hx, hb, hml, hown, hts⟩ (q_takesOff l D y H.size ad zw (sJ (sJ (sI (sJ (sJ (sI (sJ (sJ (sI (sJ (sJ (sI (sJ (sJ (sI σ 44 n_80) 42 j_81) 43 j_82) 44 n_85) 42 j_86) 43 j_87) 44 n_94) 42 j_95) 43 j_96) 44 n_97) 42 j_98) 43 j_99) 44 n_104) 42 j_105) 43 j_106) j_98 j_99 j_105 j_106 (by first | omega | decide) (by first | omega | decide) (by first | omega | decide) (by first | omega | decide) (by first | omega | decide) (by first | omega | decide) (by first | omega | decide) (by first | omega | decide)) (cwV 4 hts g_q_bends_2 rfl rfl rfl (by decide +kernel) ⟨Nat.le_of_ble_eq_true rfl, Nat.le_of_ble_eq_true rfl⟩) (x_preV (q := (RX12, TX12, 85)) hK hP hD (ci := 11) (q0 := 0) rfl mwd_o0) rfl rfl hl.1 rfl (lv_room (Nat.le_of_ble_eq_true rfl)) dX12_bends_546 ⟨Nat.le_of_ble_eq_true rfl, Nat.le_of_ble_eq_true rfl⟩) hP hD hS hA (fun u H locs hw hP hD hS => ?_)
    obtain ⟨n_107, j_108, j_109⟩ := u
    try dsimp only at hw
    have hP : va_P D vwCl (mwd y ad zw (sJ (sJ (sI (sJ (sJ (sI (sJ (sJ (sI (sJ (sJ (sI (sJ (sJ (sI (sJ (sJ (sI σ 44 n_80) 42 j_81) 43 j_82) 44 n_85) 42 j_86) 43 j_87) 44 n_94) 42 j_95) 43 j_96) 44 n_97) 42 j_98) 43 j_99) 44 n_104) 42 j_105) 43 j_106) 44 n_107) 42 j_108) 43 j_109)) H := hP
    have hD : va_D A (mwd y ad zw (sJ (sJ (sI (sJ (sJ (sI (sJ (sJ (sI (sJ (sJ (sI (sJ (sJ (sI (sJ (sJ (sI σ 44 n_80) 42 j_81) 43 j_82) 44 n_85) 42 j_86) 43 j_87) 44 n_94) 42 j_95) 43 j_96) 44 n_97) 42 j_98) 43 j_99) 44 n_104) 42 j_105) 43 j_106) 44 n_107) 42 j_108) 43 j_109)) := hD
    have hw : -1000000000 ≤ j_108.toInt ∧ j_108.toInt ≤ 1000000000 ∧ 0 ≤ j_109.toInt ∧ j_109.toInt ≤ 1000000000 := hw
    refine lv_aload_n hx hb dX12_bends_549 rfl (lv_at hl 6 rfl) ?_
    refine lv_aload_n hx hb dX12_bends_550 rfl (lv_at hl 6 rfl) ?_
    refine va_get (D := D) (ci := 11) (v := .long j_108) (C := RX12) (T := TX12) (N := 85) hx hb hts inX12 hown hK hP 0 mwd_o0 rfl 42 (by decide) fl387 (fun _ h9 => h9) rfl dX12_bends_551 ?_
    refine lv_aload_n hx hb dX12_bends_554 rfl (lv_at hl 6 rfl) ?_
    refine va_get (D := D) (ci := 11) (v := .long j_109) (C := RX12) (T := TX12) (N := 85) hx hb hts inX12 hown hK hP 0 mwd_o0 rfl 43 (by decide) fl391 (fun _ h9 => h9) rfl dX12_bends_555 ?_
    refine lv_aload_n hx hb dX12_bends_558 rfl (lv_at hl 6 rfl) ?_
    refine va_get (D := D) (ci := 11) (v := .ref (ad 57)) (C := RX12) (T := TX12) (N := 85) hx hb hts inX12 hown hK hP 0 mwd_o0 rfl 57 (by decide) fl124 (fun _ h9 => h9) rfl dX12_bends_559 ?_
    refine lv_iload_n hx hb dX12_bends_562 rfl (lv_at hl 4 rfl) ?_
    refine va_lald hx hb hK hP 37 3 mwd_a37 rfl (x_in (by omega) (by omega)) dX12_bends_563 ?_
    refine lv_topl (fun j_110 ej_110 => ?_)
    have ej_110 : j_110 = (σ.2.2.2 57) (Int32.toNatClampNeg i_2) := ej_110
    have bj_110 := b_atJ hB57 ej_110
    refine lv_aload_n hx hb dX12_bends_564 rfl (lv_at hl 6 rfl) ?_
    refine va_get (D := D) (ci := 11) (v := .ref (ad 58)) (C := RX12) (T := TX12) (N := 85) hx hb hts inX12 hown hK hP 0 mwd_o0 rfl 58 (by decide) fl127 (fun _ h9 => h9) rfl dX12_bends_565 ?_
    refine lv_iload_n hx hb dX12_bends_568 rfl (lv_at hl 4 rfl) ?_
    refine va_lald hx hb hK hP 38 3 mwd_a38 rfl (x_in (by omega) (by omega)) dX12_bends_569 ?_
    refine lv_topl (fun j_111 ej_111 => ?_)
    have ej_111 : j_111 = (σ.2.2.2 58) (Int32.toNatClampNeg i_2) := ej_111
    have bj_111 := b_atJ hB58 ej_111
    refine x_callvW (va_runV (As := [.long j_108, .long j_109, .long j_110, .long j_111]) (rest := []) ⟨hx, hb, hml, hown, hts⟩ (q_divides l D y H.size ad zw (sJ (sJ (sI (sJ (sJ (sI (sJ (sJ (sI (sJ (sJ (sI (sJ (sJ (sI (sJ (sJ (sI σ 44 n_80) 42 j_81) 43 j_82) 44 n_85) 42 j_86) 43 j_87) 44 n_94) 42 j_95) 43 j_96) 44 n_97) 42 j_98) 43 j_99) 44 n_104) 42 j_105) 43 j_106) 44 n_107) 42 j_108) 43 j_109) j_108 j_109 j_110 j_111 (by first | omega | decide) (by first | omega | decide) (by first | omega | decide) (by first | omega | decide) (by first | omega | decide) (by first | omega | decide) (by first | omega | decide) (by first | omega | decide)) (cwV 4 hts g_q_bends_4 rfl rfl rfl (by decide +kernel) ⟨Nat.le_of_ble_eq_true rfl, Nat.le_of_ble_eq_true rfl⟩) (x_preV (q := (RX12, TX12, 85)) hK hP hD (ci := 11) (q0 := 0) rfl mwd_o0) rfl rfl hl.1 rfl (lv_room (Nat.le_of_ble_eq_true rfl)) dX12_bends_570 ⟨Nat.le_of_ble_eq_true rfl, Nat.le_of_ble_eq_true rfl⟩) hP hD hS hA (fun u H locs hw hP hD hS => ?_)
    obtain ⟨n_112, j_113, j_114⟩ := u
    try dsimp only at hw
    have hP : va_P D vwCl (mwd y ad zw (sJ (sJ (sI (sJ (sJ (sI (sJ (sJ (sI (sJ (sJ (sI (sJ (sJ (sI (sJ (sJ (sI (sJ (sJ (sI σ 44 n_80) 42 j_81) 43 j_82) 44 n_85) 42 j_86) 43 j_87) 44 n_94) 42 j_95) 43 j_96) 44 n_97) 42 j_98) 43 j_99) 44 n_104) 42 j_105) 43 j_106) 44 n_107) 42 j_108) 43 j_109) 44 n_112) 42 j_113) 43 j_114)) H := hP
    have hD : va_D A (mwd y ad zw (sJ (sJ (sI (sJ (sJ (sI (sJ (sJ (sI (sJ (sJ (sI (sJ (sJ (sI (sJ (sJ (sI (sJ (sJ (sI σ 44 n_80) 42 j_81) 43 j_82) 44 n_85) 42 j_86) 43 j_87) 44 n_94) 42 j_95) 43 j_96) 44 n_97) 42 j_98) 43 j_99) 44 n_104) 42 j_105) 43 j_106) 44 n_107) 42 j_108) 43 j_109) 44 n_112) 42 j_113) 43 j_114)) := hD
    have hw : -1000000000 ≤ j_113.toInt ∧ j_113.toInt ≤ 1000000000 ∧ 0 ≤ j_114.toInt ∧ j_114.toInt ≤ 1000000000 := hw
    refine lv_goto (tgt := 649) hx hb dX12_bends_573 (by decide) ?_
    refine lv_aload_n hx hb dX12_bends_649 rfl (lv_at hl 6 rfl) ?_
    refine lv_iconst (v := 2) hx hb dX12_bends_650 (by decide) ?_
    refine lv_iload_n hx hb dX12_bends_651 rfl (lv_at hl 7 rfl) ?_
    refine lv_aload_n hx hb dX12_bends_652 rfl (lv_at hl 6 rfl) ?_
    refine va_get (D := D) (ci := 11) (v := .long j_113) (C := RX12) (T := TX12) (N := 85) hx hb hts inX12 hown hK hP 0 mwd_o0 rfl 42 (by decide) fl387 (fun _ h9 => h9) rfl dX12_bends_653 ?_
    refine lv_aload_n hx hb dX12_bends_656 rfl (lv_at hl 6 rfl) ?_
    refine va_get (D := D) (ci := 11) (v := .long j_114) (C := RX12) (T := TX12) (N := 85) hx hb hts inX12 hown hK hP 0 mwd_o0 rfl 43 (by decide) fl391 (fun _ h9 => h9) rfl dX12_bends_657 ?_
    refine x_callvW (va_runV (As := [.int 2, .int k, .long j_113, .long j_114]) (rest := []) ⟨hx, hb, hml, hown, hts⟩ (q_lets2 l D y H.size ad zw (sJ (sJ (sI (sJ (sJ (sI (sJ (sJ (sI (sJ (sJ (sI (sJ (sJ (sI (sJ (sJ (sI (sJ (sJ (sI σ 44 n_80) 42 j_81) 43 j_82) 44 n_85) 42 j_86) 43 j_87) 44 n_94) 42 j_95) 43 j_96) 44 n_97) 42 j_98) 43 j_99) 44 n_104) 42 j_105) 43 j_106) 44 n_107) 42 j_108) 43 j_109) 44 n_112) 42 j_113) 43 j_114) k j_113 j_114 (by first | omega | decide) (by first | omega | decide) (by first | omega | decide) (by first | omega | decide) (by first | omega | decide) (by first | omega | decide) hB75 hB76) (cwV 4 hts g_q_bends_1 rfl rfl rfl (by decide +kernel) ⟨Nat.le_of_ble_eq_true rfl, Nat.le_of_ble_eq_true rfl⟩) (x_preV (q := (RX12, TX12, 85)) hK hP hD (ci := 11) (q0 := 0) rfl mwd_o0) rfl rfl hl.1 rfl (lv_room (Nat.le_of_ble_eq_true rfl)) dX12_bends_660 ⟨Nat.le_of_ble_eq_true rfl, Nat.le_of_ble_eq_true rfl⟩) hP hD hS hA (fun u H locs hw hP hD hS => ?_)
    obtain ⟨f_115, f_116⟩ := u
    try dsimp only at hw
    have hP : va_P D vwCl (mwd y ad zw (tJ (tJ (sJ (sJ (sI (sJ (sJ (sI (sJ (sJ (sI (sJ (sJ (sI (sJ (sJ (sI (sJ (sJ (sI (sJ (sJ (sI σ 44 n_80) 42 j_81) 43 j_82) 44 n_85) 42 j_86) 43 j_87) 44 n_94) 42 j_95) 43 j_96) 44 n_97) 42 j_98) 43 j_99) 44 n_104) 42 j_105) 43 j_106) 44 n_107) 42 j_108) 43 j_109) 44 n_112) 42 j_113) 43 j_114) 75 f_115) 76 f_116)) H := hP
    have hD : va_D A (mwd y ad zw (tJ (tJ (sJ (sJ (sI (sJ (sJ (sI (sJ (sJ (sI (sJ (sJ (sI (sJ (sJ (sI (sJ (sJ (sI (sJ (sJ (sI σ 44 n_80) 42 j_81) 43 j_82) 44 n_85) 42 j_86) 43 j_87) 44 n_94) 42 j_95) 43 j_96) 44 n_97) 42 j_98) 43 j_99) 44 n_104) 42 j_105) 43 j_106) 44 n_107) 42 j_108) 43 j_109) 44 n_112) 42 j_113) 43 j_114) 75 f_115) 76 f_116)) := hD
    have hw : (True) ∧ bJ f_115 (-1000000000) 1000000000 ∧ bJ f_116 0 1000000000 := hw
    obtain ⟨hw, hg_117, hg_118⟩ := hw
    have hP : va_P D vwCl (mwd y ad zw (tJ (tJ (sJ (sJ (sI σ 44 n_112) 42 j_113) 43 j_114) 75 f_115) 76 f_116)) H := hP
    have hD : va_D A (mwd y ad zw (tJ (tJ (sJ (sJ (sI σ 44 n_112) 42 j_113) 43 j_114) 75 f_115) 76 f_116)) := hD
    exact x_vretW (u := (n_112, j_113, j_114, f_115, f_116)) hx hb hr hQ (by (try dsimp only); exact ⟨trivial, hg_117, hg_118⟩) hP hD hK hS dX12_bends_663 hlocks
  · refine lv_tableIn (tgt := 631) hx hb dX12_bends_34 (by decide) (by decide) rfl (by decide) ?_
    refine lv_aload_n hx hb dX12_bends_631 rfl (lv_at hl 4 rfl) ?_
    refine lv_aload_n hx hb dX12_bends_632 rfl (lv_at hl 4 rfl) ?_
    refine va_get (D := D) (ci := 11) (v := .ref (ad 75)) (C := RX12) (T := TX12) (N := 85) hx hb hts inX12 hown hK hP 0 mwd_o0 rfl 75 (by decide) fl167 (fun _ h9 => h9) rfl dX12_bends_633 ?_
    refine lv_iload hx hb dX12_bends_636 (lv_at hl 1 rfl) ?_
    refine va_lald hx hb hK hP 51 3 mwd_a51 rfl (x_in (by omega) (by omega)) dX12_bends_638 ?_
    refine lv_topl (fun j_119 ej_119 => ?_)
    have ej_119 : j_119 = (σ.2.2.2 75) (Int32.toNatClampNeg i_3) := ej_119
    have bj_119 := b_atJ hB75 ej_119
    refine lv_aload_n hx hb dX12_bends_639 rfl (lv_at hl 4 rfl) ?_
    refine va_get (D := D) (ci := 11) (v := .ref (ad 76)) (C := RX12) (T := TX12) (N := 85) hx hb hts inX12 hown hK hP 0 mwd_o0 rfl 76 (by decide) fl170 (fun _ h9 => h9) rfl dX12_bends_640 ?_
    refine lv_iload hx hb dX12_bends_643 (lv_at hl 1 rfl) ?_
    refine va_lald hx hb hK hP 52 3 mwd_a52 rfl (x_in (by omega) (by omega)) dX12_bends_645 ?_
    refine lv_topl (fun j_120 ej_120 => ?_)
    have ej_120 : j_120 = (σ.2.2.2 76) (Int32.toNatClampNeg i_3) := ej_120
    have bj_120 := b_atJ hB76 ej_120
    refine x_callvW (va_runV (As := [.long j_119, .long j_120]) (rest := []) ⟨hx, hb, hml, hown, hts⟩ (q_comes l D y H.size ad zw σ j_119 j_120 (by first | omega | decide) (by first | omega | decide) (by first | omega | decide) (by first | omega | decide)) (cwV 2 hts g_q_bends_5 rfl rfl rfl (by decide +kernel) ⟨Nat.le_of_ble_eq_true rfl, Nat.le_of_ble_eq_true rfl⟩) (x_preV (q := (RX12, TX12, 85)) hK hP hD (ci := 11) (q0 := 0) rfl mwd_o0) rfl rfl hl.1 rfl (lv_room (Nat.le_of_ble_eq_true rfl)) dX12_bends_646 ⟨Nat.le_of_ble_eq_true rfl, Nat.le_of_ble_eq_true rfl⟩) hP hD hS hA (fun u H locs hw hP hD hS => ?_)
    obtain ⟨n_121, j_122, j_123⟩ := u
    try dsimp only at hw
    have hP : va_P D vwCl (mwd y ad zw (sJ (sJ (sI σ 44 n_121) 42 j_122) 43 j_123)) H := hP
    have hD : va_D A (mwd y ad zw (sJ (sJ (sI σ 44 n_121) 42 j_122) 43 j_123)) := hD
    have hw : -1000000000 ≤ j_122.toInt ∧ j_122.toInt ≤ 1000000000 ∧ 0 ≤ j_123.toInt ∧ j_123.toInt ≤ 1000000000 := hw
    refine lv_aload_n hx hb dX12_bends_649 rfl (lv_at hl 4 rfl) ?_
    refine lv_iconst (v := 2) hx hb dX12_bends_650 (by decide) ?_
    refine lv_iload_n hx hb dX12_bends_651 rfl (lv_at hl 5 rfl) ?_
    refine lv_aload_n hx hb dX12_bends_652 rfl (lv_at hl 4 rfl) ?_
    refine va_get (D := D) (ci := 11) (v := .long j_122) (C := RX12) (T := TX12) (N := 85) hx hb hts inX12 hown hK hP 0 mwd_o0 rfl 42 (by decide) fl387 (fun _ h9 => h9) rfl dX12_bends_653 ?_
    refine lv_aload_n hx hb dX12_bends_656 rfl (lv_at hl 4 rfl) ?_
    refine va_get (D := D) (ci := 11) (v := .long j_123) (C := RX12) (T := TX12) (N := 85) hx hb hts inX12 hown hK hP 0 mwd_o0 rfl 43 (by decide) fl391 (fun _ h9 => h9) rfl dX12_bends_657 ?_
    refine x_callvW (va_runV (As := [.int 2, .int k, .long j_122, .long j_123]) (rest := []) ⟨hx, hb, hml, hown, hts⟩ (q_lets2 l D y H.size ad zw (sJ (sJ (sI σ 44 n_121) 42 j_122) 43 j_123) k j_122 j_123 (by first | omega | decide) (by first | omega | decide) (by first | omega | decide) (by first | omega | decide) (by first | omega | decide) (by first | omega | decide) hB75 hB76) (cwV 4 hts g_q_bends_1 rfl rfl rfl (by decide +kernel) ⟨Nat.le_of_ble_eq_true rfl, Nat.le_of_ble_eq_true rfl⟩) (x_preV (q := (RX12, TX12, 85)) hK hP hD (ci := 11) (q0 := 0) rfl mwd_o0) rfl rfl hl.1 rfl (lv_room (Nat.le_of_ble_eq_true rfl)) dX12_bends_660 ⟨Nat.le_of_ble_eq_true rfl, Nat.le_of_ble_eq_true rfl⟩) hP hD hS hA (fun u H locs hw hP hD hS => ?_)
    obtain ⟨f_124, f_125⟩ := u
    try dsimp only at hw
    have hP : va_P D vwCl (mwd y ad zw (tJ (tJ (sJ (sJ (sI σ 44 n_121) 42 j_122) 43 j_123) 75 f_124) 76 f_125)) H := hP
    have hD : va_D A (mwd y ad zw (tJ (tJ (sJ (sJ (sI σ 44 n_121) 42 j_122) 43 j_123) 75 f_124) 76 f_125)) := hD
    have hw : (True) ∧ bJ f_124 (-1000000000) 1000000000 ∧ bJ f_125 0 1000000000 := hw
    obtain ⟨hw, hg_126, hg_127⟩ := hw
    exact x_vretW (u := (n_121, j_122, j_123, f_124, f_125)) hx hb hr hQ (by (try dsimp only); exact ⟨trivial, hg_126, hg_127⟩) hP hD hK hS dX12_bends_663 hlocks
  · refine lv_tableIn (tgt := 631) hx hb dX12_bends_34 (by decide) (by decide) rfl (by decide) ?_
    refine lv_aload_n hx hb dX12_bends_631 rfl (lv_at hl 4 rfl) ?_
    refine lv_aload_n hx hb dX12_bends_632 rfl (lv_at hl 4 rfl) ?_
    refine va_get (D := D) (ci := 11) (v := .ref (ad 75)) (C := RX12) (T := TX12) (N := 85) hx hb hts inX12 hown hK hP 0 mwd_o0 rfl 75 (by decide) fl167 (fun _ h9 => h9) rfl dX12_bends_633 ?_
    refine lv_iload hx hb dX12_bends_636 (lv_at hl 1 rfl) ?_
    refine va_lald hx hb hK hP 51 3 mwd_a51 rfl (x_in (by omega) (by omega)) dX12_bends_638 ?_
    refine lv_topl (fun j_128 ej_128 => ?_)
    have ej_128 : j_128 = (σ.2.2.2 75) (Int32.toNatClampNeg i_3) := ej_128
    have bj_128 := b_atJ hB75 ej_128
    refine lv_aload_n hx hb dX12_bends_639 rfl (lv_at hl 4 rfl) ?_
    refine va_get (D := D) (ci := 11) (v := .ref (ad 76)) (C := RX12) (T := TX12) (N := 85) hx hb hts inX12 hown hK hP 0 mwd_o0 rfl 76 (by decide) fl170 (fun _ h9 => h9) rfl dX12_bends_640 ?_
    refine lv_iload hx hb dX12_bends_643 (lv_at hl 1 rfl) ?_
    refine va_lald hx hb hK hP 52 3 mwd_a52 rfl (x_in (by omega) (by omega)) dX12_bends_645 ?_
    refine lv_topl (fun j_129 ej_129 => ?_)
    have ej_129 : j_129 = (σ.2.2.2 76) (Int32.toNatClampNeg i_3) := ej_129
    have bj_129 := b_atJ hB76 ej_129
    refine x_callvW (va_runV (As := [.long j_128, .long j_129]) (rest := []) ⟨hx, hb, hml, hown, hts⟩ (q_comes l D y H.size ad zw σ j_128 j_129 (by first | omega | decide) (by first | omega | decide) (by first | omega | decide) (by first | omega | decide)) (cwV 2 hts g_q_bends_5 rfl rfl rfl (by decide +kernel) ⟨Nat.le_of_ble_eq_true rfl, Nat.le_of_ble_eq_true rfl⟩) (x_preV (q := (RX12, TX12, 85)) hK hP hD (ci := 11) (q0 := 0) rfl mwd_o0) rfl rfl hl.1 rfl (lv_room (Nat.le_of_ble_eq_true rfl)) dX12_bends_646 ⟨Nat.le_of_ble_eq_true rfl, Nat.le_of_ble_eq_true rfl⟩) hP hD hS hA (fun u H locs hw hP hD hS => ?_)
    obtain ⟨n_130, j_131, j_132⟩ := u
    try dsimp only at hw
    have hP : va_P D vwCl (mwd y ad zw (sJ (sJ (sI σ 44 n_130) 42 j_131) 43 j_132)) H := hP
    have hD : va_D A (mwd y ad zw (sJ (sJ (sI σ 44 n_130) 42 j_131) 43 j_132)) := hD
    have hw : -1000000000 ≤ j_131.toInt ∧ j_131.toInt ≤ 1000000000 ∧ 0 ≤ j_132.toInt ∧ j_132.toInt ≤ 1000000000 := hw
    refine lv_aload_n hx hb dX12_bends_649 rfl (lv_at hl 4 rfl) ?_
    refine lv_iconst (v := 2) hx hb dX12_bends_650 (by decide) ?_
    refine lv_iload_n hx hb dX12_bends_651 rfl (lv_at hl 5 rfl) ?_
    refine lv_aload_n hx hb dX12_bends_652 rfl (lv_at hl 4 rfl) ?_
    refine va_get (D := D) (ci := 11) (v := .long j_131) (C := RX12) (T := TX12) (N := 85) hx hb hts inX12 hown hK hP 0 mwd_o0 rfl 42 (by decide) fl387 (fun _ h9 => h9) rfl dX12_bends_653 ?_
    refine lv_aload_n hx hb dX12_bends_656 rfl (lv_at hl 4 rfl) ?_
    refine va_get (D := D) (ci := 11) (v := .long j_132) (C := RX12) (T := TX12) (N := 85) hx hb hts inX12 hown hK hP 0 mwd_o0 rfl 43 (by decide) fl391 (fun _ h9 => h9) rfl dX12_bends_657 ?_
    refine x_callvW (va_runV (As := [.int 2, .int k, .long j_131, .long j_132]) (rest := []) ⟨hx, hb, hml, hown, hts⟩ (q_lets2 l D y H.size ad zw (sJ (sJ (sI σ 44 n_130) 42 j_131) 43 j_132) k j_131 j_132 (by first | omega | decide) (by first | omega | decide) (by first | omega | decide) (by first | omega | decide) (by first | omega | decide) (by first | omega | decide) hB75 hB76) (cwV 4 hts g_q_bends_1 rfl rfl rfl (by decide +kernel) ⟨Nat.le_of_ble_eq_true rfl, Nat.le_of_ble_eq_true rfl⟩) (x_preV (q := (RX12, TX12, 85)) hK hP hD (ci := 11) (q0 := 0) rfl mwd_o0) rfl rfl hl.1 rfl (lv_room (Nat.le_of_ble_eq_true rfl)) dX12_bends_660 ⟨Nat.le_of_ble_eq_true rfl, Nat.le_of_ble_eq_true rfl⟩) hP hD hS hA (fun u H locs hw hP hD hS => ?_)
    obtain ⟨f_133, f_134⟩ := u
    try dsimp only at hw
    have hP : va_P D vwCl (mwd y ad zw (tJ (tJ (sJ (sJ (sI σ 44 n_130) 42 j_131) 43 j_132) 75 f_133) 76 f_134)) H := hP
    have hD : va_D A (mwd y ad zw (tJ (tJ (sJ (sJ (sI σ 44 n_130) 42 j_131) 43 j_132) 75 f_133) 76 f_134)) := hD
    have hw : (True) ∧ bJ f_133 (-1000000000) 1000000000 ∧ bJ f_134 0 1000000000 := hw
    obtain ⟨hw, hg_135, hg_136⟩ := hw
    exact x_vretW (u := (n_130, j_131, j_132, f_133, f_134)) hx hb hr hQ (by (try dsimp only); exact ⟨trivial, hg_135, hg_136⟩) hP hD hK hS dX12_bends_663 hlocks
  · refine lv_tableIn (tgt := 576) hx hb dX12_bends_34 (by decide) (by decide) rfl (by decide) ?_
    refine lv_aload_n hx hb dX12_bends_576 rfl (lv_at hl 4 rfl) ?_
    refine va_get (D := D) (ci := 11) (v := .ref (ad 57)) (C := RX12) (T := TX12) (N := 85) hx hb hts inX12 hown hK hP 0 mwd_o0 rfl 57 (by decide) fl124 (fun _ h9 => h9) rfl dX12_bends_577 ?_
    refine lv_iload_n hx hb dX12_bends_580 rfl (lv_at hl 3 rfl) ?_
    refine va_lald hx hb hK hP 37 3 mwd_a37 rfl (x_in (by omega) (by omega)) dX12_bends_581 ?_
    refine lv_topl (fun j_137 ej_137 => ?_)
    have ej_137 : j_137 = (σ.2.2.2 57) (Int32.toNatClampNeg i_1) := ej_137
    have bj_137 := b_atJ hB57 ej_137
    refine lv_lconst (v := 0) hx hb dX12_bends_582 (by decide) ?_
    refine W.lcmp hx hb dX12_bends_583 ?_
    refine lv_if_ge (tgt := 610) hx hb dX12_bends_584 (by decide) (fun c_138 => ?_) (fun c_138 => ?_)
    · have kc_138 : j_137.toInt ≥ 0 := by have h9 := x_tri j_137 (0 : Int64); (try simp only [Int64.reduceToInt] at h9); rcases h9 with ⟨g1, g2⟩ | ⟨g1, g2⟩ | ⟨g1, g2⟩ <;> first | omega | (exfalso; rw [g1] at c_138; revert c_138; decide)
      refine lv_aload_n hx hb dX12_bends_610 rfl (lv_at hl 4 rfl) ?_
      refine lv_aload_n hx hb dX12_bends_611 rfl (lv_at hl 4 rfl) ?_
      refine va_get (D := D) (ci := 11) (v := .ref (ad 75)) (C := RX12) (T := TX12) (N := 85) hx hb hts inX12 hown hK hP 0 mwd_o0 rfl 75 (by decide) fl167 (fun _ h9 => h9) rfl dX12_bends_612 ?_
      refine lv_iload hx hb dX12_bends_615 (lv_at hl 1 rfl) ?_
      refine va_lald hx hb hK hP 51 3 mwd_a51 rfl (x_in (by omega) (by omega)) dX12_bends_617 ?_
      refine lv_topl (fun j_139 ej_139 => ?_)
      have ej_139 : j_139 = (σ.2.2.2 75) (Int32.toNatClampNeg i_3) := ej_139
      have bj_139 := b_atJ hB75 ej_139
      refine lv_aload_n hx hb dX12_bends_618 rfl (lv_at hl 4 rfl) ?_
      refine va_get (D := D) (ci := 11) (v := .ref (ad 76)) (C := RX12) (T := TX12) (N := 85) hx hb hts inX12 hown hK hP 0 mwd_o0 rfl 76 (by decide) fl170 (fun _ h9 => h9) rfl dX12_bends_619 ?_
      refine lv_iload hx hb dX12_bends_622 (lv_at hl 1 rfl) ?_
      refine va_lald hx hb hK hP 52 3 mwd_a52 rfl (x_in (by omega) (by omega)) dX12_bends_624 ?_
      refine lv_topl (fun j_140 ej_140 => ?_)
      have ej_140 : j_140 = (σ.2.2.2 76) (Int32.toNatClampNeg i_3) := ej_140
      have bj_140 := b_atJ hB76 ej_140
      refine x_callvW (va_runV (As := [.long j_139, .long j_140]) (rest := []) ⟨hx, hb, hml, hown, hts⟩ (q_comes l D y H.size ad zw σ j_139 j_140 (by first | omega | decide) (by first | omega | decide) (by first | omega | decide) (by first | omega | decide)) (cwV 2 hts g_q_bends_5 rfl rfl rfl (by decide +kernel) ⟨Nat.le_of_ble_eq_true rfl, Nat.le_of_ble_eq_true rfl⟩) (x_preV (q := (RX12, TX12, 85)) hK hP hD (ci := 11) (q0 := 0) rfl mwd_o0) rfl rfl hl.1 rfl (lv_room (Nat.le_of_ble_eq_true rfl)) dX12_bends_625 ⟨Nat.le_of_ble_eq_true rfl, Nat.le_of_ble_eq_true rfl⟩) hP hD hS hA (fun u H locs hw hP hD hS => ?_)
      obtain ⟨n_141, j_142, j_143⟩ := u
      try dsimp only at hw
      have hP : va_P D vwCl (mwd y ad zw (sJ (sJ (sI σ 44 n_141) 42 j_142) 43 j_143)) H := hP
      have hD : va_D A (mwd y ad zw (sJ (sJ (sI σ 44 n_141) 42 j_142) 43 j_143)) := hD
      have hw : -1000000000 ≤ j_142.toInt ∧ j_142.toInt ≤ 1000000000 ∧ 0 ≤ j_143.toInt ∧ j_143.toInt ≤ 1000000000 := hw
      refine lv_goto (tgt := 649) hx hb dX12_bends_628 (by decide) ?_
      refine lv_aload_n hx hb dX12_bends_649 rfl (lv_at hl 4 rfl) ?_
      refine lv_iconst (v := 2) hx hb dX12_bends_650 (by decide) ?_
      refine lv_iload_n hx hb dX12_bends_651 rfl (lv_at hl 5 rfl) ?_
      refine lv_aload_n hx hb dX12_bends_652 rfl (lv_at hl 4 rfl) ?_
      refine va_get (D := D) (ci := 11) (v := .long j_142) (C := RX12) (T := TX12) (N := 85) hx hb hts inX12 hown hK hP 0 mwd_o0 rfl 42 (by decide) fl387 (fun _ h9 => h9) rfl dX12_bends_653 ?_
      refine lv_aload_n hx hb dX12_bends_656 rfl (lv_at hl 4 rfl) ?_
      refine va_get (D := D) (ci := 11) (v := .long j_143) (C := RX12) (T := TX12) (N := 85) hx hb hts inX12 hown hK hP 0 mwd_o0 rfl 43 (by decide) fl391 (fun _ h9 => h9) rfl dX12_bends_657 ?_
      refine x_callvW (va_runV (As := [.int 2, .int k, .long j_142, .long j_143]) (rest := []) ⟨hx, hb, hml, hown, hts⟩ (q_lets2 l D y H.size ad zw (sJ (sJ (sI σ 44 n_141) 42 j_142) 43 j_143) k j_142 j_143 (by first | omega | decide) (by first | omega | decide) (by first | omega | decide) (by first | omega | decide) (by first | omega | decide) (by first | omega | decide) hB75 hB76) (cwV 4 hts g_q_bends_1 rfl rfl rfl (by decide +kernel) ⟨Nat.le_of_ble_eq_true rfl, Nat.le_of_ble_eq_true rfl⟩) (x_preV (q := (RX12, TX12, 85)) hK hP hD (ci := 11) (q0 := 0) rfl mwd_o0) rfl rfl hl.1 rfl (lv_room (Nat.le_of_ble_eq_true rfl)) dX12_bends_660 ⟨Nat.le_of_ble_eq_true rfl, Nat.le_of_ble_eq_true rfl⟩) hP hD hS hA (fun u H locs hw hP hD hS => ?_)
      obtain ⟨f_144, f_145⟩ := u
      try dsimp only at hw
      have hP : va_P D vwCl (mwd y ad zw (tJ (tJ (sJ (sJ (sI σ 44 n_141) 42 j_142) 43 j_143) 75 f_144) 76 f_145)) H := hP
      have hD : va_D A (mwd y ad zw (tJ (tJ (sJ (sJ (sI σ 44 n_141) 42 j_142) 43 j_143) 75 f_144) 76 f_145)) := hD
      have hw : (True) ∧ bJ f_144 (-1000000000) 1000000000 ∧ bJ f_145 0 1000000000 := hw
      obtain ⟨hw, hg_146, hg_147⟩ := hw
      exact x_vretW (u := (n_141, j_142, j_143, f_144, f_145)) hx hb hr hQ (by (try dsimp only); exact ⟨trivial, hg_146, hg_147⟩) hP hD hK hS dX12_bends_663 hlocks
    · have kc_138 : j_137.toInt < 0 := by have h9 := x_tri j_137 (0 : Int64); (try simp only [Int64.reduceToInt] at h9); rcases h9 with ⟨g1, g2⟩ | ⟨g1, g2⟩ | ⟨g1, g2⟩ <;> first | omega | (exfalso; rw [g1] at c_138; revert c_138; decide)
      refine lv_aload_n hx hb dX12_bends_587 rfl (lv_at hl 4 rfl) ?_
      refine lv_lconst (v := 0) hx hb dX12_bends_588 (by decide) ?_
      refine lv_lconst (v := 1) hx hb dX12_bends_589 (by decide) ?_
      refine lv_aload_n hx hb dX12_bends_590 rfl (lv_at hl 4 rfl) ?_
      refine va_get (D := D) (ci := 11) (v := .ref (ad 75)) (C := RX12) (T := TX12) (N := 85) hx hb hts inX12 hown hK hP 0 mwd_o0 rfl 75 (by decide) fl167 (fun _ h9 => h9) rfl dX12_bends_591 ?_
      refine lv_iload hx hb dX12_bends_594 (lv_at hl 1 rfl) ?_
      refine va_lald hx hb hK hP 51 3 mwd_a51 rfl (x_in (by omega) (by omega)) dX12_bends_596 ?_
      refine lv_topl (fun j_148 ej_148 => ?_)
      have ej_148 : j_148 = (σ.2.2.2 75) (Int32.toNatClampNeg i_3) := ej_148
      have bj_148 := b_atJ hB75 ej_148
      refine lv_aload_n hx hb dX12_bends_597 rfl (lv_at hl 4 rfl) ?_
      refine va_get (D := D) (ci := 11) (v := .ref (ad 76)) (C := RX12) (T := TX12) (N := 85) hx hb hts inX12 hown hK hP 0 mwd_o0 rfl 76 (by decide) fl170 (fun _ h9 => h9) rfl dX12_bends_598 ?_
      refine lv_iload hx hb dX12_bends_601 (lv_at hl 1 rfl) ?_
      refine va_lald hx hb hK hP 52 3 mwd_a52 rfl (x_in (by omega) (by omega)) dX12_bends_603 ?_
      refine lv_topl (fun j_149 ej_149 => ?_)
      have ej_149 : j_149 = (σ.2.2.2 76) (Int32.toNatClampNeg i_3) := ej_149
      have bj_149 := b_atJ hB76 ej_149
      refine x_callvW (va_runV (As := [.long 0, .long 1, .long j_148, .long j_149]) (rest := []) ⟨hx, hb, hml, hown, hts⟩ (q_takesOff l D y H.size ad zw σ 0 1 j_148 j_149 (by first | omega | decide) (by first | omega | decide) (by first | omega | decide) (by first | omega | decide) (by first | omega | decide) (by first | omega | decide) (by first | omega | decide) (by first | omega | decide)) (cwV 4 hts g_q_bends_2 rfl rfl rfl (by decide +kernel) ⟨Nat.le_of_ble_eq_true rfl, Nat.le_of_ble_eq_true rfl⟩) (x_preV (q := (RX12, TX12, 85)) hK hP hD (ci := 11) (q0 := 0) rfl mwd_o0) rfl rfl hl.1 rfl (lv_room (Nat.le_of_ble_eq_true rfl)) dX12_bends_604 ⟨Nat.le_of_ble_eq_true rfl, Nat.le_of_ble_eq_true rfl⟩) hP hD hS hA (fun u H locs hw hP hD hS => ?_)
      obtain ⟨n_150, j_151, j_152⟩ := u
      try dsimp only at hw
      have hP : va_P D vwCl (mwd y ad zw (sJ (sJ (sI σ 44 n_150) 42 j_151) 43 j_152)) H := hP
      have hD : va_D A (mwd y ad zw (sJ (sJ (sI σ 44 n_150) 42 j_151) 43 j_152)) := hD
      have hw : -1000000000 ≤ j_151.toInt ∧ j_151.toInt ≤ 1000000000 ∧ 0 ≤ j_152.toInt ∧ j_152.toInt ≤ 1000000000 := hw
      refine lv_goto (tgt := 649) hx hb dX12_bends_607 (by decide) ?_
      refine lv_aload_n hx hb dX12_bends_649 rfl (lv_at hl 4 rfl) ?_
      refine lv_iconst (v := 2) hx hb dX12_bends_650 (by decide) ?_
      refine lv_iload_n hx hb dX12_bends_651 rfl (lv_at hl 5 rfl) ?_
      refine lv_aload_n hx hb dX12_bends_652 rfl (lv_at hl 4 rfl) ?_
      refine va_get (D := D) (ci := 11) (v := .long j_151) (C := RX12) (T := TX12) (N := 85) hx hb hts inX12 hown hK hP 0 mwd_o0 rfl 42 (by decide) fl387 (fun _ h9 => h9) rfl dX12_bends_653 ?_
      refine lv_aload_n hx hb dX12_bends_656 rfl (lv_at hl 4 rfl) ?_
      refine va_get (D := D) (ci := 11) (v := .long j_152) (C := RX12) (T := TX12) (N := 85) hx hb hts inX12 hown hK hP 0 mwd_o0 rfl 43 (by decide) fl391 (fun _ h9 => h9) rfl dX12_bends_657 ?_
      refine x_callvW (va_runV (As := [.int 2, .int k, .long j_151, .long j_152]) (rest := []) ⟨hx, hb, hml, hown, hts⟩ (q_lets2 l D y H.size ad zw (sJ (sJ (sI σ 44 n_150) 42 j_151) 43 j_152) k j_151 j_152 (by first | omega | decide) (by first | omega | decide) (by first | omega | decide) (by first | omega | decide) (by first | omega | decide) (by first | omega | decide) hB75 hB76) (cwV 4 hts g_q_bends_1 rfl rfl rfl (by decide +kernel) ⟨Nat.le_of_ble_eq_true rfl, Nat.le_of_ble_eq_true rfl⟩) (x_preV (q := (RX12, TX12, 85)) hK hP hD (ci := 11) (q0 := 0) rfl mwd_o0) rfl rfl hl.1 rfl (lv_room (Nat.le_of_ble_eq_true rfl)) dX12_bends_660 ⟨Nat.le_of_ble_eq_true rfl, Nat.le_of_ble_eq_true rfl⟩) hP hD hS hA (fun u H locs hw hP hD hS => ?_)
      obtain ⟨f_153, f_154⟩ := u
      try dsimp only at hw
      have hP : va_P D vwCl (mwd y ad zw (tJ (tJ (sJ (sJ (sI σ 44 n_150) 42 j_151) 43 j_152) 75 f_153) 76 f_154)) H := hP
      have hD : va_D A (mwd y ad zw (tJ (tJ (sJ (sJ (sI σ 44 n_150) 42 j_151) 43 j_152) 75 f_153) 76 f_154)) := hD
      have hw : (True) ∧ bJ f_153 (-1000000000) 1000000000 ∧ bJ f_154 0 1000000000 := hw
      obtain ⟨hw, hg_155, hg_156⟩ := hw
      exact x_vretW (u := (n_150, j_151, j_152, f_153, f_154)) hx hb hr hQ (by (try dsimp only); exact ⟨trivial, hg_155, hg_156⟩) hP hD hK hS dX12_bends_663 hlocks
  · refine lv_tableOut (tgt := 631) hx hb dX12_bends_34 g_6 (by decide) ?_
    refine lv_aload_n hx hb dX12_bends_631 rfl (lv_at hl 4 rfl) ?_
    refine lv_aload_n hx hb dX12_bends_632 rfl (lv_at hl 4 rfl) ?_
    refine va_get (D := D) (ci := 11) (v := .ref (ad 75)) (C := RX12) (T := TX12) (N := 85) hx hb hts inX12 hown hK hP 0 mwd_o0 rfl 75 (by decide) fl167 (fun _ h9 => h9) rfl dX12_bends_633 ?_
    refine lv_iload hx hb dX12_bends_636 (lv_at hl 1 rfl) ?_
    refine va_lald hx hb hK hP 51 3 mwd_a51 rfl (x_in (by omega) (by omega)) dX12_bends_638 ?_
    refine lv_topl (fun j_157 ej_157 => ?_)
    have ej_157 : j_157 = (σ.2.2.2 75) (Int32.toNatClampNeg i_3) := ej_157
    have bj_157 := b_atJ hB75 ej_157
    refine lv_aload_n hx hb dX12_bends_639 rfl (lv_at hl 4 rfl) ?_
    refine va_get (D := D) (ci := 11) (v := .ref (ad 76)) (C := RX12) (T := TX12) (N := 85) hx hb hts inX12 hown hK hP 0 mwd_o0 rfl 76 (by decide) fl170 (fun _ h9 => h9) rfl dX12_bends_640 ?_
    refine lv_iload hx hb dX12_bends_643 (lv_at hl 1 rfl) ?_
    refine va_lald hx hb hK hP 52 3 mwd_a52 rfl (x_in (by omega) (by omega)) dX12_bends_645 ?_
    refine lv_topl (fun j_158 ej_158 => ?_)
    have ej_158 : j_158 = (σ.2.2.2 76) (Int32.toNatClampNeg i_3) := ej_158
    have bj_158 := b_atJ hB76 ej_158
    refine x_callvW (va_runV (As := [.long j_157, .long j_158]) (rest := []) ⟨hx, hb, hml, hown, hts⟩ (q_comes l D y H.size ad zw σ j_157 j_158 (by first | omega | decide) (by first | omega | decide) (by first | omega | decide) (by first | omega | decide)) (cwV 2 hts g_q_bends_5 rfl rfl rfl (by decide +kernel) ⟨Nat.le_of_ble_eq_true rfl, Nat.le_of_ble_eq_true rfl⟩) (x_preV (q := (RX12, TX12, 85)) hK hP hD (ci := 11) (q0 := 0) rfl mwd_o0) rfl rfl hl.1 rfl (lv_room (Nat.le_of_ble_eq_true rfl)) dX12_bends_646 ⟨Nat.le_of_ble_eq_true rfl, Nat.le_of_ble_eq_true rfl⟩) hP hD hS hA (fun u H locs hw hP hD hS => ?_)
    obtain ⟨n_159, j_160, j_161⟩ := u
    try dsimp only at hw
    have hP : va_P D vwCl (mwd y ad zw (sJ (sJ (sI σ 44 n_159) 42 j_160) 43 j_161)) H := hP
    have hD : va_D A (mwd y ad zw (sJ (sJ (sI σ 44 n_159) 42 j_160) 43 j_161)) := hD
    have hw : -1000000000 ≤ j_160.toInt ∧ j_160.toInt ≤ 1000000000 ∧ 0 ≤ j_161.toInt ∧ j_161.toInt ≤ 1000000000 := hw
    refine lv_aload_n hx hb dX12_bends_649 rfl (lv_at hl 4 rfl) ?_
    refine lv_iconst (v := 2) hx hb dX12_bends_650 (by decide) ?_
    refine lv_iload_n hx hb dX12_bends_651 rfl (lv_at hl 5 rfl) ?_
    refine lv_aload_n hx hb dX12_bends_652 rfl (lv_at hl 4 rfl) ?_
    refine va_get (D := D) (ci := 11) (v := .long j_160) (C := RX12) (T := TX12) (N := 85) hx hb hts inX12 hown hK hP 0 mwd_o0 rfl 42 (by decide) fl387 (fun _ h9 => h9) rfl dX12_bends_653 ?_
    refine lv_aload_n hx hb dX12_bends_656 rfl (lv_at hl 4 rfl) ?_
    refine va_get (D := D) (ci := 11) (v := .long j_161) (C := RX12) (T := TX12) (N := 85) hx hb hts inX12 hown hK hP 0 mwd_o0 rfl 43 (by decide) fl391 (fun _ h9 => h9) rfl dX12_bends_657 ?_
    refine x_callvW (va_runV (As := [.int 2, .int k, .long j_160, .long j_161]) (rest := []) ⟨hx, hb, hml, hown, hts⟩ (q_lets2 l D y H.size ad zw (sJ (sJ (sI σ 44 n_159) 42 j_160) 43 j_161) k j_160 j_161 (by first | omega | decide) (by first | omega | decide) (by first | omega | decide) (by first | omega | decide) (by first | omega | decide) (by first | omega | decide) hB75 hB76) (cwV 4 hts g_q_bends_1 rfl rfl rfl (by decide +kernel) ⟨Nat.le_of_ble_eq_true rfl, Nat.le_of_ble_eq_true rfl⟩) (x_preV (q := (RX12, TX12, 85)) hK hP hD (ci := 11) (q0 := 0) rfl mwd_o0) rfl rfl hl.1 rfl (lv_room (Nat.le_of_ble_eq_true rfl)) dX12_bends_660 ⟨Nat.le_of_ble_eq_true rfl, Nat.le_of_ble_eq_true rfl⟩) hP hD hS hA (fun u H locs hw hP hD hS => ?_)
    obtain ⟨f_162, f_163⟩ := u
    try dsimp only at hw
    have hP : va_P D vwCl (mwd y ad zw (tJ (tJ (sJ (sJ (sI σ 44 n_159) 42 j_160) 43 j_161) 75 f_162) 76 f_163)) H := hP
    have hD : va_D A (mwd y ad zw (tJ (tJ (sJ (sJ (sI σ 44 n_159) 42 j_160) 43 j_161) 75 f_162) 76 f_163)) := hD
    have hw : (True) ∧ bJ f_162 (-1000000000) 1000000000 ∧ bJ f_163 0 1000000000 := hw
    obtain ⟨hw, hg_164, hg_165⟩ := hw
    exact x_vretW (u := (n_159, j_160, j_161, f_162, f_163)) hx hb hr hQ (by (try dsimp only); exact ⟨trivial, hg_164, hg_165⟩) hP hD hK hS dX12_bends_663 hlocks

def v_q_goesBack : List Cond := .code yX12_goesBack cX12_goesBack 8 none :: ([.fieldLink RX12 133 "SlopeRunnerModel" "first" "[I", .fieldLink RX12 136 "SlopeRunnerModel" "second" "[I", .fieldLink RX12 130 "SlopeRunnerModel" "op" "[I", .fieldLink RX12 124 "SlopeRunnerModel" "valueAbove" "[J", .fieldLink RX12 127 "SlopeRunnerModel" "valueBelow" "[J", .fieldLink RX12 387 "SlopeRunnerModel" "up" "J", .fieldLink RX12 391 "SlopeRunnerModel" "down" "J"] ++ ((wsV RX12 478 RX12 yX12_shares v_q_shares) ++ ((wsV RX12 427 RX12 yX12_multiplies v_q_multiplies) ++ ((wsV RX12 430 RX12 yX12_divides v_q_divides) ++ wsX120))))
theorem g_q_goesBack_0 : GoodIn v_q_goesBack (wsV RX12 478 RX12 yX12_shares v_q_shares) := goodIn_sub (fun w h => List.mem_cons_of_mem _ (List.mem_append_right _ (List.mem_append_left _ h))) (by decide +kernel)
theorem g_q_goesBack_1 : GoodIn v_q_goesBack (wsV RX12 427 RX12 yX12_multiplies v_q_multiplies) := goodIn_sub (fun w h => List.mem_cons_of_mem _ (List.mem_append_right _ (List.mem_append_right _ (List.mem_append_left _ h)))) (by decide +kernel)
theorem g_q_goesBack_2 : GoodIn v_q_goesBack (wsV RX12 430 RX12 yX12_divides v_q_divides) := goodIn_sub (fun w h => List.mem_cons_of_mem _ (List.mem_append_right _ (List.mem_append_right _ (List.mem_append_right _ (List.mem_append_left _ h))))) (by decide +kernel)
set_option maxHeartbeats 4000000 in
set_option maxRecDepth 100000 in
theorem q_goesBack (l : Launch) (D : va_G) (y : Nat → ClassId) (sz : Nat) (ad : Nat → Nat) (zw : Nat → Nat → Int32) (σ : OS) (k : Int32) (a b : Int64) (hk0 : 0 ≤ k.toInt) (hk1 : k.toInt < 1760) (hne : σ.2.2.1 59 (Int32.toNatClampNeg k) ≠ 0) (ha0 : -1000000000 ≤ a.toInt) (ha1 : a.toInt ≤ 1000000000) (hb0 : 0 ≤ b.toInt) (hb1 : b.toInt ≤ 1000000000) (hop : opc (σ.2.2.1 59) (σ.2.2.1 60) (σ.2.2.1 61)) (hB75 : bJ (σ.2.2.2 75) (-1000000000) 1000000000) (hB76 : bJ (σ.2.2.2 76) 0 1000000000) (hB57 : bJ (σ.2.2.2 57) (-1000000000) 1000000000) (hB58 : bJ (σ.2.2.2 58) 0 1000000000) : Met l yX12_goesBack v_q_goesBack ({ frames := 5, cells := 0, slots := 0, locals := 133 } : Room) (va_Pc [.ref (ad 1), .int k, .long a, .long b] (xPre D (xT y) (mwd y ad zw σ) sz)) (va_Qv (fun (u : Int32 × Int64 × Int64 × (Nat → Int64) × (Nat → Int64)) => (True) ∧ bJ u.2.2.2.1 (-1000000000) 1000000000 ∧ bJ u.2.2.2.2 0 1000000000) (fun (u : Int32 × Int64 × Int64 × (Nat → Int64) × (Nat → Int64)) => xB D (xT y) (va_A (mwd y ad zw σ) sz) (mwd y ad zw (tJ (tJ (sJ (sJ (sI σ 44 u.1) 42 u.2.1) 43 u.2.2.1) 75 u.2.2.2.1) 76 u.2.2.2.2))) (va_A (mwd y ad zw σ) sz)) 0 0 (va_A (mwd y ad zw σ) sz) := by
  refine x_metv (cc := cX12_goesBack) (maxL := 8) (by decide) rfl (Nat.le_of_ble_eq_true rfl) ?_
  intro p e s m below meth c A H locs Q hx hb hml hown hts hr hlocks hmn hA hP hK hD hS ls hl hQ
  have hl : lv_has ls 8 [(0, .ref (ad 1)), (1, .int k), (2, .long a), (4, .long b)] := hl
  have fl133 := hts (.fieldLink RX12 133 "SlopeRunnerModel" "first" "[I") (List.mem_of_getElem? (i := 1) rfl)
  have inX12 : ∀ w ∈ wsX120, w ∈ v_q_goesBack := (fun w h => List.mem_cons_of_mem _ (List.mem_append_right _ (List.mem_append_right _ (List.mem_append_right _ (List.mem_append_right _ h)))))
  have fl136 := hts (.fieldLink RX12 136 "SlopeRunnerModel" "second" "[I") (List.mem_of_getElem? (i := 2) rfl)
  have fl130 := hts (.fieldLink RX12 130 "SlopeRunnerModel" "op" "[I") (List.mem_of_getElem? (i := 3) rfl)
  have fl124 := hts (.fieldLink RX12 124 "SlopeRunnerModel" "valueAbove" "[J") (List.mem_of_getElem? (i := 4) rfl)
  have fl127 := hts (.fieldLink RX12 127 "SlopeRunnerModel" "valueBelow" "[J") (List.mem_of_getElem? (i := 5) rfl)
  have fl387 := hts (.fieldLink RX12 387 "SlopeRunnerModel" "up" "J") (List.mem_of_getElem? (i := 6) rfl)
  have fl391 := hts (.fieldLink RX12 391 "SlopeRunnerModel" "down" "J") (List.mem_of_getElem? (i := 7) rfl)
  refine lv_aload_n hx hb dX12_goesBack_0 rfl (lv_at hl 0 rfl) ?_
  refine va_get (D := D) (ci := 11) (v := .ref (ad 60)) (C := RX12) (T := TX12) (N := 85) hx hb hts inX12 hown hK hP 0 mwd_o0 rfl 60 (by decide) fl133 (fun _ h9 => h9) rfl dX12_goesBack_1 ?_
  refine lv_iload_n hx hb dX12_goesBack_4 rfl (lv_at hl 1 rfl) ?_
  refine va_iald hx hb hK hP 40 2 mwd_a40 rfl (x_in (by omega) (by omega)) dX12_goesBack_5 ?_
  refine lv_topi (fun i_1 ei_1 => ?_)
  have ei_1 : i_1 = (σ.2.2.1 60) (Int32.toNatClampNeg k) := ei_1
  have gi_1 := opc_1 hop hne ei_1
  refine lv_istore (lv' := [(6, .int i_1), (0, .ref (ad 1)), (1, .int k), (2, .long a), (4, .long b)]) hx hb dX12_goesBack_6 hl (by decide) rfl (fun ls hl => ?_)
  refine lv_aload_n hx hb dX12_goesBack_8 rfl (lv_at hl 1 rfl) ?_
  refine va_get (D := D) (ci := 11) (v := .ref (ad 61)) (C := RX12) (T := TX12) (N := 85) hx hb hts inX12 hown hK hP 0 mwd_o0 rfl 61 (by decide) fl136 (fun _ h9 => h9) rfl dX12_goesBack_9 ?_
  refine lv_iload_n hx hb dX12_goesBack_12 rfl (lv_at hl 2 rfl) ?_
  refine va_iald hx hb hK hP 41 2 mwd_a41 rfl (x_in (by omega) (by omega)) dX12_goesBack_13 ?_
  refine lv_topi (fun i_2 ei_2 => ?_)
  have ei_2 : i_2 = (σ.2.2.1 61) (Int32.toNatClampNeg k) := ei_2
  have gi_2 := opc_2 hop hne ei_2
  refine lv_istore (lv' := [(7, .int i_2), (6, .int i_1), (0, .ref (ad 1)), (1, .int k), (2, .long a), (4, .long b)]) hx hb dX12_goesBack_14 hl (by decide) rfl (fun ls hl => ?_)
  refine lv_aload_n hx hb dX12_goesBack_16 rfl (lv_at hl 2 rfl) ?_
  refine va_get (D := D) (ci := 11) (v := .ref (ad 59)) (C := RX12) (T := TX12) (N := 85) hx hb hts inX12 hown hK hP 0 mwd_o0 rfl 59 (by decide) fl130 (fun _ h9 => h9) rfl dX12_goesBack_17 ?_
  refine lv_iload_n hx hb dX12_goesBack_20 rfl (lv_at hl 3 rfl) ?_
  refine va_iald hx hb hK hP 39 2 mwd_a39 rfl (x_in (by omega) (by omega)) dX12_goesBack_21 ?_
  refine lv_topi (fun i_3 ei_3 => ?_)
  have ei_3 : i_3 = (σ.2.2.1 59) (Int32.toNatClampNeg k) := ei_3
  rcases (show i_3 = 1 ∨ i_3 = 2 ∨ i_3 = 3 ∨ i_3 = 4 ∨ i_3 = 5 ∨ i_3 = 6 ∨ i_3 = 7 ∨ (i_3.toInt < 1 ∨ 7 < i_3.toInt) by simp only [x_eq, Int32.reduceToInt]; omega) with rfl | rfl | rfl | rfl | rfl | rfl | rfl | g_4
  · refine lv_tableIn (tgt := 64) hx hb dX12_goesBack_22 (by decide) (by decide) rfl (by decide) ?_
    refine lv_aload_n hx hb dX12_goesBack_64 rfl (lv_at hl 2 rfl) ?_
    refine lv_iload hx hb dX12_goesBack_65 (lv_at hl 1 rfl) ?_
    refine lv_lload_n hx hb dX12_goesBack_67 rfl (lv_at hl 4 rfl) ?_
    refine lv_lload hx hb dX12_goesBack_68 (lv_at hl 5 rfl) ?_
    refine x_callvW (va_runV (As := [.int i_1, .long a, .long b]) (rest := []) ⟨hx, hb, hml, hown, hts⟩ (q_shares l D y H.size ad zw σ i_1 a b (by first | omega | decide) (by first | omega | decide) (by first | omega | decide) (by first | omega | decide) (by first | omega | decide) (by first | omega | decide) hB75 hB76) (cwV 3 hts g_q_goesBack_0 rfl rfl rfl (by decide +kernel) ⟨Nat.le_of_ble_eq_true rfl, Nat.le_of_ble_eq_true rfl⟩) (x_preV (q := (RX12, TX12, 85)) hK hP hD (ci := 11) (q0 := 0) rfl mwd_o0) rfl rfl hl.1 rfl (lv_room (Nat.le_of_ble_eq_true rfl)) dX12_goesBack_70 ⟨Nat.le_of_ble_eq_true rfl, Nat.le_of_ble_eq_true rfl⟩) hP hD hS hA (fun u H locs hw hP hD hS => ?_)
    obtain ⟨n_5, j_6, j_7, f_8, f_9⟩ := u
    try dsimp only at hw
    have hP : va_P D vwCl (mwd y ad zw (tJ (tJ (sJ (sJ (sI σ 44 n_5) 42 j_6) 43 j_7) 75 f_8) 76 f_9)) H := hP
    have hD : va_D A (mwd y ad zw (tJ (tJ (sJ (sJ (sI σ 44 n_5) 42 j_6) 43 j_7) 75 f_8) 76 f_9)) := hD
    have hw : (-1000000000 ≤ j_6.toInt ∧ j_6.toInt ≤ 1000000000 ∧ 0 ≤ j_7.toInt ∧ j_7.toInt ≤ 1000000000) ∧ bJ f_8 (-1000000000) 1000000000 ∧ bJ f_9 0 1000000000 := hw
    obtain ⟨hw, hg_10, hg_11⟩ := hw
    refine lv_aload_n hx hb dX12_goesBack_73 rfl (lv_at hl 2 rfl) ?_
    refine lv_iload hx hb dX12_goesBack_74 (lv_at hl 0 rfl) ?_
    refine lv_lload_n hx hb dX12_goesBack_76 rfl (lv_at hl 4 rfl) ?_
    refine lv_lload hx hb dX12_goesBack_77 (lv_at hl 5 rfl) ?_
    refine x_callvW (va_runV (As := [.int i_2, .long a, .long b]) (rest := []) ⟨hx, hb, hml, hown, hts⟩ (q_shares l D y H.size ad zw (tJ (tJ (sJ (sJ (sI σ 44 n_5) 42 j_6) 43 j_7) 75 f_8) 76 f_9) i_2 a b (by first | omega | decide) (by first | omega | decide) (by first | omega | decide) (by first | omega | decide) (by first | omega | decide) (by first | omega | decide) hg_10 hg_11) (cwV 3 hts g_q_goesBack_0 rfl rfl rfl (by decide +kernel) ⟨Nat.le_of_ble_eq_true rfl, Nat.le_of_ble_eq_true rfl⟩) (x_preV (q := (RX12, TX12, 85)) hK hP hD (ci := 11) (q0 := 0) rfl mwd_o0) rfl rfl hl.1 rfl (lv_room (Nat.le_of_ble_eq_true rfl)) dX12_goesBack_79 ⟨Nat.le_of_ble_eq_true rfl, Nat.le_of_ble_eq_true rfl⟩) hP hD hS hA (fun u H locs hw hP hD hS => ?_)
    obtain ⟨n_12, j_13, j_14, f_15, f_16⟩ := u
    try dsimp only at hw
    have hP : va_P D vwCl (mwd y ad zw (tJ (tJ (sJ (sJ (sI (tJ (tJ (sJ (sJ (sI σ 44 n_5) 42 j_6) 43 j_7) 75 f_8) 76 f_9) 44 n_12) 42 j_13) 43 j_14) 75 f_15) 76 f_16)) H := hP
    have hD : va_D A (mwd y ad zw (tJ (tJ (sJ (sJ (sI (tJ (tJ (sJ (sJ (sI σ 44 n_5) 42 j_6) 43 j_7) 75 f_8) 76 f_9) 44 n_12) 42 j_13) 43 j_14) 75 f_15) 76 f_16)) := hD
    have hw : (-1000000000 ≤ j_13.toInt ∧ j_13.toInt ≤ 1000000000 ∧ 0 ≤ j_14.toInt ∧ j_14.toInt ≤ 1000000000) ∧ bJ f_15 (-1000000000) 1000000000 ∧ bJ f_16 0 1000000000 := hw
    obtain ⟨hw, hg_17, hg_18⟩ := hw
    refine lv_goto (tgt := 316) hx hb dX12_goesBack_82 (by decide) ?_
    have hP : va_P D vwCl (mwd y ad zw (tJ (tJ (sJ (sJ (sI σ 44 n_12) 42 j_13) 43 j_14) 75 f_15) 76 f_16)) H := hP
    have hD : va_D A (mwd y ad zw (tJ (tJ (sJ (sJ (sI σ 44 n_12) 42 j_13) 43 j_14) 75 f_15) 76 f_16)) := hD
    exact x_vretW (u := (n_12, j_13, j_14, f_15, f_16)) hx hb hr hQ (by (try dsimp only); exact ⟨trivial, hg_17, hg_18⟩) hP hD hK hS dX12_goesBack_316 hlocks
  · refine lv_tableIn (tgt := 85) hx hb dX12_goesBack_22 (by decide) (by decide) rfl (by decide) ?_
    refine lv_aload_n hx hb dX12_goesBack_85 rfl (lv_at hl 2 rfl) ?_
    refine lv_iload hx hb dX12_goesBack_86 (lv_at hl 1 rfl) ?_
    refine lv_lload_n hx hb dX12_goesBack_88 rfl (lv_at hl 4 rfl) ?_
    refine lv_lload hx hb dX12_goesBack_89 (lv_at hl 5 rfl) ?_
    refine x_callvW (va_runV (As := [.int i_1, .long a, .long b]) (rest := []) ⟨hx, hb, hml, hown, hts⟩ (q_shares l D y H.size ad zw σ i_1 a b (by first | omega | decide) (by first | omega | decide) (by first | omega | decide) (by first | omega | decide) (by first | omega | decide) (by first | omega | decide) hB75 hB76) (cwV 3 hts g_q_goesBack_0 rfl rfl rfl (by decide +kernel) ⟨Nat.le_of_ble_eq_true rfl, Nat.le_of_ble_eq_true rfl⟩) (x_preV (q := (RX12, TX12, 85)) hK hP hD (ci := 11) (q0 := 0) rfl mwd_o0) rfl rfl hl.1 rfl (lv_room (Nat.le_of_ble_eq_true rfl)) dX12_goesBack_91 ⟨Nat.le_of_ble_eq_true rfl, Nat.le_of_ble_eq_true rfl⟩) hP hD hS hA (fun u H locs hw hP hD hS => ?_)
    obtain ⟨n_19, j_20, j_21, f_22, f_23⟩ := u
    try dsimp only at hw
    have hP : va_P D vwCl (mwd y ad zw (tJ (tJ (sJ (sJ (sI σ 44 n_19) 42 j_20) 43 j_21) 75 f_22) 76 f_23)) H := hP
    have hD : va_D A (mwd y ad zw (tJ (tJ (sJ (sJ (sI σ 44 n_19) 42 j_20) 43 j_21) 75 f_22) 76 f_23)) := hD
    have hw : (-1000000000 ≤ j_20.toInt ∧ j_20.toInt ≤ 1000000000 ∧ 0 ≤ j_21.toInt ∧ j_21.toInt ≤ 1000000000) ∧ bJ f_22 (-1000000000) 1000000000 ∧ bJ f_23 0 1000000000 := hw
    obtain ⟨hw, hg_24, hg_25⟩ := hw
    refine lv_aload_n hx hb dX12_goesBack_94 rfl (lv_at hl 2 rfl) ?_
    refine lv_iload hx hb dX12_goesBack_95 (lv_at hl 0 rfl) ?_
    refine lv_lload_n hx hb dX12_goesBack_97 rfl (lv_at hl 4 rfl) ?_
    refine lv_lneg hx hb dX12_goesBack_98 ?_
    refine lv_topl (fun j_26 ej_26 => ?_)
    have vj_26 : j_26.toInt = -a.toInt := by have h9 := x_negL ej_26 (by omega); omega
    refine lv_lload hx hb dX12_goesBack_99 (lv_at hl 5 rfl) ?_
    refine x_callvW (va_runV (As := [.int i_2, .long j_26, .long b]) (rest := []) ⟨hx, hb, hml, hown, hts⟩ (q_shares l D y H.size ad zw (tJ (tJ (sJ (sJ (sI σ 44 n_19) 42 j_20) 43 j_21) 75 f_22) 76 f_23) i_2 j_26 b (by first | omega | decide) (by first | omega | decide) (by first | omega | decide) (by first | omega | decide) (by first | omega | decide) (by first | omega | decide) hg_24 hg_25) (cwV 3 hts g_q_goesBack_0 rfl rfl rfl (by decide +kernel) ⟨Nat.le_of_ble_eq_true rfl, Nat.le_of_ble_eq_true rfl⟩) (x_preV (q := (RX12, TX12, 85)) hK hP hD (ci := 11) (q0 := 0) rfl mwd_o0) rfl rfl hl.1 rfl (lv_room (Nat.le_of_ble_eq_true rfl)) dX12_goesBack_101 ⟨Nat.le_of_ble_eq_true rfl, Nat.le_of_ble_eq_true rfl⟩) hP hD hS hA (fun u H locs hw hP hD hS => ?_)
    obtain ⟨n_27, j_28, j_29, f_30, f_31⟩ := u
    try dsimp only at hw
    have hP : va_P D vwCl (mwd y ad zw (tJ (tJ (sJ (sJ (sI (tJ (tJ (sJ (sJ (sI σ 44 n_19) 42 j_20) 43 j_21) 75 f_22) 76 f_23) 44 n_27) 42 j_28) 43 j_29) 75 f_30) 76 f_31)) H := hP
    have hD : va_D A (mwd y ad zw (tJ (tJ (sJ (sJ (sI (tJ (tJ (sJ (sJ (sI σ 44 n_19) 42 j_20) 43 j_21) 75 f_22) 76 f_23) 44 n_27) 42 j_28) 43 j_29) 75 f_30) 76 f_31)) := hD
    have hw : (-1000000000 ≤ j_28.toInt ∧ j_28.toInt ≤ 1000000000 ∧ 0 ≤ j_29.toInt ∧ j_29.toInt ≤ 1000000000) ∧ bJ f_30 (-1000000000) 1000000000 ∧ bJ f_31 0 1000000000 := hw
    obtain ⟨hw, hg_32, hg_33⟩ := hw
    refine lv_goto (tgt := 316) hx hb dX12_goesBack_104 (by decide) ?_
    have hP : va_P D vwCl (mwd y ad zw (tJ (tJ (sJ (sJ (sI σ 44 n_27) 42 j_28) 43 j_29) 75 f_30) 76 f_31)) H := hP
    have hD : va_D A (mwd y ad zw (tJ (tJ (sJ (sJ (sI σ 44 n_27) 42 j_28) 43 j_29) 75 f_30) 76 f_31)) := hD
    exact x_vretW (u := (n_27, j_28, j_29, f_30, f_31)) hx hb hr hQ (by (try dsimp only); exact ⟨trivial, hg_32, hg_33⟩) hP hD hK hS dX12_goesBack_316 hlocks
  · refine lv_tableIn (tgt := 107) hx hb dX12_goesBack_22 (by decide) (by decide) rfl (by decide) ?_
    refine lv_aload_n hx hb dX12_goesBack_107 rfl (lv_at hl 2 rfl) ?_
    refine lv_lload_n hx hb dX12_goesBack_108 rfl (lv_at hl 4 rfl) ?_
    refine lv_lload hx hb dX12_goesBack_109 (lv_at hl 5 rfl) ?_
    refine lv_aload_n hx hb dX12_goesBack_111 rfl (lv_at hl 2 rfl) ?_
    refine va_get (D := D) (ci := 11) (v := .ref (ad 57)) (C := RX12) (T := TX12) (N := 85) hx hb hts inX12 hown hK hP 0 mwd_o0 rfl 57 (by decide) fl124 (fun _ h9 => h9) rfl dX12_goesBack_112 ?_
    refine lv_iload hx hb dX12_goesBack_115 (lv_at hl 0 rfl) ?_
    refine va_lald hx hb hK hP 37 3 mwd_a37 rfl (x_in (by omega) (by omega)) dX12_goesBack_117 ?_
    refine lv_topl (fun j_34 ej_34 => ?_)
    have ej_34 : j_34 = (σ.2.2.2 57) (Int32.toNatClampNeg i_2) := ej_34
    have bj_34 := b_atJ hB57 ej_34
    refine lv_aload_n hx hb dX12_goesBack_118 rfl (lv_at hl 2 rfl) ?_
    refine va_get (D := D) (ci := 11) (v := .ref (ad 58)) (C := RX12) (T := TX12) (N := 85) hx hb hts inX12 hown hK hP 0 mwd_o0 rfl 58 (by decide) fl127 (fun _ h9 => h9) rfl dX12_goesBack_119 ?_
    refine lv_iload hx hb dX12_goesBack_122 (lv_at hl 0 rfl) ?_
    refine va_lald hx hb hK hP 38 3 mwd_a38 rfl (x_in (by omega) (by omega)) dX12_goesBack_124 ?_
    refine lv_topl (fun j_35 ej_35 => ?_)
    have ej_35 : j_35 = (σ.2.2.2 58) (Int32.toNatClampNeg i_2) := ej_35
    have bj_35 := b_atJ hB58 ej_35
    refine x_callvW (va_runV (As := [.long a, .long b, .long j_34, .long j_35]) (rest := []) ⟨hx, hb, hml, hown, hts⟩ (q_multiplies l D y H.size ad zw σ a b j_34 j_35 (by first | omega | decide) (by first | omega | decide) (by first | omega | decide) (by first | omega | decide) (by first | omega | decide) (by first | omega | decide) (by first | omega | decide) (by first | omega | decide)) (cwV 4 hts g_q_goesBack_1 rfl rfl rfl (by decide +kernel) ⟨Nat.le_of_ble_eq_true rfl, Nat.le_of_ble_eq_true rfl⟩) (x_preV (q := (RX12, TX12, 85)) hK hP hD (ci := 11) (q0 := 0) rfl mwd_o0) rfl rfl hl.1 rfl (lv_room (Nat.le_of_ble_eq_true rfl)) dX12_goesBack_125 ⟨Nat.le_of_ble_eq_true rfl, Nat.le_of_ble_eq_true rfl⟩) hP hD hS hA (fun u H locs hw hP hD hS => ?_)
    obtain ⟨n_36, j_37, j_38⟩ := u
    try dsimp only at hw
    have hP : va_P D vwCl (mwd y ad zw (sJ (sJ (sI σ 44 n_36) 42 j_37) 43 j_38)) H := hP
    have hD : va_D A (mwd y ad zw (sJ (sJ (sI σ 44 n_36) 42 j_37) 43 j_38)) := hD
    have hw : -1000000000 ≤ j_37.toInt ∧ j_37.toInt ≤ 1000000000 ∧ 0 ≤ j_38.toInt ∧ j_38.toInt ≤ 1000000000 := hw
    refine lv_aload_n hx hb dX12_goesBack_128 rfl (lv_at hl 2 rfl) ?_
    refine lv_iload hx hb dX12_goesBack_129 (lv_at hl 1 rfl) ?_
    refine lv_aload_n hx hb dX12_goesBack_131 rfl (lv_at hl 2 rfl) ?_
    refine va_get (D := D) (ci := 11) (v := .long j_37) (C := RX12) (T := TX12) (N := 85) hx hb hts inX12 hown hK hP 0 mwd_o0 rfl 42 (by decide) fl387 (fun _ h9 => h9) rfl dX12_goesBack_132 ?_
    refine lv_aload_n hx hb dX12_goesBack_135 rfl (lv_at hl 2 rfl) ?_
    refine va_get (D := D) (ci := 11) (v := .long j_38) (C := RX12) (T := TX12) (N := 85) hx hb hts inX12 hown hK hP 0 mwd_o0 rfl 43 (by decide) fl391 (fun _ h9 => h9) rfl dX12_goesBack_136 ?_
    refine x_callvW (va_runV (As := [.int i_1, .long j_37, .long j_38]) (rest := []) ⟨hx, hb, hml, hown, hts⟩ (q_shares l D y H.size ad zw (sJ (sJ (sI σ 44 n_36) 42 j_37) 43 j_38) i_1 j_37 j_38 (by first | omega | decide) (by first | omega | decide) (by first | omega | decide) (by first | omega | decide) (by first | omega | decide) (by first | omega | decide) hB75 hB76) (cwV 3 hts g_q_goesBack_0 rfl rfl rfl (by decide +kernel) ⟨Nat.le_of_ble_eq_true rfl, Nat.le_of_ble_eq_true rfl⟩) (x_preV (q := (RX12, TX12, 85)) hK hP hD (ci := 11) (q0 := 0) rfl mwd_o0) rfl rfl hl.1 rfl (lv_room (Nat.le_of_ble_eq_true rfl)) dX12_goesBack_139 ⟨Nat.le_of_ble_eq_true rfl, Nat.le_of_ble_eq_true rfl⟩) hP hD hS hA (fun u H locs hw hP hD hS => ?_)
    obtain ⟨n_39, j_40, j_41, f_42, f_43⟩ := u
    try dsimp only at hw
    have hP : va_P D vwCl (mwd y ad zw (tJ (tJ (sJ (sJ (sI (sJ (sJ (sI σ 44 n_36) 42 j_37) 43 j_38) 44 n_39) 42 j_40) 43 j_41) 75 f_42) 76 f_43)) H := hP
    have hD : va_D A (mwd y ad zw (tJ (tJ (sJ (sJ (sI (sJ (sJ (sI σ 44 n_36) 42 j_37) 43 j_38) 44 n_39) 42 j_40) 43 j_41) 75 f_42) 76 f_43)) := hD
    have hw : (-1000000000 ≤ j_40.toInt ∧ j_40.toInt ≤ 1000000000 ∧ 0 ≤ j_41.toInt ∧ j_41.toInt ≤ 1000000000) ∧ bJ f_42 (-1000000000) 1000000000 ∧ bJ f_43 0 1000000000 := hw
    obtain ⟨hw, hg_44, hg_45⟩ := hw
    refine lv_aload_n hx hb dX12_goesBack_142 rfl (lv_at hl 2 rfl) ?_
    refine lv_aload_n hx hb dX12_goesBack_143 rfl (lv_at hl 2 rfl) ?_
    refine va_get (D := D) (ci := 11) (v := .ref (ad 57)) (C := RX12) (T := TX12) (N := 85) hx hb hts inX12 hown hK hP 0 mwd_o0 rfl 57 (by decide) fl124 (fun _ h9 => h9) rfl dX12_goesBack_144 ?_
    refine lv_iload hx hb dX12_goesBack_147 (lv_at hl 1 rfl) ?_
    refine va_lald hx hb hK hP 37 3 mwd_a37 rfl (x_in (by omega) (by omega)) dX12_goesBack_149 ?_
    refine lv_topl (fun j_46 ej_46 => ?_)
    have ej_46 : j_46 = (σ.2.2.2 57) (Int32.toNatClampNeg i_1) := ej_46
    have bj_46 := b_atJ hB57 ej_46
    refine lv_aload_n hx hb dX12_goesBack_150 rfl (lv_at hl 2 rfl) ?_
    refine va_get (D := D) (ci := 11) (v := .ref (ad 58)) (C := RX12) (T := TX12) (N := 85) hx hb hts inX12 hown hK hP 0 mwd_o0 rfl 58 (by decide) fl127 (fun _ h9 => h9) rfl dX12_goesBack_151 ?_
    refine lv_iload hx hb dX12_goesBack_154 (lv_at hl 1 rfl) ?_
    refine va_lald hx hb hK hP 38 3 mwd_a38 rfl (x_in (by omega) (by omega)) dX12_goesBack_156 ?_
    refine lv_topl (fun j_47 ej_47 => ?_)
    have ej_47 : j_47 = (σ.2.2.2 58) (Int32.toNatClampNeg i_1) := ej_47
    have bj_47 := b_atJ hB58 ej_47
    refine lv_lload_n hx hb dX12_goesBack_157 rfl (lv_at hl 4 rfl) ?_
    refine lv_lload hx hb dX12_goesBack_158 (lv_at hl 5 rfl) ?_
    refine x_callvW (va_runV (As := [.long j_46, .long j_47, .long a, .long b]) (rest := []) ⟨hx, hb, hml, hown, hts⟩ (q_multiplies l D y H.size ad zw (tJ (tJ (sJ (sJ (sI (sJ (sJ (sI σ 44 n_36) 42 j_37) 43 j_38) 44 n_39) 42 j_40) 43 j_41) 75 f_42) 76 f_43) j_46 j_47 a b (by first | omega | decide) (by first | omega | decide) (by first | omega | decide) (by first | omega | decide) (by first | omega | decide) (by first | omega | decide) (by first | omega | decide) (by first | omega | decide)) (cwV 4 hts g_q_goesBack_1 rfl rfl rfl (by decide +kernel) ⟨Nat.le_of_ble_eq_true rfl, Nat.le_of_ble_eq_true rfl⟩) (x_preV (q := (RX12, TX12, 85)) hK hP hD (ci := 11) (q0 := 0) rfl mwd_o0) rfl rfl hl.1 rfl (lv_room (Nat.le_of_ble_eq_true rfl)) dX12_goesBack_160 ⟨Nat.le_of_ble_eq_true rfl, Nat.le_of_ble_eq_true rfl⟩) hP hD hS hA (fun u H locs hw hP hD hS => ?_)
    obtain ⟨n_48, j_49, j_50⟩ := u
    try dsimp only at hw
    have hP : va_P D vwCl (mwd y ad zw (sJ (sJ (sI (tJ (tJ (sJ (sJ (sI (sJ (sJ (sI σ 44 n_36) 42 j_37) 43 j_38) 44 n_39) 42 j_40) 43 j_41) 75 f_42) 76 f_43) 44 n_48) 42 j_49) 43 j_50)) H := hP
    have hD : va_D A (mwd y ad zw (sJ (sJ (sI (tJ (tJ (sJ (sJ (sI (sJ (sJ (sI σ 44 n_36) 42 j_37) 43 j_38) 44 n_39) 42 j_40) 43 j_41) 75 f_42) 76 f_43) 44 n_48) 42 j_49) 43 j_50)) := hD
    have hw : -1000000000 ≤ j_49.toInt ∧ j_49.toInt ≤ 1000000000 ∧ 0 ≤ j_50.toInt ∧ j_50.toInt ≤ 1000000000 := hw
    refine lv_aload_n hx hb dX12_goesBack_163 rfl (lv_at hl 2 rfl) ?_
    refine lv_iload hx hb dX12_goesBack_164 (lv_at hl 0 rfl) ?_
    refine lv_aload_n hx hb dX12_goesBack_166 rfl (lv_at hl 2 rfl) ?_
    refine va_get (D := D) (ci := 11) (v := .long j_49) (C := RX12) (T := TX12) (N := 85) hx hb hts inX12 hown hK hP 0 mwd_o0 rfl 42 (by decide) fl387 (fun _ h9 => h9) rfl dX12_goesBack_167 ?_
    refine lv_aload_n hx hb dX12_goesBack_170 rfl (lv_at hl 2 rfl) ?_
    refine va_get (D := D) (ci := 11) (v := .long j_50) (C := RX12) (T := TX12) (N := 85) hx hb hts inX12 hown hK hP 0 mwd_o0 rfl 43 (by decide) fl391 (fun _ h9 => h9) rfl dX12_goesBack_171 ?_
    refine x_callvW (va_runV (As := [.int i_2, .long j_49, .long j_50]) (rest := []) ⟨hx, hb, hml, hown, hts⟩ (q_shares l D y H.size ad zw (sJ (sJ (sI (tJ (tJ (sJ (sJ (sI (sJ (sJ (sI σ 44 n_36) 42 j_37) 43 j_38) 44 n_39) 42 j_40) 43 j_41) 75 f_42) 76 f_43) 44 n_48) 42 j_49) 43 j_50) i_2 j_49 j_50 (by first | omega | decide) (by first | omega | decide) (by first | omega | decide) (by first | omega | decide) (by first | omega | decide) (by first | omega | decide) hg_44 hg_45) (cwV 3 hts g_q_goesBack_0 rfl rfl rfl (by decide +kernel) ⟨Nat.le_of_ble_eq_true rfl, Nat.le_of_ble_eq_true rfl⟩) (x_preV (q := (RX12, TX12, 85)) hK hP hD (ci := 11) (q0 := 0) rfl mwd_o0) rfl rfl hl.1 rfl (lv_room (Nat.le_of_ble_eq_true rfl)) dX12_goesBack_174 ⟨Nat.le_of_ble_eq_true rfl, Nat.le_of_ble_eq_true rfl⟩) hP hD hS hA (fun u H locs hw hP hD hS => ?_)
    obtain ⟨n_51, j_52, j_53, f_54, f_55⟩ := u
    try dsimp only at hw
    have hP : va_P D vwCl (mwd y ad zw (tJ (tJ (sJ (sJ (sI (sJ (sJ (sI (tJ (tJ (sJ (sJ (sI (sJ (sJ (sI σ 44 n_36) 42 j_37) 43 j_38) 44 n_39) 42 j_40) 43 j_41) 75 f_42) 76 f_43) 44 n_48) 42 j_49) 43 j_50) 44 n_51) 42 j_52) 43 j_53) 75 f_54) 76 f_55)) H := hP
    have hD : va_D A (mwd y ad zw (tJ (tJ (sJ (sJ (sI (sJ (sJ (sI (tJ (tJ (sJ (sJ (sI (sJ (sJ (sI σ 44 n_36) 42 j_37) 43 j_38) 44 n_39) 42 j_40) 43 j_41) 75 f_42) 76 f_43) 44 n_48) 42 j_49) 43 j_50) 44 n_51) 42 j_52) 43 j_53) 75 f_54) 76 f_55)) := hD
    have hw : (-1000000000 ≤ j_52.toInt ∧ j_52.toInt ≤ 1000000000 ∧ 0 ≤ j_53.toInt ∧ j_53.toInt ≤ 1000000000) ∧ bJ f_54 (-1000000000) 1000000000 ∧ bJ f_55 0 1000000000 := hw
    obtain ⟨hw, hg_56, hg_57⟩ := hw
    refine lv_goto (tgt := 316) hx hb dX12_goesBack_177 (by decide) ?_
    have hP : va_P D vwCl (mwd y ad zw (tJ (tJ (sJ (sJ (sI σ 44 n_51) 42 j_52) 43 j_53) 75 f_54) 76 f_55)) H := hP
    have hD : va_D A (mwd y ad zw (tJ (tJ (sJ (sJ (sI σ 44 n_51) 42 j_52) 43 j_53) 75 f_54) 76 f_55)) := hD
    exact x_vretW (u := (n_51, j_52, j_53, f_54, f_55)) hx hb hr hQ (by (try dsimp only); exact ⟨trivial, hg_56, hg_57⟩) hP hD hK hS dX12_goesBack_316 hlocks
  · refine lv_tableIn (tgt := 180) hx hb dX12_goesBack_22 (by decide) (by decide) rfl (by decide) ?_
    refine lv_aload_n hx hb dX12_goesBack_180 rfl (lv_at hl 2 rfl) ?_
    refine lv_lload_n hx hb dX12_goesBack_181 rfl (lv_at hl 4 rfl) ?_
    refine lv_lload hx hb dX12_goesBack_182 (lv_at hl 5 rfl) ?_
    refine lv_aload_n hx hb dX12_goesBack_184 rfl (lv_at hl 2 rfl) ?_
    refine va_get (D := D) (ci := 11) (v := .ref (ad 57)) (C := RX12) (T := TX12) (N := 85) hx hb hts inX12 hown hK hP 0 mwd_o0 rfl 57 (by decide) fl124 (fun _ h9 => h9) rfl dX12_goesBack_185 ?_
    refine lv_iload hx hb dX12_goesBack_188 (lv_at hl 0 rfl) ?_
    refine va_lald hx hb hK hP 37 3 mwd_a37 rfl (x_in (by omega) (by omega)) dX12_goesBack_190 ?_
    refine lv_topl (fun j_58 ej_58 => ?_)
    have ej_58 : j_58 = (σ.2.2.2 57) (Int32.toNatClampNeg i_2) := ej_58
    have bj_58 := b_atJ hB57 ej_58
    refine lv_aload_n hx hb dX12_goesBack_191 rfl (lv_at hl 2 rfl) ?_
    refine va_get (D := D) (ci := 11) (v := .ref (ad 58)) (C := RX12) (T := TX12) (N := 85) hx hb hts inX12 hown hK hP 0 mwd_o0 rfl 58 (by decide) fl127 (fun _ h9 => h9) rfl dX12_goesBack_192 ?_
    refine lv_iload hx hb dX12_goesBack_195 (lv_at hl 0 rfl) ?_
    refine va_lald hx hb hK hP 38 3 mwd_a38 rfl (x_in (by omega) (by omega)) dX12_goesBack_197 ?_
    refine lv_topl (fun j_59 ej_59 => ?_)
    have ej_59 : j_59 = (σ.2.2.2 58) (Int32.toNatClampNeg i_2) := ej_59
    have bj_59 := b_atJ hB58 ej_59
    refine x_callvW (va_runV (As := [.long a, .long b, .long j_58, .long j_59]) (rest := []) ⟨hx, hb, hml, hown, hts⟩ (q_divides l D y H.size ad zw σ a b j_58 j_59 (by first | omega | decide) (by first | omega | decide) (by first | omega | decide) (by first | omega | decide) (by first | omega | decide) (by first | omega | decide) (by first | omega | decide) (by first | omega | decide)) (cwV 4 hts g_q_goesBack_2 rfl rfl rfl (by decide +kernel) ⟨Nat.le_of_ble_eq_true rfl, Nat.le_of_ble_eq_true rfl⟩) (x_preV (q := (RX12, TX12, 85)) hK hP hD (ci := 11) (q0 := 0) rfl mwd_o0) rfl rfl hl.1 rfl (lv_room (Nat.le_of_ble_eq_true rfl)) dX12_goesBack_198 ⟨Nat.le_of_ble_eq_true rfl, Nat.le_of_ble_eq_true rfl⟩) hP hD hS hA (fun u H locs hw hP hD hS => ?_)
    obtain ⟨n_60, j_61, j_62⟩ := u
    try dsimp only at hw
    have hP : va_P D vwCl (mwd y ad zw (sJ (sJ (sI σ 44 n_60) 42 j_61) 43 j_62)) H := hP
    have hD : va_D A (mwd y ad zw (sJ (sJ (sI σ 44 n_60) 42 j_61) 43 j_62)) := hD
    have hw : -1000000000 ≤ j_61.toInt ∧ j_61.toInt ≤ 1000000000 ∧ 0 ≤ j_62.toInt ∧ j_62.toInt ≤ 1000000000 := hw
    refine lv_aload_n hx hb dX12_goesBack_201 rfl (lv_at hl 2 rfl) ?_
    refine lv_iload hx hb dX12_goesBack_202 (lv_at hl 1 rfl) ?_
    refine lv_aload_n hx hb dX12_goesBack_204 rfl (lv_at hl 2 rfl) ?_
    refine va_get (D := D) (ci := 11) (v := .long j_61) (C := RX12) (T := TX12) (N := 85) hx hb hts inX12 hown hK hP 0 mwd_o0 rfl 42 (by decide) fl387 (fun _ h9 => h9) rfl dX12_goesBack_205 ?_
    refine lv_aload_n hx hb dX12_goesBack_208 rfl (lv_at hl 2 rfl) ?_
    refine va_get (D := D) (ci := 11) (v := .long j_62) (C := RX12) (T := TX12) (N := 85) hx hb hts inX12 hown hK hP 0 mwd_o0 rfl 43 (by decide) fl391 (fun _ h9 => h9) rfl dX12_goesBack_209 ?_
    refine x_callvW (va_runV (As := [.int i_1, .long j_61, .long j_62]) (rest := []) ⟨hx, hb, hml, hown, hts⟩ (q_shares l D y H.size ad zw (sJ (sJ (sI σ 44 n_60) 42 j_61) 43 j_62) i_1 j_61 j_62 (by first | omega | decide) (by first | omega | decide) (by first | omega | decide) (by first | omega | decide) (by first | omega | decide) (by first | omega | decide) hB75 hB76) (cwV 3 hts g_q_goesBack_0 rfl rfl rfl (by decide +kernel) ⟨Nat.le_of_ble_eq_true rfl, Nat.le_of_ble_eq_true rfl⟩) (x_preV (q := (RX12, TX12, 85)) hK hP hD (ci := 11) (q0 := 0) rfl mwd_o0) rfl rfl hl.1 rfl (lv_room (Nat.le_of_ble_eq_true rfl)) dX12_goesBack_212 ⟨Nat.le_of_ble_eq_true rfl, Nat.le_of_ble_eq_true rfl⟩) hP hD hS hA (fun u H locs hw hP hD hS => ?_)
    obtain ⟨n_63, j_64, j_65, f_66, f_67⟩ := u
    try dsimp only at hw
    have hP : va_P D vwCl (mwd y ad zw (tJ (tJ (sJ (sJ (sI (sJ (sJ (sI σ 44 n_60) 42 j_61) 43 j_62) 44 n_63) 42 j_64) 43 j_65) 75 f_66) 76 f_67)) H := hP
    have hD : va_D A (mwd y ad zw (tJ (tJ (sJ (sJ (sI (sJ (sJ (sI σ 44 n_60) 42 j_61) 43 j_62) 44 n_63) 42 j_64) 43 j_65) 75 f_66) 76 f_67)) := hD
    have hw : (-1000000000 ≤ j_64.toInt ∧ j_64.toInt ≤ 1000000000 ∧ 0 ≤ j_65.toInt ∧ j_65.toInt ≤ 1000000000) ∧ bJ f_66 (-1000000000) 1000000000 ∧ bJ f_67 0 1000000000 := hw
    obtain ⟨hw, hg_68, hg_69⟩ := hw
    refine lv_aload_n hx hb dX12_goesBack_215 rfl (lv_at hl 2 rfl) ?_
    refine lv_lload_n hx hb dX12_goesBack_216 rfl (lv_at hl 4 rfl) ?_
    refine lv_lload hx hb dX12_goesBack_217 (lv_at hl 5 rfl) ?_
    refine lv_aload_n hx hb dX12_goesBack_219 rfl (lv_at hl 2 rfl) ?_
    refine va_get (D := D) (ci := 11) (v := .ref (ad 57)) (C := RX12) (T := TX12) (N := 85) hx hb hts inX12 hown hK hP 0 mwd_o0 rfl 57 (by decide) fl124 (fun _ h9 => h9) rfl dX12_goesBack_220 ?_
    refine lv_iload hx hb dX12_goesBack_223 (lv_at hl 0 rfl) ?_
    refine va_lald hx hb hK hP 37 3 mwd_a37 rfl (x_in (by omega) (by omega)) dX12_goesBack_225 ?_
    refine lv_topl (fun j_70 ej_70 => ?_)
    have ej_70 : j_70 = (σ.2.2.2 57) (Int32.toNatClampNeg i_2) := ej_70
    have bj_70 := b_atJ hB57 ej_70
    refine lv_aload_n hx hb dX12_goesBack_226 rfl (lv_at hl 2 rfl) ?_
    refine va_get (D := D) (ci := 11) (v := .ref (ad 58)) (C := RX12) (T := TX12) (N := 85) hx hb hts inX12 hown hK hP 0 mwd_o0 rfl 58 (by decide) fl127 (fun _ h9 => h9) rfl dX12_goesBack_227 ?_
    refine lv_iload hx hb dX12_goesBack_230 (lv_at hl 0 rfl) ?_
    refine va_lald hx hb hK hP 38 3 mwd_a38 rfl (x_in (by omega) (by omega)) dX12_goesBack_232 ?_
    refine lv_topl (fun j_71 ej_71 => ?_)
    have ej_71 : j_71 = (σ.2.2.2 58) (Int32.toNatClampNeg i_2) := ej_71
    have bj_71 := b_atJ hB58 ej_71
    refine x_callvW (va_runV (As := [.long a, .long b, .long j_70, .long j_71]) (rest := []) ⟨hx, hb, hml, hown, hts⟩ (q_divides l D y H.size ad zw (tJ (tJ (sJ (sJ (sI (sJ (sJ (sI σ 44 n_60) 42 j_61) 43 j_62) 44 n_63) 42 j_64) 43 j_65) 75 f_66) 76 f_67) a b j_70 j_71 (by first | omega | decide) (by first | omega | decide) (by first | omega | decide) (by first | omega | decide) (by first | omega | decide) (by first | omega | decide) (by first | omega | decide) (by first | omega | decide)) (cwV 4 hts g_q_goesBack_2 rfl rfl rfl (by decide +kernel) ⟨Nat.le_of_ble_eq_true rfl, Nat.le_of_ble_eq_true rfl⟩) (x_preV (q := (RX12, TX12, 85)) hK hP hD (ci := 11) (q0 := 0) rfl mwd_o0) rfl rfl hl.1 rfl (lv_room (Nat.le_of_ble_eq_true rfl)) dX12_goesBack_233 ⟨Nat.le_of_ble_eq_true rfl, Nat.le_of_ble_eq_true rfl⟩) hP hD hS hA (fun u H locs hw hP hD hS => ?_)
    obtain ⟨n_72, j_73, j_74⟩ := u
    try dsimp only at hw
    have hP : va_P D vwCl (mwd y ad zw (sJ (sJ (sI (tJ (tJ (sJ (sJ (sI (sJ (sJ (sI σ 44 n_60) 42 j_61) 43 j_62) 44 n_63) 42 j_64) 43 j_65) 75 f_66) 76 f_67) 44 n_72) 42 j_73) 43 j_74)) H := hP
    have hD : va_D A (mwd y ad zw (sJ (sJ (sI (tJ (tJ (sJ (sJ (sI (sJ (sJ (sI σ 44 n_60) 42 j_61) 43 j_62) 44 n_63) 42 j_64) 43 j_65) 75 f_66) 76 f_67) 44 n_72) 42 j_73) 43 j_74)) := hD
    have hw : -1000000000 ≤ j_73.toInt ∧ j_73.toInt ≤ 1000000000 ∧ 0 ≤ j_74.toInt ∧ j_74.toInt ≤ 1000000000 := hw
    refine lv_aload_n hx hb dX12_goesBack_236 rfl (lv_at hl 2 rfl) ?_
    refine lv_aload_n hx hb dX12_goesBack_237 rfl (lv_at hl 2 rfl) ?_
    refine va_get (D := D) (ci := 11) (v := .ref (ad 57)) (C := RX12) (T := TX12) (N := 85) hx hb hts inX12 hown hK hP 0 mwd_o0 rfl 57 (by decide) fl124 (fun _ h9 => h9) rfl dX12_goesBack_238 ?_
    refine lv_iload_n hx hb dX12_goesBack_241 rfl (lv_at hl 3 rfl) ?_
    refine va_lald hx hb hK hP 37 3 mwd_a37 rfl (x_in (by omega) (by omega)) dX12_goesBack_242 ?_
    refine lv_topl (fun j_75 ej_75 => ?_)
    have ej_75 : j_75 = (σ.2.2.2 57) (Int32.toNatClampNeg k) := ej_75
    have bj_75 := b_atJ hB57 ej_75
    refine lv_aload_n hx hb dX12_goesBack_243 rfl (lv_at hl 2 rfl) ?_
    refine va_get (D := D) (ci := 11) (v := .ref (ad 58)) (C := RX12) (T := TX12) (N := 85) hx hb hts inX12 hown hK hP 0 mwd_o0 rfl 58 (by decide) fl127 (fun _ h9 => h9) rfl dX12_goesBack_244 ?_
    refine lv_iload_n hx hb dX12_goesBack_247 rfl (lv_at hl 3 rfl) ?_
    refine va_lald hx hb hK hP 38 3 mwd_a38 rfl (x_in (by omega) (by omega)) dX12_goesBack_248 ?_
    refine lv_topl (fun j_76 ej_76 => ?_)
    have ej_76 : j_76 = (σ.2.2.2 58) (Int32.toNatClampNeg k) := ej_76
    have bj_76 := b_atJ hB58 ej_76
    refine lv_aload_n hx hb dX12_goesBack_249 rfl (lv_at hl 2 rfl) ?_
    refine va_get (D := D) (ci := 11) (v := .long j_73) (C := RX12) (T := TX12) (N := 85) hx hb hts inX12 hown hK hP 0 mwd_o0 rfl 42 (by decide) fl387 (fun _ h9 => h9) rfl dX12_goesBack_250 ?_
    refine lv_aload_n hx hb dX12_goesBack_253 rfl (lv_at hl 2 rfl) ?_
    refine va_get (D := D) (ci := 11) (v := .long j_74) (C := RX12) (T := TX12) (N := 85) hx hb hts inX12 hown hK hP 0 mwd_o0 rfl 43 (by decide) fl391 (fun _ h9 => h9) rfl dX12_goesBack_254 ?_
    refine x_callvW (va_runV (As := [.long j_75, .long j_76, .long j_73, .long j_74]) (rest := []) ⟨hx, hb, hml, hown, hts⟩ (q_multiplies l D y H.size ad zw (sJ (sJ (sI (tJ (tJ (sJ (sJ (sI (sJ (sJ (sI σ 44 n_60) 42 j_61) 43 j_62) 44 n_63) 42 j_64) 43 j_65) 75 f_66) 76 f_67) 44 n_72) 42 j_73) 43 j_74) j_75 j_76 j_73 j_74 (by first | omega | decide) (by first | omega | decide) (by first | omega | decide) (by first | omega | decide) (by first | omega | decide) (by first | omega | decide) (by first | omega | decide) (by first | omega | decide)) (cwV 4 hts g_q_goesBack_1 rfl rfl rfl (by decide +kernel) ⟨Nat.le_of_ble_eq_true rfl, Nat.le_of_ble_eq_true rfl⟩) (x_preV (q := (RX12, TX12, 85)) hK hP hD (ci := 11) (q0 := 0) rfl mwd_o0) rfl rfl hl.1 rfl (lv_room (Nat.le_of_ble_eq_true rfl)) dX12_goesBack_257 ⟨Nat.le_of_ble_eq_true rfl, Nat.le_of_ble_eq_true rfl⟩) hP hD hS hA (fun u H locs hw hP hD hS => ?_)
    obtain ⟨n_77, j_78, j_79⟩ := u
    try dsimp only at hw
    have hP : va_P D vwCl (mwd y ad zw (sJ (sJ (sI (sJ (sJ (sI (tJ (tJ (sJ (sJ (sI (sJ (sJ (sI σ 44 n_60) 42 j_61) 43 j_62) 44 n_63) 42 j_64) 43 j_65) 75 f_66) 76 f_67) 44 n_72) 42 j_73) 43 j_74) 44 n_77) 42 j_78) 43 j_79)) H := hP
    have hD : va_D A (mwd y ad zw (sJ (sJ (sI (sJ (sJ (sI (tJ (tJ (sJ (sJ (sI (sJ (sJ (sI σ 44 n_60) 42 j_61) 43 j_62) 44 n_63) 42 j_64) 43 j_65) 75 f_66) 76 f_67) 44 n_72) 42 j_73) 43 j_74) 44 n_77) 42 j_78) 43 j_79)) := hD
    have hw : -1000000000 ≤ j_78.toInt ∧ j_78.toInt ≤ 1000000000 ∧ 0 ≤ j_79.toInt ∧ j_79.toInt ≤ 1000000000 := hw
    refine lv_aload_n hx hb dX12_goesBack_260 rfl (lv_at hl 2 rfl) ?_
    refine lv_iload hx hb dX12_goesBack_261 (lv_at hl 0 rfl) ?_
    refine lv_aload_n hx hb dX12_goesBack_263 rfl (lv_at hl 2 rfl) ?_
    refine va_get (D := D) (ci := 11) (v := .long j_78) (C := RX12) (T := TX12) (N := 85) hx hb hts inX12 hown hK hP 0 mwd_o0 rfl 42 (by decide) fl387 (fun _ h9 => h9) rfl dX12_goesBack_264 ?_
    refine lv_lneg hx hb dX12_goesBack_267 ?_
    refine lv_topl (fun j_80 ej_80 => ?_)
    have vj_80 : j_80.toInt = -j_78.toInt := by have h9 := x_negL ej_80 (by omega); omega
    refine lv_aload_n hx hb dX12_goesBack_268 rfl (lv_at hl 2 rfl) ?_
    refine va_get (D := D) (ci := 11) (v := .long j_79) (C := RX12) (T := TX12) (N := 85) hx hb hts inX12 hown hK hP 0 mwd_o0 rfl 43 (by decide) fl391 (fun _ h9 => h9) rfl dX12_goesBack_269 ?_
    refine x_callvW (va_runV (As := [.int i_2, .long j_80, .long j_79]) (rest := []) ⟨hx, hb, hml, hown, hts⟩ (q_shares l D y H.size ad zw (sJ (sJ (sI (sJ (sJ (sI (tJ (tJ (sJ (sJ (sI (sJ (sJ (sI σ 44 n_60) 42 j_61) 43 j_62) 44 n_63) 42 j_64) 43 j_65) 75 f_66) 76 f_67) 44 n_72) 42 j_73) 43 j_74) 44 n_77) 42 j_78) 43 j_79) i_2 j_80 j_79 (by first | omega | decide) (by first | omega | decide) (by first | omega | decide) (by first | omega | decide) (by first | omega | decide) (by first | omega | decide) hg_68 hg_69) (cwV 3 hts g_q_goesBack_0 rfl rfl rfl (by decide +kernel) ⟨Nat.le_of_ble_eq_true rfl, Nat.le_of_ble_eq_true rfl⟩) (x_preV (q := (RX12, TX12, 85)) hK hP hD (ci := 11) (q0 := 0) rfl mwd_o0) rfl rfl hl.1 rfl (lv_room (Nat.le_of_ble_eq_true rfl)) dX12_goesBack_272 ⟨Nat.le_of_ble_eq_true rfl, Nat.le_of_ble_eq_true rfl⟩) hP hD hS hA (fun u H locs hw hP hD hS => ?_)
    obtain ⟨n_81, j_82, j_83, f_84, f_85⟩ := u
    try dsimp only at hw
    have hP : va_P D vwCl (mwd y ad zw (tJ (tJ (sJ (sJ (sI (sJ (sJ (sI (sJ (sJ (sI (tJ (tJ (sJ (sJ (sI (sJ (sJ (sI σ 44 n_60) 42 j_61) 43 j_62) 44 n_63) 42 j_64) 43 j_65) 75 f_66) 76 f_67) 44 n_72) 42 j_73) 43 j_74) 44 n_77) 42 j_78) 43 j_79) 44 n_81) 42 j_82) 43 j_83) 75 f_84) 76 f_85)) H := hP
    have hD : va_D A (mwd y ad zw (tJ (tJ (sJ (sJ (sI (sJ (sJ (sI (sJ (sJ (sI (tJ (tJ (sJ (sJ (sI (sJ (sJ (sI σ 44 n_60) 42 j_61) 43 j_62) 44 n_63) 42 j_64) 43 j_65) 75 f_66) 76 f_67) 44 n_72) 42 j_73) 43 j_74) 44 n_77) 42 j_78) 43 j_79) 44 n_81) 42 j_82) 43 j_83) 75 f_84) 76 f_85)) := hD
    have hw : (-1000000000 ≤ j_82.toInt ∧ j_82.toInt ≤ 1000000000 ∧ 0 ≤ j_83.toInt ∧ j_83.toInt ≤ 1000000000) ∧ bJ f_84 (-1000000000) 1000000000 ∧ bJ f_85 0 1000000000 := hw
    obtain ⟨hw, hg_86, hg_87⟩ := hw
    refine lv_goto (tgt := 316) hx hb dX12_goesBack_275 (by decide) ?_
    have hP : va_P D vwCl (mwd y ad zw (tJ (tJ (sJ (sJ (sI σ 44 n_81) 42 j_82) 43 j_83) 75 f_84) 76 f_85)) H := hP
    have hD : va_D A (mwd y ad zw (tJ (tJ (sJ (sJ (sI σ 44 n_81) 42 j_82) 43 j_83) 75 f_84) 76 f_85)) := hD
    exact x_vretW (u := (n_81, j_82, j_83, f_84, f_85)) hx hb hr hQ (by (try dsimp only); exact ⟨trivial, hg_86, hg_87⟩) hP hD hK hS dX12_goesBack_316 hlocks
  · refine lv_tableIn (tgt := 307) hx hb dX12_goesBack_22 (by decide) (by decide) rfl (by decide) ?_
    refine lv_aload_n hx hb dX12_goesBack_307 rfl (lv_at hl 2 rfl) ?_
    refine lv_iload hx hb dX12_goesBack_308 (lv_at hl 1 rfl) ?_
    refine lv_lload_n hx hb dX12_goesBack_310 rfl (lv_at hl 4 rfl) ?_
    refine lv_lload hx hb dX12_goesBack_311 (lv_at hl 5 rfl) ?_
    refine x_callvW (va_runV (As := [.int i_1, .long a, .long b]) (rest := []) ⟨hx, hb, hml, hown, hts⟩ (q_shares l D y H.size ad zw σ i_1 a b (by first | omega | decide) (by first | omega | decide) (by first | omega | decide) (by first | omega | decide) (by first | omega | decide) (by first | omega | decide) hB75 hB76) (cwV 3 hts g_q_goesBack_0 rfl rfl rfl (by decide +kernel) ⟨Nat.le_of_ble_eq_true rfl, Nat.le_of_ble_eq_true rfl⟩) (x_preV (q := (RX12, TX12, 85)) hK hP hD (ci := 11) (q0 := 0) rfl mwd_o0) rfl rfl hl.1 rfl (lv_room (Nat.le_of_ble_eq_true rfl)) dX12_goesBack_313 ⟨Nat.le_of_ble_eq_true rfl, Nat.le_of_ble_eq_true rfl⟩) hP hD hS hA (fun u H locs hw hP hD hS => ?_)
    obtain ⟨n_88, j_89, j_90, f_91, f_92⟩ := u
    try dsimp only at hw
    have hP : va_P D vwCl (mwd y ad zw (tJ (tJ (sJ (sJ (sI σ 44 n_88) 42 j_89) 43 j_90) 75 f_91) 76 f_92)) H := hP
    have hD : va_D A (mwd y ad zw (tJ (tJ (sJ (sJ (sI σ 44 n_88) 42 j_89) 43 j_90) 75 f_91) 76 f_92)) := hD
    have hw : (-1000000000 ≤ j_89.toInt ∧ j_89.toInt ≤ 1000000000 ∧ 0 ≤ j_90.toInt ∧ j_90.toInt ≤ 1000000000) ∧ bJ f_91 (-1000000000) 1000000000 ∧ bJ f_92 0 1000000000 := hw
    obtain ⟨hw, hg_93, hg_94⟩ := hw
    exact x_vretW (u := (n_88, j_89, j_90, f_91, f_92)) hx hb hr hQ (by (try dsimp only); exact ⟨trivial, hg_93, hg_94⟩) hP hD hK hS dX12_goesBack_316 hlocks
  · refine lv_tableIn (tgt := 307) hx hb dX12_goesBack_22 (by decide) (by decide) rfl (by decide) ?_
    refine lv_aload_n hx hb dX12_goesBack_307 rfl (lv_at hl 2 rfl) ?_
    refine lv_iload hx hb dX12_goesBack_308 (lv_at hl 1 rfl) ?_
    refine lv_lload_n hx hb dX12_goesBack_310 rfl (lv_at hl 4 rfl) ?_
    refine lv_lload hx hb dX12_goesBack_311 (lv_at hl 5 rfl) ?_
    refine x_callvW (va_runV (As := [.int i_1, .long a, .long b]) (rest := []) ⟨hx, hb, hml, hown, hts⟩ (q_shares l D y H.size ad zw σ i_1 a b (by first | omega | decide) (by first | omega | decide) (by first | omega | decide) (by first | omega | decide) (by first | omega | decide) (by first | omega | decide) hB75 hB76) (cwV 3 hts g_q_goesBack_0 rfl rfl rfl (by decide +kernel) ⟨Nat.le_of_ble_eq_true rfl, Nat.le_of_ble_eq_true rfl⟩) (x_preV (q := (RX12, TX12, 85)) hK hP hD (ci := 11) (q0 := 0) rfl mwd_o0) rfl rfl hl.1 rfl (lv_room (Nat.le_of_ble_eq_true rfl)) dX12_goesBack_313 ⟨Nat.le_of_ble_eq_true rfl, Nat.le_of_ble_eq_true rfl⟩) hP hD hS hA (fun u H locs hw hP hD hS => ?_)
    obtain ⟨n_95, j_96, j_97, f_98, f_99⟩ := u
    try dsimp only at hw
    have hP : va_P D vwCl (mwd y ad zw (tJ (tJ (sJ (sJ (sI σ 44 n_95) 42 j_96) 43 j_97) 75 f_98) 76 f_99)) H := hP
    have hD : va_D A (mwd y ad zw (tJ (tJ (sJ (sJ (sI σ 44 n_95) 42 j_96) 43 j_97) 75 f_98) 76 f_99)) := hD
    have hw : (-1000000000 ≤ j_96.toInt ∧ j_96.toInt ≤ 1000000000 ∧ 0 ≤ j_97.toInt ∧ j_97.toInt ≤ 1000000000) ∧ bJ f_98 (-1000000000) 1000000000 ∧ bJ f_99 0 1000000000 := hw
    obtain ⟨hw, hg_100, hg_101⟩ := hw
    exact x_vretW (u := (n_95, j_96, j_97, f_98, f_99)) hx hb hr hQ (by (try dsimp only); exact ⟨trivial, hg_100, hg_101⟩) hP hD hK hS dX12_goesBack_316 hlocks
  · refine lv_tableIn (tgt := 278) hx hb dX12_goesBack_22 (by decide) (by decide) rfl (by decide) ?_
    refine lv_aload_n hx hb dX12_goesBack_278 rfl (lv_at hl 2 rfl) ?_
    refine lv_iload hx hb dX12_goesBack_279 (lv_at hl 1 rfl) ?_
    refine lv_aload_n hx hb dX12_goesBack_281 rfl (lv_at hl 2 rfl) ?_
    refine va_get (D := D) (ci := 11) (v := .ref (ad 57)) (C := RX12) (T := TX12) (N := 85) hx hb hts inX12 hown hK hP 0 mwd_o0 rfl 57 (by decide) fl124 (fun _ h9 => h9) rfl dX12_goesBack_282 ?_
    refine lv_iload hx hb dX12_goesBack_285 (lv_at hl 1 rfl) ?_
    refine va_lald hx hb hK hP 37 3 mwd_a37 rfl (x_in (by omega) (by omega)) dX12_goesBack_287 ?_
    refine lv_topl (fun j_102 ej_102 => ?_)
    have ej_102 : j_102 = (σ.2.2.2 57) (Int32.toNatClampNeg i_1) := ej_102
    have bj_102 := b_atJ hB57 ej_102
    refine lv_lconst (v := 0) hx hb dX12_goesBack_288 (by decide) ?_
    refine W.lcmp hx hb dX12_goesBack_289 ?_
    refine lv_if_ge (tgt := 298) hx hb dX12_goesBack_290 (by decide) (fun c_103 => ?_) (fun c_103 => ?_)
    · have kc_103 : j_102.toInt ≥ 0 := by have h9 := x_tri j_102 (0 : Int64); (try simp only [Int64.reduceToInt] at h9); rcases h9 with ⟨g1, g2⟩ | ⟨g1, g2⟩ | ⟨g1, g2⟩ <;> first | omega | (exfalso; rw [g1] at c_103; revert c_103; decide)
      refine lv_lload_n hx hb dX12_goesBack_298 rfl (lv_at hl 4 rfl) ?_
      refine lv_lload hx hb dX12_goesBack_299 (lv_at hl 5 rfl) ?_
      refine x_callvW (va_runV (As := [.int i_1, .long a, .long b]) (rest := []) ⟨hx, hb, hml, hown, hts⟩ (q_shares l D y H.size ad zw σ i_1 a b (by first | omega | decide) (by first | omega | decide) (by first | omega | decide) (by first | omega | decide) (by first | omega | decide) (by first | omega | decide) hB75 hB76) (cwV 3 hts g_q_goesBack_0 rfl rfl rfl (by decide +kernel) ⟨Nat.le_of_ble_eq_true rfl, Nat.le_of_ble_eq_true rfl⟩) (x_preV (q := (RX12, TX12, 85)) hK hP hD (ci := 11) (q0 := 0) rfl mwd_o0) rfl rfl hl.1 rfl (lv_room (Nat.le_of_ble_eq_true rfl)) dX12_goesBack_301 ⟨Nat.le_of_ble_eq_true rfl, Nat.le_of_ble_eq_true rfl⟩) hP hD hS hA (fun u H locs hw hP hD hS => ?_)
      obtain ⟨n_104, j_105, j_106, f_107, f_108⟩ := u
      try dsimp only at hw
      have hP : va_P D vwCl (mwd y ad zw (tJ (tJ (sJ (sJ (sI σ 44 n_104) 42 j_105) 43 j_106) 75 f_107) 76 f_108)) H := hP
      have hD : va_D A (mwd y ad zw (tJ (tJ (sJ (sJ (sI σ 44 n_104) 42 j_105) 43 j_106) 75 f_107) 76 f_108)) := hD
      have hw : (-1000000000 ≤ j_105.toInt ∧ j_105.toInt ≤ 1000000000 ∧ 0 ≤ j_106.toInt ∧ j_106.toInt ≤ 1000000000) ∧ bJ f_107 (-1000000000) 1000000000 ∧ bJ f_108 0 1000000000 := hw
      obtain ⟨hw, hg_109, hg_110⟩ := hw
      refine lv_goto (tgt := 316) hx hb dX12_goesBack_304 (by decide) ?_
      exact x_vretW (u := (n_104, j_105, j_106, f_107, f_108)) hx hb hr hQ (by (try dsimp only); exact ⟨trivial, hg_109, hg_110⟩) hP hD hK hS dX12_goesBack_316 hlocks
    · have kc_103 : j_102.toInt < 0 := by have h9 := x_tri j_102 (0 : Int64); (try simp only [Int64.reduceToInt] at h9); rcases h9 with ⟨g1, g2⟩ | ⟨g1, g2⟩ | ⟨g1, g2⟩ <;> first | omega | (exfalso; rw [g1] at c_103; revert c_103; decide)
      refine lv_lload_n hx hb dX12_goesBack_293 rfl (lv_at hl 4 rfl) ?_
      refine lv_lneg hx hb dX12_goesBack_294 ?_
      refine lv_topl (fun j_111 ej_111 => ?_)
      have vj_111 : j_111.toInt = -a.toInt := by have h9 := x_negL ej_111 (by omega); omega
      refine lv_goto (tgt := 299) hx hb dX12_goesBack_295 (by decide) ?_
      refine lv_lload hx hb dX12_goesBack_299 (lv_at hl 5 rfl) ?_
      refine x_callvW (va_runV (As := [.int i_1, .long j_111, .long b]) (rest := []) ⟨hx, hb, hml, hown, hts⟩ (q_shares l D y H.size ad zw σ i_1 j_111 b (by first | omega | decide) (by first | omega | decide) (by first | omega | decide) (by first | omega | decide) (by first | omega | decide) (by first | omega | decide) hB75 hB76) (cwV 3 hts g_q_goesBack_0 rfl rfl rfl (by decide +kernel) ⟨Nat.le_of_ble_eq_true rfl, Nat.le_of_ble_eq_true rfl⟩) (x_preV (q := (RX12, TX12, 85)) hK hP hD (ci := 11) (q0 := 0) rfl mwd_o0) rfl rfl hl.1 rfl (lv_room (Nat.le_of_ble_eq_true rfl)) dX12_goesBack_301 ⟨Nat.le_of_ble_eq_true rfl, Nat.le_of_ble_eq_true rfl⟩) hP hD hS hA (fun u H locs hw hP hD hS => ?_)
      obtain ⟨n_112, j_113, j_114, f_115, f_116⟩ := u
      try dsimp only at hw
      have hP : va_P D vwCl (mwd y ad zw (tJ (tJ (sJ (sJ (sI σ 44 n_112) 42 j_113) 43 j_114) 75 f_115) 76 f_116)) H := hP
      have hD : va_D A (mwd y ad zw (tJ (tJ (sJ (sJ (sI σ 44 n_112) 42 j_113) 43 j_114) 75 f_115) 76 f_116)) := hD
      have hw : (-1000000000 ≤ j_113.toInt ∧ j_113.toInt ≤ 1000000000 ∧ 0 ≤ j_114.toInt ∧ j_114.toInt ≤ 1000000000) ∧ bJ f_115 (-1000000000) 1000000000 ∧ bJ f_116 0 1000000000 := hw
      obtain ⟨hw, hg_117, hg_118⟩ := hw
      refine lv_goto (tgt := 316) hx hb dX12_goesBack_304 (by decide) ?_
      exact x_vretW (u := (n_112, j_113, j_114, f_115, f_116)) hx hb hr hQ (by (try dsimp only); exact ⟨trivial, hg_117, hg_118⟩) hP hD hK hS dX12_goesBack_316 hlocks
  · refine lv_tableOut (tgt := 307) hx hb dX12_goesBack_22 g_4 (by decide) ?_
    refine lv_aload_n hx hb dX12_goesBack_307 rfl (lv_at hl 2 rfl) ?_
    refine lv_iload hx hb dX12_goesBack_308 (lv_at hl 1 rfl) ?_
    refine lv_lload_n hx hb dX12_goesBack_310 rfl (lv_at hl 4 rfl) ?_
    refine lv_lload hx hb dX12_goesBack_311 (lv_at hl 5 rfl) ?_
    refine x_callvW (va_runV (As := [.int i_1, .long a, .long b]) (rest := []) ⟨hx, hb, hml, hown, hts⟩ (q_shares l D y H.size ad zw σ i_1 a b (by first | omega | decide) (by first | omega | decide) (by first | omega | decide) (by first | omega | decide) (by first | omega | decide) (by first | omega | decide) hB75 hB76) (cwV 3 hts g_q_goesBack_0 rfl rfl rfl (by decide +kernel) ⟨Nat.le_of_ble_eq_true rfl, Nat.le_of_ble_eq_true rfl⟩) (x_preV (q := (RX12, TX12, 85)) hK hP hD (ci := 11) (q0 := 0) rfl mwd_o0) rfl rfl hl.1 rfl (lv_room (Nat.le_of_ble_eq_true rfl)) dX12_goesBack_313 ⟨Nat.le_of_ble_eq_true rfl, Nat.le_of_ble_eq_true rfl⟩) hP hD hS hA (fun u H locs hw hP hD hS => ?_)
    obtain ⟨n_119, j_120, j_121, f_122, f_123⟩ := u
    try dsimp only at hw
    have hP : va_P D vwCl (mwd y ad zw (tJ (tJ (sJ (sJ (sI σ 44 n_119) 42 j_120) 43 j_121) 75 f_122) 76 f_123)) H := hP
    have hD : va_D A (mwd y ad zw (tJ (tJ (sJ (sJ (sI σ 44 n_119) 42 j_120) 43 j_121) 75 f_122) 76 f_123)) := hD
    have hw : (-1000000000 ≤ j_120.toInt ∧ j_120.toInt ≤ 1000000000 ∧ 0 ≤ j_121.toInt ∧ j_121.toInt ≤ 1000000000) ∧ bJ f_122 (-1000000000) 1000000000 ∧ bJ f_123 0 1000000000 := hw
    obtain ⟨hw, hg_124, hg_125⟩ := hw
    exact x_vretW (u := (n_119, j_120, j_121, f_122, f_123)) hx hb hr hQ (by (try dsimp only); exact ⟨trivial, hg_124, hg_125⟩) hP hD hK hS dX12_goesBack_316 hlocks

def v_q_marks : List Cond := .code yX12_marks cX12_marks 3 none :: ([.fieldLink RX12 139 "SlopeRunnerModel" "laid" "[I", .fieldLink RX12 163 "SlopeRunnerModel" "hangs" "[Z", .fieldLink RX12 148 "SlopeRunnerModel" "resultAt" "[I", .fieldLink RX12 130 "SlopeRunnerModel" "op" "[I", .fieldLink RX12 133 "SlopeRunnerModel" "first" "[I", .fieldLink RX12 136 "SlopeRunnerModel" "second" "[I"] ++ wsX120)
set_option maxHeartbeats 4000000 in
set_option maxRecDepth 100000 in
theorem q_marks (l : Launch) (D : va_G) (y : Nat → ClassId) (sz : Nat) (ad : Nat → Nat) (zw : Nat → Nat → Int32) (σ : OS) (k : Int32) (hk0 : 0 ≤ k.toInt) (hk1 : k.toInt < 24) (hop : opc (σ.2.2.1 59) (σ.2.2.1 60) (σ.2.2.1 61)) (hB62 : bI (σ.2.2.1 62) 0 1760) (hB65 : bI (σ.2.2.1 65) 0 1759) : Met l yX12_marks v_q_marks ({ frames := 0, cells := 0, slots := 0, locals := 0 } : Room) (va_Pc [.ref (ad 1), .int k] (xPre D (xT y) (mwd y ad zw σ) sz)) (va_Qv (fun (u : (Nat → Int32)) => True) (fun (u : (Nat → Int32)) => xB D (xT y) (va_A (mwd y ad zw σ) sz) (mwd y ad zw (tI σ 74 u))) (va_A (mwd y ad zw σ) sz)) 0 0 (va_A (mwd y ad zw σ) sz) := by
  refine x_metv (cc := cX12_marks) (maxL := 3) (by decide) rfl (Nat.le_of_ble_eq_true rfl) ?_
  intro p e s m below meth c A H locs Q hx hb hml hown hts hr hlocks hmn hA hP hK hD hS ls hl hQ
  have hl : lv_has ls 3 [(0, .ref (ad 1)), (1, .int k)] := hl
  have fl139 := hts (.fieldLink RX12 139 "SlopeRunnerModel" "laid" "[I") (List.mem_of_getElem? (i := 1) rfl)
  have inX12 : ∀ w ∈ wsX120, w ∈ v_q_marks := (fun w h => List.mem_cons_of_mem _ (List.mem_append_right _ h))
  have fl163 := hts (.fieldLink RX12 163 "SlopeRunnerModel" "hangs" "[Z") (List.mem_of_getElem? (i := 2) rfl)
  have fl148 := hts (.fieldLink RX12 148 "SlopeRunnerModel" "resultAt" "[I") (List.mem_of_getElem? (i := 3) rfl)
  have kk_1 : (1 : Int32).toInt = 1 := rfl
  have kk_0 : (0 : Int32).toInt = 0 := rfl
  have kk_m1 : ((-1) : Int32).toInt = -1 := rfl
  have fl130 := hts (.fieldLink RX12 130 "SlopeRunnerModel" "op" "[I") (List.mem_of_getElem? (i := 4) rfl)
  have fl133 := hts (.fieldLink RX12 133 "SlopeRunnerModel" "first" "[I") (List.mem_of_getElem? (i := 5) rfl)
  have fl136 := hts (.fieldLink RX12 136 "SlopeRunnerModel" "second" "[I") (List.mem_of_getElem? (i := 6) rfl)
  refine lv_iconst (v := 0) hx hb dX12_marks_0 (by decide) ?_
  refine lv_istore_n (lv' := [(2, .int 0), (0, .ref (ad 1)), (1, .int k)]) hx hb dX12_marks_1 rfl hl (by decide) rfl (fun ls hl => ?_)
  have hP : va_P D vwCl (mwd y ad zw (tI σ 74 (σ.2.2.1 74))) H := hP
  have hD : va_D A (mwd y ad zw (tI σ 74 (σ.2.2.1 74))) := hD
  have loop : ∀ (fu : Nat) (j : Int32) (f : Nat → Int32) (H : Heap) (locs : List Loc) (ls : Array Slot), (0 ≤ j.toInt) → (j.toInt ≤ 1760) → (1760 - j.toInt < (fu : Int)) → va_P D vwCl (mwd y ad zw (tI σ 74 f)) H → va_D A (mwd y ad zw (tI σ 74 f)) → va_S A s.heap H locs → lv_has ls 3 [(2, .int j), (1, .int k), (0, .ref (ad 1))] → W p l e ({ frames := 0, cells := 0, slots := 0, locals := 0 } : Room) s m ([.ref (ad 1), .int k] : List Value).toArray below meth c H locs 0 0 Q (F0 m 2 ls []) := by
    intro fu
    induction fu with
    | zero =>
      intro j f H locs ls hj0 hj1 hm
      exact absurd hm (by omega)
    | succ fu ih_loop =>
      intro j f H locs ls hj0 hj1 hm hP hD hS hl
      refine lv_iload_n hx hb dX12_marks_2 rfl (lv_at hl 0 rfl) ?_
      refine lv_aload_n hx hb dX12_marks_3 rfl (lv_at hl 2 rfl) ?_
      refine va_get (D := D) (ci := 11) (v := .ref (ad 62)) (C := RX12) (T := TX12) (N := 85) hx hb hts inX12 hown hK hP 0 mwd_o0 rfl 62 (by decide) fl139 (fun _ h9 => h9) rfl dX12_marks_4 ?_
      refine lv_iconst (v := 0) hx hb dX12_marks_7 (by decide) ?_
      refine va_iald hx hb hK hP 42 2 mwd_a42 rfl (x_in (by decide) (by decide)) dX12_marks_8 ?_
      refine lv_topi (fun i_1 ei_1 => ?_)
      have ei_1 : i_1 = (σ.2.2.1 62) (Int32.toNatClampNeg 0) := ei_1
      have bi_1 := b_at hB62 ei_1
      refine lv_icmp_ge (tgt := 25) hx hb dX12_marks_9 (by decide) (fun c_2 => ?_) (fun c_2 => ?_)
      · have kc_2 : j.toInt ≥ i_1.toInt := by have h9 := c_2; simp only [ge_iff_le, gt_iff_lt, x_lt, x_le, x_eq, ne_eq, Int32.not_lt, Int32.not_le] at h9; omega
        refine lv_aload_n hx hb dX12_marks_25 rfl (lv_at hl 2 rfl) ?_
        refine va_get (D := D) (ci := 11) (v := .ref (ad 74)) (C := RX12) (T := TX12) (N := 85) hx hb hts inX12 hown hK hP 0 mwd_o0 rfl 74 (by decide) fl163 (fun _ h9 => h9) rfl dX12_marks_26 ?_
        refine lv_aload_n hx hb dX12_marks_29 rfl (lv_at hl 2 rfl) ?_
        refine va_get (D := D) (ci := 11) (v := .ref (ad 65)) (C := RX12) (T := TX12) (N := 85) hx hb hts inX12 hown hK hP 0 mwd_o0 rfl 65 (by decide) fl148 (fun _ h9 => h9) rfl dX12_marks_30 ?_
        refine lv_iload_n hx hb dX12_marks_33 rfl (lv_at hl 1 rfl) ?_
        refine va_iald hx hb hK hP 45 2 mwd_a45 rfl (x_in (by omega) (by omega)) dX12_marks_34 ?_
        refine lv_topi (fun i_3 ei_3 => ?_)
        have ei_3 : i_3 = (σ.2.2.1 65) (Int32.toNatClampNeg k) := ei_3
        have bi_3 := b_at hB65 ei_3
        refine lv_iconst (v := 1) hx hb dX12_marks_35 (by decide) ?_
        refine va_zast hx hb hK hP hD hS 50 4 mwd_a50 rfl (x_in (by omega) (by omega)) dX12_marks_36 (fun H locs hP hD hS => ?_)
        obtain ⟨f_4, ef_4⟩ : ∃ z9 : Nat → Int32, z9 = (upd f (Int32.toNatClampNeg i_3) (vp_nar .boolean 1)) := ⟨_, rfl⟩
        have hP : va_P D vwCl (mwd y ad zw (tI (tI σ 74 f) 74 f_4)) H := by rw [ef_4]; exact x_trP hP mwd_s50
        have hD : va_D A (mwd y ad zw (tI (tI σ 74 f) 74 f_4)) := by rw [ef_4]; exact x_trD hD mwd_s50
        refine lv_aload_n hx hb dX12_marks_37 rfl (lv_at hl 2 rfl) ?_
        refine va_get (D := D) (ci := 11) (v := .ref (ad 62)) (C := RX12) (T := TX12) (N := 85) hx hb hts inX12 hown hK hP 0 mwd_o0 rfl 62 (by decide) fl139 (fun _ h9 => h9) rfl dX12_marks_38 ?_
        refine lv_iconst (v := 0) hx hb dX12_marks_41 (by decide) ?_
        refine va_iald hx hb hK hP 42 2 mwd_a42 rfl (x_in (by decide) (by decide)) dX12_marks_42 ?_
        refine lv_topi (fun i_5 ei_5 => ?_)
        have ei_5 : i_5 = (σ.2.2.1 62) (Int32.toNatClampNeg 0) := ei_5
        have bi_5 := b_at hB62 ei_5
        refine lv_iconst (v := 1) hx hb dX12_marks_43 (by decide) ?_
        refine lv_isub hx hb dX12_marks_44 ?_
        refine lv_topi (fun i_6 ei_6 => ?_)
        have vi_6 : i_6.toInt = i_5.toInt - 1 := by have h9 := x_sub ei_6 (by omega) (by omega); omega
        refine lv_istore_n (lv' := [(2, .int i_6), (1, .int k), (0, .ref (ad 1))]) hx hb dX12_marks_45 rfl hl (by decide) rfl (fun ls hl => ?_)
        have hP : va_P D vwCl (mwd y ad zw (tI σ 74 f_4)) H := hP
        have hD : va_D A (mwd y ad zw (tI σ 74 f_4)) := hD
        have loop2 : ∀ (fu : Nat) (j : Int32) (f : Nat → Int32) (H : Heap) (locs : List Loc) (ls : Array Slot), (-1 ≤ j.toInt) → (j.toInt < 1760) → (j.toInt + 1 < (fu : Int)) → va_P D vwCl (mwd y ad zw (tI σ 74 f)) H → va_D A (mwd y ad zw (tI σ 74 f)) → va_S A s.heap H locs → lv_has ls 3 [(2, .int j), (1, .int k), (0, .ref (ad 1))] → W p l e ({ frames := 0, cells := 0, slots := 0, locals := 0 } : Room) s m ([.ref (ad 1), .int k] : List Value).toArray below meth c H locs 0 0 Q (F0 m 46 ls []) := by
          intro fu
          induction fu with
          | zero =>
            intro j f H locs ls hj0 hj1 hm
            exact absurd hm (by omega)
          | succ fu ih_loop2 =>
            intro j f H locs ls hj0 hj1 hm hP hD hS hl
            refine lv_iload_n hx hb dX12_marks_46 rfl (lv_at hl 0 rfl) ?_
            refine lv_if_lt (tgt := 101) hx hb dX12_marks_47 (by decide) (fun c_7 => ?_) (fun c_7 => ?_)
            · have kc_7 : j.toInt < 0 := by have h9 := c_7; simp only [ge_iff_le, gt_iff_lt, x_lt, x_le, x_eq, ne_eq, Int32.not_lt, Int32.not_le] at h9; simp only [Int32.reduceToInt] at h9; omega
              exact x_vretW (u := f) hx hb hr hQ trivial hP hD hK hS dX12_marks_101 hlocks
            · have kc_7 : j.toInt ≥ 0 := by have h9 := c_7; simp only [ge_iff_le, gt_iff_lt, x_lt, x_le, x_eq, ne_eq, Int32.not_lt, Int32.not_le] at h9; simp only [Int32.reduceToInt] at h9; omega
              refine lv_aload_n hx hb dX12_marks_50 rfl (lv_at hl 2 rfl) ?_
              refine va_get (D := D) (ci := 11) (v := .ref (ad 74)) (C := RX12) (T := TX12) (N := 85) hx hb hts inX12 hown hK hP 0 mwd_o0 rfl 74 (by decide) fl163 (fun _ h9 => h9) rfl dX12_marks_51 ?_
              refine lv_iload_n hx hb dX12_marks_54 rfl (lv_at hl 0 rfl) ?_
              refine va_zald hx hb hK hP 50 4 mwd_a50 rfl (x_in (by omega) (by omega)) dX12_marks_55 ?_
              refine lv_topi (fun i_8 ei_8 => ?_)
              have ei_8 : i_8 = f (Int32.toNatClampNeg j) := ei_8
              refine lv_if_eq (tgt := 95) hx hb dX12_marks_56 (by decide) (fun c_9 => ?_) (fun c_9 => ?_)
              · have kc_9 : i_8.toInt = 0 := by have h9 := c_9; simp only [ge_iff_le, gt_iff_lt, x_lt, x_le, x_eq, ne_eq, Int32.not_lt, Int32.not_le] at h9; simp only [Int32.reduceToInt] at h9; omega
                obtain ⟨i_10, ei_10⟩ : ∃ z9 : Int32, z9 = j + (-1) := ⟨_, rfl⟩
                have vi_10 : i_10.toInt = j.toInt + (-1) := by have h9 := x_add ei_10 (by omega) (by omega); omega
                refine lv_iinc (v := i_10) (lv' := [(2, .int i_10), (1, .int k), (0, .ref (ad 1))]) hx hb dX12_marks_95 hl (k := 0) rfl (by rw [ei_10]; rfl) (by decide) rfl (fun ls hl => ?_)
                refine lv_goto (tgt := 46) hx hb dX12_marks_98 (by decide) ?_
                exact ih_loop2 i_10 f H locs ls (by omega) (by omega) (by omega) hP hD hS (lv_sub hl [0, 1, 2] rfl)
              · have kc_9 : i_8.toInt ≠ 0 := by have h9 := c_9; simp only [ge_iff_le, gt_iff_lt, x_lt, x_le, x_eq, ne_eq, Int32.not_lt, Int32.not_le] at h9; simp only [Int32.reduceToInt] at h9; omega
                refine lv_aload_n hx hb dX12_marks_59 rfl (lv_at hl 2 rfl) ?_
                refine va_get (D := D) (ci := 11) (v := .ref (ad 59)) (C := RX12) (T := TX12) (N := 85) hx hb hts inX12 hown hK hP 0 mwd_o0 rfl 59 (by decide) fl130 (fun _ h9 => h9) rfl dX12_marks_60 ?_
                refine lv_iload_n hx hb dX12_marks_63 rfl (lv_at hl 0 rfl) ?_
                refine va_iald hx hb hK hP 39 2 mwd_a39 rfl (x_in (by omega) (by omega)) dX12_marks_64 ?_
                refine lv_topi (fun i_11 ei_11 => ?_)
                have ei_11 : i_11 = (σ.2.2.1 59) (Int32.toNatClampNeg j) := ei_11
                refine lv_if_ne (tgt := 71) hx hb dX12_marks_65 (by decide) (fun c_12 => ?_) (fun c_12 => ?_)
                · have kc_12 : i_11.toInt ≠ 0 := by have h9 := c_12; simp only [ge_iff_le, gt_iff_lt, x_lt, x_le, x_eq, ne_eq, Int32.not_lt, Int32.not_le] at h9; simp only [Int32.reduceToInt] at h9; omega
                  refine lv_aload_n hx hb dX12_marks_71 rfl (lv_at hl 2 rfl) ?_
                  refine va_get (D := D) (ci := 11) (v := .ref (ad 74)) (C := RX12) (T := TX12) (N := 85) hx hb hts inX12 hown hK hP 0 mwd_o0 rfl 74 (by decide) fl163 (fun _ h9 => h9) rfl dX12_marks_72 ?_
                  refine lv_aload_n hx hb dX12_marks_75 rfl (lv_at hl 2 rfl) ?_
                  refine va_get (D := D) (ci := 11) (v := .ref (ad 60)) (C := RX12) (T := TX12) (N := 85) hx hb hts inX12 hown hK hP 0 mwd_o0 rfl 60 (by decide) fl133 (fun _ h9 => h9) rfl dX12_marks_76 ?_
                  refine lv_iload_n hx hb dX12_marks_79 rfl (lv_at hl 0 rfl) ?_
                  refine va_iald hx hb hK hP 40 2 mwd_a40 rfl (x_in (by omega) (by omega)) dX12_marks_80 ?_
                  refine lv_topi (fun i_13 ei_13 => ?_)
                  have ei_13 : i_13 = (σ.2.2.1 60) (Int32.toNatClampNeg j) := ei_13
                  have gi_13 := opc_1 hop (x_ne0 ei_11 kc_12) ei_13
                  refine lv_iconst (v := 1) hx hb dX12_marks_81 (by decide) ?_
                  refine va_zast hx hb hK hP hD hS 50 4 mwd_a50 rfl (x_in (by omega) (by omega)) dX12_marks_82 (fun H locs hP hD hS => ?_)
                  obtain ⟨f_14, ef_14⟩ : ∃ z9 : Nat → Int32, z9 = (upd f (Int32.toNatClampNeg i_13) (vp_nar .boolean 1)) := ⟨_, rfl⟩
                  have hP : va_P D vwCl (mwd y ad zw (tI (tI σ 74 f) 74 f_14)) H := by rw [ef_14]; exact x_trP hP mwd_s50
                  have hD : va_D A (mwd y ad zw (tI (tI σ 74 f) 74 f_14)) := by rw [ef_14]; exact x_trD hD mwd_s50
                  refine lv_aload_n hx hb dX12_marks_83 rfl (lv_at hl 2 rfl) ?_
                  refine va_get (D := D) (ci := 11) (v := .ref (ad 74)) (C := RX12) (T := TX12) (N := 85) hx hb hts inX12 hown hK hP 0 mwd_o0 rfl 74 (by decide) fl163 (fun _ h9 => h9) rfl dX12_marks_84 ?_
                  refine lv_aload_n hx hb dX12_marks_87 rfl (lv_at hl 2 rfl) ?_
                  refine va_get (D := D) (ci := 11) (v := .ref (ad 61)) (C := RX12) (T := TX12) (N := 85) hx hb hts inX12 hown hK hP 0 mwd_o0 rfl 61 (by decide) fl136 (fun _ h9 => h9) rfl dX12_marks_88 ?_
                  refine lv_iload_n hx hb dX12_marks_91 rfl (lv_at hl 0 rfl) ?_
                  refine va_iald hx hb hK hP 41 2 mwd_a41 rfl (x_in (by omega) (by omega)) dX12_marks_92 ?_
                  refine lv_topi (fun i_15 ei_15 => ?_)
                  have ei_15 : i_15 = (σ.2.2.1 61) (Int32.toNatClampNeg j) := ei_15
                  have gi_15 := opc_2 hop (x_ne0 ei_11 kc_12) ei_15
                  refine lv_iconst (v := 1) hx hb dX12_marks_93 (by decide) ?_
                  refine va_zast hx hb hK hP hD hS 50 4 mwd_a50 rfl (x_in (by omega) (by omega)) dX12_marks_94 (fun H locs hP hD hS => ?_)
                  obtain ⟨f_16, ef_16⟩ : ∃ z9 : Nat → Int32, z9 = (upd f_14 (Int32.toNatClampNeg i_15) (vp_nar .boolean 1)) := ⟨_, rfl⟩
                  have hP : va_P D vwCl (mwd y ad zw (tI (tI (tI σ 74 f) 74 f_14) 74 f_16)) H := by rw [ef_16]; exact x_trP hP mwd_s50
                  have hD : va_D A (mwd y ad zw (tI (tI (tI σ 74 f) 74 f_14) 74 f_16)) := by rw [ef_16]; exact x_trD hD mwd_s50
                  obtain ⟨i_17, ei_17⟩ : ∃ z9 : Int32, z9 = j + (-1) := ⟨_, rfl⟩
                  have vi_17 : i_17.toInt = j.toInt + (-1) := by have h9 := x_add ei_17 (by omega) (by omega); omega
                  refine lv_iinc (v := i_17) (lv' := [(2, .int i_17), (1, .int k), (0, .ref (ad 1))]) hx hb dX12_marks_95 hl (k := 0) rfl (by rw [ei_17]; rfl) (by decide) rfl (fun ls hl => ?_)
                  refine lv_goto (tgt := 46) hx hb dX12_marks_98 (by decide) ?_
                  have hP : va_P D vwCl (mwd y ad zw (tI σ 74 f_16)) H := hP
                  have hD : va_D A (mwd y ad zw (tI σ 74 f_16)) := hD
                  exact ih_loop2 i_17 f_16 H locs ls (by omega) (by omega) (by omega) hP hD hS (lv_sub hl [0, 1, 2] rfl)
                · have kc_12 : i_11.toInt = 0 := by have h9 := c_12; simp only [ge_iff_le, gt_iff_lt, x_lt, x_le, x_eq, ne_eq, Int32.not_lt, Int32.not_le] at h9; simp only [Int32.reduceToInt] at h9; omega
                  refine lv_goto (tgt := 95) hx hb dX12_marks_68 (by decide) ?_
                  obtain ⟨i_18, ei_18⟩ : ∃ z9 : Int32, z9 = j + (-1) := ⟨_, rfl⟩
                  have vi_18 : i_18.toInt = j.toInt + (-1) := by have h9 := x_add ei_18 (by omega) (by omega); omega
                  refine lv_iinc (v := i_18) (lv' := [(2, .int i_18), (1, .int k), (0, .ref (ad 1))]) hx hb dX12_marks_95 hl (k := 0) rfl (by rw [ei_18]; rfl) (by decide) rfl (fun ls hl => ?_)
                  refine lv_goto (tgt := 46) hx hb dX12_marks_98 (by decide) ?_
                  exact ih_loop2 i_18 f H locs ls (by omega) (by omega) (by omega) hP hD hS (lv_sub hl [0, 1, 2] rfl)
        exact loop2 1761 i_6 f_4 H locs ls (by omega) (by omega) (by omega) hP hD hS (lv_sub hl [0, 1, 2] rfl)
      · have kc_2 : j.toInt < i_1.toInt := by have h9 := c_2; simp only [ge_iff_le, gt_iff_lt, x_lt, x_le, x_eq, ne_eq, Int32.not_lt, Int32.not_le] at h9; omega
        refine lv_aload_n hx hb dX12_marks_12 rfl (lv_at hl 2 rfl) ?_
        refine va_get (D := D) (ci := 11) (v := .ref (ad 74)) (C := RX12) (T := TX12) (N := 85) hx hb hts inX12 hown hK hP 0 mwd_o0 rfl 74 (by decide) fl163 (fun _ h9 => h9) rfl dX12_marks_13 ?_
        refine lv_iload_n hx hb dX12_marks_16 rfl (lv_at hl 0 rfl) ?_
        refine lv_iconst (v := 0) hx hb dX12_marks_17 (by decide) ?_
        refine va_zast hx hb hK hP hD hS 50 4 mwd_a50 rfl (x_in (by omega) (by omega)) dX12_marks_18 (fun H locs hP hD hS => ?_)
        obtain ⟨f_19, ef_19⟩ : ∃ z9 : Nat → Int32, z9 = (upd f (Int32.toNatClampNeg j) (vp_nar .boolean 0)) := ⟨_, rfl⟩
        have hP : va_P D vwCl (mwd y ad zw (tI (tI σ 74 f) 74 f_19)) H := by rw [ef_19]; exact x_trP hP mwd_s50
        have hD : va_D A (mwd y ad zw (tI (tI σ 74 f) 74 f_19)) := by rw [ef_19]; exact x_trD hD mwd_s50
        obtain ⟨i_20, ei_20⟩ : ∃ z9 : Int32, z9 = j + 1 := ⟨_, rfl⟩
        have vi_20 : i_20.toInt = j.toInt + 1 := by have h9 := x_add ei_20 (by omega) (by omega); omega
        refine lv_iinc (v := i_20) (lv' := [(2, .int i_20), (1, .int k), (0, .ref (ad 1))]) hx hb dX12_marks_19 hl (k := 0) rfl (by rw [ei_20]; rfl) (by decide) rfl (fun ls hl => ?_)
        refine lv_goto (tgt := 2) hx hb dX12_marks_22 (by decide) ?_
        have hP : va_P D vwCl (mwd y ad zw (tI σ 74 f_19)) H := hP
        have hD : va_D A (mwd y ad zw (tI σ 74 f_19)) := hD
        exact ih_loop i_20 f_19 H locs ls (by omega) (by omega) (by omega) hP hD hS (lv_sub hl [0, 1, 2] rfl)
  exact loop 1761 0 (σ.2.2.1 74) H locs ls (by decide) (by decide) (by omega) hP hD hS (lv_sub hl [0, 2, 1] rfl)

def v_q_slopes0 : List Cond := .code yX12_slopes cX12_slopes 5 (some .boolean) :: ([.fieldLink RX12 384 "SlopeRunnerModel" "isStuck" "Z", .fieldLink RX12 139 "SlopeRunnerModel" "laid" "[I", .fieldLink RX12 163 "SlopeRunnerModel" "hangs" "[Z", .fieldLink RX12 130 "SlopeRunnerModel" "op" "[I"] ++ ((wsV RX12 457 RX12 yX12_lets v_q_lets0) ++ ((wsV RX12 461 RX12 yX12_slope v_q_slope0) ++ wsX120)))
theorem g_q_slopes0_0 : GoodIn v_q_slopes0 (wsV RX12 457 RX12 yX12_lets v_q_lets0) := goodIn_sub (fun w h => List.mem_cons_of_mem _ (List.mem_append_right _ (List.mem_append_left _ h))) (by decide +kernel)
theorem g_q_slopes0_1 : GoodIn v_q_slopes0 (wsV RX12 461 RX12 yX12_slope v_q_slope0) := goodIn_sub (fun w h => List.mem_cons_of_mem _ (List.mem_append_right _ (List.mem_append_right _ (List.mem_append_left _ h)))) (by decide +kernel)
set_option maxHeartbeats 4000000 in
set_option maxRecDepth 100000 in
theorem q_slopes0 (l : Launch) (D : va_G) (y : Nat → ClassId) (sz : Nat) (ad : Nat → Nat) (zw : Nat → Nat → Int32) (σ : OS) (k i : Int32) (hop : opc (σ.2.2.1 59) (σ.2.2.1 60) (σ.2.2.1 61)) (hB75 : bJ (σ.2.2.2 75) (-1000000000) 1000000000) (hB76 : bJ (σ.2.2.2 76) 0 1000000000) (hB57 : bJ (σ.2.2.2 57) (-1000000000) 1000000000) (hB58 : bJ (σ.2.2.2 58) 0 1000000000) (hB62 : bI (σ.2.2.1 62) 0 1760) : Met l yX12_slopes v_q_slopes0 ({ frames := 5, cells := 0, slots := 0, locals := 144 } : Room) (va_Pc [.ref (ad 1), .int k, .int i, .int 0] (xPre D (xT y) (mwd y ad zw σ) sz)) (va_Qi (fun (r : Int32) (u : Int32 × Int64 × Int64 × (Nat → Int64) × (Nat → Int64)) => (r.toInt = 0 ∨ r.toInt = 1) ∧ bJ u.2.2.2.1 (-1000000000) 1000000000 ∧ bJ u.2.2.2.2 0 1000000000) (fun (u : Int32 × Int64 × Int64 × (Nat → Int64) × (Nat → Int64)) => xB D (xT y) (va_A (mwd y ad zw σ) sz) (mwd y ad zw (tJ (tJ (sJ (sJ (sI σ 44 u.1) 42 u.2.1) 43 u.2.2.1) 75 u.2.2.2.1) 76 u.2.2.2.2))) (va_A (mwd y ad zw σ) sz)) 0 0 (va_A (mwd y ad zw σ) sz) := by
  refine x_meti (cc := cX12_slopes) (maxL := 5) (by decide) rfl (Nat.le_of_ble_eq_true rfl) ?_
  intro p e s m below meth c A H locs Q hx hb hml hown hts hr hlocks hmn hA hP hK hD hS ls hl hQ
  have hl : lv_has ls 5 [(0, .ref (ad 1)), (1, .int k), (2, .int i), (3, .int 0)] := hl
  have fl384 := hts (.fieldLink RX12 384 "SlopeRunnerModel" "isStuck" "Z") (List.mem_of_getElem? (i := 1) rfl)
  have inX12 : ∀ w ∈ wsX120, w ∈ v_q_slopes0 := (fun w h => List.mem_cons_of_mem _ (List.mem_append_right _ (List.mem_append_right _ (List.mem_append_right _ h))))
  have fl139 := hts (.fieldLink RX12 139 "SlopeRunnerModel" "laid" "[I") (List.mem_of_getElem? (i := 2) rfl)
  have kk_0 : (0 : Int32).toInt = 0 := rfl
  have kk_1 : (1 : Int32).toInt = 1 := rfl
  have fl163 := hts (.fieldLink RX12 163 "SlopeRunnerModel" "hangs" "[Z") (List.mem_of_getElem? (i := 3) rfl)
  have kl_0 : (0 : Int64).toInt = 0 := rfl
  have kl_1 : (1 : Int64).toInt = 1 := rfl
  have fl130 := hts (.fieldLink RX12 130 "SlopeRunnerModel" "op" "[I") (List.mem_of_getElem? (i := 4) rfl)
  refine lv_aload_n hx hb dX12_slopes_0 rfl (lv_at hl 0 rfl) ?_
  refine lv_iconst (v := 0) hx hb dX12_slopes_1 (by decide) ?_
  refine va_put (D := D) (ci := 11) (v := .int 0) (ty := .boolean) (C := RX12) (T := TX12) (N := 85) hx hb hts inX12 tyX12 tyX12_ok nmX12 hown hK hP hD hS 0 mwd_o0 rfl 44 (by decide) fl384 (fun _ h9 => h9) rfl (by decide +kernel) rfl rfl (Nat.le_of_ble_eq_true rfl) dX12_slopes_2 (fun H locs hP hD hS => ?_)
  have hP : va_P D vwCl (mwd y ad zw (sI σ 44 0)) H := x_trP hP mwd_p0_44
  have hD : va_D A (mwd y ad zw (sI σ 44 0)) := x_trD hD mwd_p0_44
  refine lv_iconst (v := 0) hx hb dX12_slopes_5 (by decide) ?_
  refine lv_istore (lv' := [(4, .int 0), (0, .ref (ad 1)), (1, .int k), (2, .int i), (3, .int 0)]) hx hb dX12_slopes_6 hl (by decide) rfl (fun ls hl => ?_)
  have hP : va_P D vwCl (mwd y ad zw (tJ (tJ (sJ (sJ (sI σ 44 0) 42 (σ.2.1 42)) 43 (σ.2.1 43)) 75 (σ.2.2.2 75)) 76 (σ.2.2.2 76))) H := hP
  have hD : va_D A (mwd y ad zw (tJ (tJ (sJ (sJ (sI σ 44 0) 42 (σ.2.1 42)) 43 (σ.2.1 43)) 75 (σ.2.2.2 75)) 76 (σ.2.2.2 76))) := hD
  have loop : ∀ (fu : Nat) (j : Int32) (n1 : Int32) (j1 : Int64) (j2 : Int64) (f1 : Nat → Int64) (f2 : Nat → Int64) (H : Heap) (locs : List Loc) (ls : Array Slot), (0 ≤ j.toInt) → (j.toInt ≤ 1760) → (bJ f1 (-1000000000) 1000000000) → (bJ f2 0 1000000000) → (1760 - j.toInt < (fu : Int)) → va_P D vwCl (mwd y ad zw (tJ (tJ (sJ (sJ (sI σ 44 n1) 42 j1) 43 j2) 75 f1) 76 f2)) H → va_D A (mwd y ad zw (tJ (tJ (sJ (sJ (sI σ 44 n1) 42 j1) 43 j2) 75 f1) 76 f2)) → va_S A s.heap H locs → lv_has ls 5 [(4, .int j), (3, .int 0), (2, .int i), (1, .int k), (0, .ref (ad 1))] → W p l e ({ frames := 5, cells := 0, slots := 0, locals := 144 } : Room) s m ([.ref (ad 1), .int k, .int i, .int 0] : List Value).toArray below meth c H locs 0 0 Q (F0 m 8 ls []) := by
    intro fu
    induction fu with
    | zero =>
      intro j n1 j1 j2 f1 f2 H locs ls hj0 hj1 hf1 hf2 hm
      exact absurd hm (by omega)
    | succ fu ih_loop =>
      intro j n1 j1 j2 f1 f2 H locs ls hj0 hj1 hf1 hf2 hm hP hD hS hl
      refine lv_iload hx hb dX12_slopes_8 (lv_at hl 0 rfl) ?_
      refine lv_aload_n hx hb dX12_slopes_10 rfl (lv_at hl 4 rfl) ?_
      refine va_get (D := D) (ci := 11) (v := .ref (ad 62)) (C := RX12) (T := TX12) (N := 85) hx hb hts inX12 hown hK hP 0 mwd_o0 rfl 62 (by decide) fl139 (fun _ h9 => h9) rfl dX12_slopes_11 ?_
      refine lv_iconst (v := 0) hx hb dX12_slopes_14 (by decide) ?_
      refine va_iald hx hb hK hP 42 2 mwd_a42 rfl (x_in (by decide) (by decide)) dX12_slopes_15 ?_
      refine lv_topi (fun i_1 ei_1 => ?_)
      have ei_1 : i_1 = (σ.2.2.1 62) (Int32.toNatClampNeg 0) := ei_1
      have bi_1 := b_at hB62 ei_1
      refine lv_icmp_ge (tgt := 91) hx hb dX12_slopes_16 (by decide) (fun c_2 => ?_) (fun c_2 => ?_)
      · have kc_2 : j.toInt ≥ i_1.toInt := by have h9 := c_2; simp only [ge_iff_le, gt_iff_lt, x_lt, x_le, x_eq, ne_eq, Int32.not_lt, Int32.not_le] at h9; omega
        refine lv_aload_n hx hb dX12_slopes_91 rfl (lv_at hl 4 rfl) ?_
        refine va_get (D := D) (ci := 11) (v := .int n1) (C := RX12) (T := TX12) (N := 85) hx hb hts inX12 hown hK hP 0 mwd_o0 rfl 44 (by decide) fl384 (fun _ h9 => h9) rfl dX12_slopes_92 ?_
        refine lv_if_ne (tgt := 102) hx hb dX12_slopes_95 (by decide) (fun c_3 => ?_) (fun c_3 => ?_)
        · have kc_3 : n1.toInt ≠ 0 := by have h9 := c_3; simp only [ge_iff_le, gt_iff_lt, x_lt, x_le, x_eq, ne_eq, Int32.not_lt, Int32.not_le] at h9; simp only [Int32.reduceToInt] at h9; omega
          refine lv_iconst (v := 0) hx hb dX12_slopes_102 (by decide) ?_
          exact x_zretW (v := 0) (u := (n1, j1, j2, f1, f2)) hx hb hr hQ rfl (by (try dsimp only); exact ⟨(by omega), hf1, hf2⟩) hP hD hK hS dX12_slopes_103 hlocks
        · have kc_3 : n1.toInt = 0 := by have h9 := c_3; simp only [ge_iff_le, gt_iff_lt, x_lt, x_le, x_eq, ne_eq, Int32.not_lt, Int32.not_le] at h9; simp only [Int32.reduceToInt] at h9; omega
          refine lv_iconst (v := 1) hx hb dX12_slopes_98 (by decide) ?_
          refine lv_goto (tgt := 103) hx hb dX12_slopes_99 (by decide) ?_
          exact x_zretW (v := 1) (u := (n1, j1, j2, f1, f2)) hx hb hr hQ rfl (by (try dsimp only); exact ⟨(by omega), hf1, hf2⟩) hP hD hK hS dX12_slopes_103 hlocks
      · have kc_2 : j.toInt < i_1.toInt := by have h9 := c_2; simp only [ge_iff_le, gt_iff_lt, x_lt, x_le, x_eq, ne_eq, Int32.not_lt, Int32.not_le] at h9; omega
        refine lv_aload_n hx hb dX12_slopes_19 rfl (lv_at hl 4 rfl) ?_
        refine va_get (D := D) (ci := 11) (v := .int n1) (C := RX12) (T := TX12) (N := 85) hx hb hts inX12 hown hK hP 0 mwd_o0 rfl 44 (by decide) fl384 (fun _ h9 => h9) rfl dX12_slopes_20 ?_
        refine lv_if_ne (tgt := 91) hx hb dX12_slopes_23 (by decide) (fun c_4 => ?_) (fun c_4 => ?_)
        · have kc_4 : n1.toInt ≠ 0 := by have h9 := c_4; simp only [ge_iff_le, gt_iff_lt, x_lt, x_le, x_eq, ne_eq, Int32.not_lt, Int32.not_le] at h9; simp only [Int32.reduceToInt] at h9; omega
          refine lv_aload_n hx hb dX12_slopes_91 rfl (lv_at hl 4 rfl) ?_
          refine va_get (D := D) (ci := 11) (v := .int n1) (C := RX12) (T := TX12) (N := 85) hx hb hts inX12 hown hK hP 0 mwd_o0 rfl 44 (by decide) fl384 (fun _ h9 => h9) rfl dX12_slopes_92 ?_
          refine lv_if_ne (tgt := 102) hx hb dX12_slopes_95 (by decide) (fun c_5 => ?_) (fun c_5 => ?_)
          · have kc_5 : n1.toInt ≠ 0 := by have h9 := c_5; simp only [ge_iff_le, gt_iff_lt, x_lt, x_le, x_eq, ne_eq, Int32.not_lt, Int32.not_le] at h9; simp only [Int32.reduceToInt] at h9; omega
            refine lv_iconst (v := 0) hx hb dX12_slopes_102 (by decide) ?_
            exact x_zretW (v := 0) (u := (n1, j1, j2, f1, f2)) hx hb hr hQ rfl (by (try dsimp only); exact ⟨(by omega), hf1, hf2⟩) hP hD hK hS dX12_slopes_103 hlocks
          · have kc_5 : n1.toInt = 0 := by have h9 := c_5; simp only [ge_iff_le, gt_iff_lt, x_lt, x_le, x_eq, ne_eq, Int32.not_lt, Int32.not_le] at h9; simp only [Int32.reduceToInt] at h9; omega
            refine lv_iconst (v := 1) hx hb dX12_slopes_98 (by decide) ?_
            refine lv_goto (tgt := 103) hx hb dX12_slopes_99 (by decide) ?_
            exact x_zretW (v := 1) (u := (n1, j1, j2, f1, f2)) hx hb hr hQ rfl (by (try dsimp only); exact ⟨(by omega), hf1, hf2⟩) hP hD hK hS dX12_slopes_103 hlocks
        · have kc_4 : n1.toInt = 0 := by have h9 := c_4; simp only [ge_iff_le, gt_iff_lt, x_lt, x_le, x_eq, ne_eq, Int32.not_lt, Int32.not_le] at h9; simp only [Int32.reduceToInt] at h9; omega
          refine lv_aload_n hx hb dX12_slopes_26 rfl (lv_at hl 4 rfl) ?_
          refine va_get (D := D) (ci := 11) (v := .ref (ad 74)) (C := RX12) (T := TX12) (N := 85) hx hb hts inX12 hown hK hP 0 mwd_o0 rfl 74 (by decide) fl163 (fun _ h9 => h9) rfl dX12_slopes_27 ?_
          refine lv_iload hx hb dX12_slopes_30 (lv_at hl 0 rfl) ?_
          refine va_zald hx hb hK hP 50 4 mwd_a50 rfl (x_in (by omega) (by omega)) dX12_slopes_32 ?_
          refine lv_topi (fun i_6 ei_6 => ?_)
          have ei_6 : i_6 = (σ.2.2.1 74) (Int32.toNatClampNeg j) := ei_6
          refine lv_if_ne (tgt := 39) hx hb dX12_slopes_33 (by decide) (fun c_7 => ?_) (fun c_7 => ?_)
          · have kc_7 : i_6.toInt ≠ 0 := by have h9 := c_7; simp only [ge_iff_le, gt_iff_lt, x_lt, x_le, x_eq, ne_eq, Int32.not_lt, Int32.not_le] at h9; simp only [Int32.reduceToInt] at h9; omega
            refine lv_aload_n hx hb dX12_slopes_39 rfl (lv_at hl 4 rfl) ?_
            refine lv_iload_n hx hb dX12_slopes_40 rfl (lv_at hl 1 rfl) ?_
            refine lv_iload hx hb dX12_slopes_41 (lv_at hl 0 rfl) ?_
            refine lv_iload hx hb dX12_slopes_43 (lv_at hl 0 rfl) ?_
            refine lv_iload_n hx hb dX12_slopes_45 rfl (lv_at hl 2 rfl) ?_
            refine lv_icmp_ne (tgt := 63) hx hb dX12_slopes_46 (by decide) (fun c_8 => ?_) (fun c_8 => ?_)
            · have kc_8 : j.toInt ≠ i.toInt := by have h9 := c_8; simp only [ge_iff_le, gt_iff_lt, x_lt, x_le, x_eq, ne_eq, Int32.not_lt, Int32.not_le] at h9; omega
              refine lv_lconst (v := 0) hx hb dX12_slopes_63 (by decide) ?_
              refine lv_lconst (v := 1) hx hb dX12_slopes_64 (by decide) ?_
              refine x_callvW (va_runV (As := [.int 0, .int j, .long 0, .long 1]) (rest := []) ⟨hx, hb, hml, hown, hts⟩ (q_lets0 l D y H.size ad zw (tJ (tJ (sJ (sJ (sI σ 44 n1) 42 j1) 43 j2) 75 f1) 76 f2) j 0 1 (by first | omega | decide) (by first | omega | decide) (by first | omega | decide) (by first | omega | decide) (by first | omega | decide) (by first | omega | decide) hf1 hf2) (cwV 4 hts g_q_slopes0_0 rfl rfl rfl (by decide +kernel) ⟨Nat.le_of_ble_eq_true rfl, Nat.le_of_ble_eq_true rfl⟩) (x_preV (q := (RX12, TX12, 85)) hK hP hD (ci := 11) (q0 := 0) rfl mwd_o0) rfl rfl hl.1 rfl (lv_room (Nat.le_of_ble_eq_true rfl)) dX12_slopes_65 ⟨Nat.le_of_ble_eq_true rfl, Nat.le_of_ble_eq_true rfl⟩) hP hD hS hA (fun u H locs hw hP hD hS => ?_)
              obtain ⟨f_9, f_10⟩ := u
              try dsimp only at hw
              have hP : va_P D vwCl (mwd y ad zw (tJ (tJ (tJ (tJ (sJ (sJ (sI σ 44 n1) 42 j1) 43 j2) 75 f1) 76 f2) 75 f_9) 76 f_10)) H := hP
              have hD : va_D A (mwd y ad zw (tJ (tJ (tJ (tJ (sJ (sJ (sI σ 44 n1) 42 j1) 43 j2) 75 f1) 76 f2) 75 f_9) 76 f_10)) := hD
              have hw : (True) ∧ bJ f_9 (-1000000000) 1000000000 ∧ bJ f_10 0 1000000000 := hw
              obtain ⟨hw, hg_11, hg_12⟩ := hw
              refine lv_aload_n hx hb dX12_slopes_68 rfl (lv_at hl 4 rfl) ?_
              refine va_get (D := D) (ci := 11) (v := .ref (ad 59)) (C := RX12) (T := TX12) (N := 85) hx hb hts inX12 hown hK hP 0 mwd_o0 rfl 59 (by decide) fl130 (fun _ h9 => h9) rfl dX12_slopes_69 ?_
              refine lv_iload hx hb dX12_slopes_72 (lv_at hl 0 rfl) ?_
              refine va_iald hx hb hK hP 39 2 mwd_a39 rfl (x_in (by omega) (by omega)) dX12_slopes_74 ?_
              refine lv_topi (fun i_13 ei_13 => ?_)
              have ei_13 : i_13 = (σ.2.2.1 59) (Int32.toNatClampNeg j) := ei_13
              refine lv_if_eq (tgt := 85) hx hb dX12_slopes_75 (by decide) (fun c_14 => ?_) (fun c_14 => ?_)
              · have kc_14 : i_13.toInt = 0 := by have h9 := c_14; simp only [ge_iff_le, gt_iff_lt, x_lt, x_le, x_eq, ne_eq, Int32.not_lt, Int32.not_le] at h9; simp only [Int32.reduceToInt] at h9; omega
                obtain ⟨i_15, ei_15⟩ : ∃ z9 : Int32, z9 = j + 1 := ⟨_, rfl⟩
                have vi_15 : i_15.toInt = j.toInt + 1 := by have h9 := x_add ei_15 (by omega) (by omega); omega
                refine lv_iinc (v := i_15) (lv' := [(4, .int i_15), (3, .int 0), (2, .int i), (1, .int k), (0, .ref (ad 1))]) hx hb dX12_slopes_85 hl (k := 0) rfl (by rw [ei_15]; rfl) (by decide) rfl (fun ls hl => ?_)
                refine lv_goto (tgt := 8) hx hb dX12_slopes_88 (by decide) ?_
                have hP : va_P D vwCl (mwd y ad zw (tJ (tJ (sJ (sJ (sI σ 44 n1) 42 j1) 43 j2) 75 f_9) 76 f_10)) H := hP
                have hD : va_D A (mwd y ad zw (tJ (tJ (sJ (sJ (sI σ 44 n1) 42 j1) 43 j2) 75 f_9) 76 f_10)) := hD
                exact ih_loop i_15 n1 j1 j2 f_9 f_10 H locs ls (by omega) (by omega) hg_11 hg_12 (by omega) hP hD hS (lv_sub hl [0, 1, 2, 3, 4] rfl)
              · have kc_14 : i_13.toInt ≠ 0 := by have h9 := c_14; simp only [ge_iff_le, gt_iff_lt, x_lt, x_le, x_eq, ne_eq, Int32.not_lt, Int32.not_le] at h9; simp only [Int32.reduceToInt] at h9; omega
                refine lv_aload_n hx hb dX12_slopes_78 rfl (lv_at hl 4 rfl) ?_
                refine lv_iload hx hb dX12_slopes_79 (lv_at hl 0 rfl) ?_
                refine lv_iload_n hx hb dX12_slopes_81 rfl (lv_at hl 1 rfl) ?_
                refine x_callvW (va_runV (As := [.int j, .int 0]) (rest := []) ⟨hx, hb, hml, hown, hts⟩ (q_slope0 l D y H.size ad zw (tJ (tJ (tJ (tJ (sJ (sJ (sI σ 44 n1) 42 j1) 43 j2) 75 f1) 76 f2) 75 f_9) 76 f_10) j (by first | omega | decide) (by first | omega | decide) (x_ne0 ei_13 kc_14) hop hg_11 hg_12 hB57 hB58) (cwV 2 hts g_q_slopes0_1 rfl rfl rfl (by decide +kernel) ⟨Nat.le_of_ble_eq_true rfl, Nat.le_of_ble_eq_true rfl⟩) (x_preV (q := (RX12, TX12, 85)) hK hP hD (ci := 11) (q0 := 0) rfl mwd_o0) rfl rfl hl.1 rfl (lv_room (Nat.le_of_ble_eq_true rfl)) dX12_slopes_82 ⟨Nat.le_of_ble_eq_true rfl, Nat.le_of_ble_eq_true rfl⟩) hP hD hS hA (fun u H locs hw hP hD hS => ?_)
                obtain ⟨n_16, j_17, j_18, f_19, f_20⟩ := u
                try dsimp only at hw
                have hP : va_P D vwCl (mwd y ad zw (tJ (tJ (sJ (sJ (sI (tJ (tJ (tJ (tJ (sJ (sJ (sI σ 44 n1) 42 j1) 43 j2) 75 f1) 76 f2) 75 f_9) 76 f_10) 44 n_16) 42 j_17) 43 j_18) 75 f_19) 76 f_20)) H := hP
                have hD : va_D A (mwd y ad zw (tJ (tJ (sJ (sJ (sI (tJ (tJ (tJ (tJ (sJ (sJ (sI σ 44 n1) 42 j1) 43 j2) 75 f1) 76 f2) 75 f_9) 76 f_10) 44 n_16) 42 j_17) 43 j_18) 75 f_19) 76 f_20)) := hD
                have hw : (True) ∧ bJ f_19 (-1000000000) 1000000000 ∧ bJ f_20 0 1000000000 := hw
                obtain ⟨hw, hg_21, hg_22⟩ := hw
                obtain ⟨i_23, ei_23⟩ : ∃ z9 : Int32, z9 = j + 1 := ⟨_, rfl⟩
                have vi_23 : i_23.toInt = j.toInt + 1 := by have h9 := x_add ei_23 (by omega) (by omega); omega
                refine lv_iinc (v := i_23) (lv' := [(4, .int i_23), (3, .int 0), (2, .int i), (1, .int k), (0, .ref (ad 1))]) hx hb dX12_slopes_85 hl (k := 0) rfl (by rw [ei_23]; rfl) (by decide) rfl (fun ls hl => ?_)
                refine lv_goto (tgt := 8) hx hb dX12_slopes_88 (by decide) ?_
                have hP : va_P D vwCl (mwd y ad zw (tJ (tJ (sJ (sJ (sI σ 44 n_16) 42 j_17) 43 j_18) 75 f_19) 76 f_20)) H := hP
                have hD : va_D A (mwd y ad zw (tJ (tJ (sJ (sJ (sI σ 44 n_16) 42 j_17) 43 j_18) 75 f_19) 76 f_20)) := hD
                exact ih_loop i_23 n_16 j_17 j_18 f_19 f_20 H locs ls (by omega) (by omega) hg_21 hg_22 (by omega) hP hD hS (lv_sub hl [0, 1, 2, 3, 4] rfl)
            · have kc_8 : j.toInt = i.toInt := by have h9 := c_8; simp only [ge_iff_le, gt_iff_lt, x_lt, x_le, x_eq, ne_eq, Int32.not_lt, Int32.not_le] at h9; omega
              refine lv_aload_n hx hb dX12_slopes_49 rfl (lv_at hl 4 rfl) ?_
              refine va_get (D := D) (ci := 11) (v := .ref (ad 59)) (C := RX12) (T := TX12) (N := 85) hx hb hts inX12 hown hK hP 0 mwd_o0 rfl 59 (by decide) fl130 (fun _ h9 => h9) rfl dX12_slopes_50 ?_
              refine lv_iload hx hb dX12_slopes_53 (lv_at hl 0 rfl) ?_
              refine va_iald hx hb hK hP 39 2 mwd_a39 rfl (x_in (by omega) (by omega)) dX12_slopes_55 ?_
              refine lv_topi (fun i_24 ei_24 => ?_)
              have ei_24 : i_24 = (σ.2.2.1 59) (Int32.toNatClampNeg j) := ei_24
              refine lv_if_ne (tgt := 63) hx hb dX12_slopes_56 (by decide) (fun c_25 => ?_) (fun c_25 => ?_)
              · have kc_25 : i_24.toInt ≠ 0 := by have h9 := c_25; simp only [ge_iff_le, gt_iff_lt, x_lt, x_le, x_eq, ne_eq, Int32.not_lt, Int32.not_le] at h9; simp only [Int32.reduceToInt] at h9; omega
                refine lv_lconst (v := 0) hx hb dX12_slopes_63 (by decide) ?_
                refine lv_lconst (v := 1) hx hb dX12_slopes_64 (by decide) ?_
                refine x_callvW (va_runV (As := [.int 0, .int j, .long 0, .long 1]) (rest := []) ⟨hx, hb, hml, hown, hts⟩ (q_lets0 l D y H.size ad zw (tJ (tJ (sJ (sJ (sI σ 44 n1) 42 j1) 43 j2) 75 f1) 76 f2) j 0 1 (by first | omega | decide) (by first | omega | decide) (by first | omega | decide) (by first | omega | decide) (by first | omega | decide) (by first | omega | decide) hf1 hf2) (cwV 4 hts g_q_slopes0_0 rfl rfl rfl (by decide +kernel) ⟨Nat.le_of_ble_eq_true rfl, Nat.le_of_ble_eq_true rfl⟩) (x_preV (q := (RX12, TX12, 85)) hK hP hD (ci := 11) (q0 := 0) rfl mwd_o0) rfl rfl hl.1 rfl (lv_room (Nat.le_of_ble_eq_true rfl)) dX12_slopes_65 ⟨Nat.le_of_ble_eq_true rfl, Nat.le_of_ble_eq_true rfl⟩) hP hD hS hA (fun u H locs hw hP hD hS => ?_)
                obtain ⟨f_26, f_27⟩ := u
                try dsimp only at hw
                have hP : va_P D vwCl (mwd y ad zw (tJ (tJ (tJ (tJ (sJ (sJ (sI σ 44 n1) 42 j1) 43 j2) 75 f1) 76 f2) 75 f_26) 76 f_27)) H := hP
                have hD : va_D A (mwd y ad zw (tJ (tJ (tJ (tJ (sJ (sJ (sI σ 44 n1) 42 j1) 43 j2) 75 f1) 76 f2) 75 f_26) 76 f_27)) := hD
                have hw : (True) ∧ bJ f_26 (-1000000000) 1000000000 ∧ bJ f_27 0 1000000000 := hw
                obtain ⟨hw, hg_28, hg_29⟩ := hw
                refine lv_aload_n hx hb dX12_slopes_68 rfl (lv_at hl 4 rfl) ?_
                refine va_get (D := D) (ci := 11) (v := .ref (ad 59)) (C := RX12) (T := TX12) (N := 85) hx hb hts inX12 hown hK hP 0 mwd_o0 rfl 59 (by decide) fl130 (fun _ h9 => h9) rfl dX12_slopes_69 ?_
                refine lv_iload hx hb dX12_slopes_72 (lv_at hl 0 rfl) ?_
                refine va_iald hx hb hK hP 39 2 mwd_a39 rfl (x_in (by omega) (by omega)) dX12_slopes_74 ?_
                refine lv_topi (fun i_30 ei_30 => ?_)
                have ei_30 : i_30 = (σ.2.2.1 59) (Int32.toNatClampNeg j) := ei_30
                refine lv_if_eq (tgt := 85) hx hb dX12_slopes_75 (by decide) (fun c_31 => ?_) (fun c_31 => ?_)
                · have kc_31 : i_30.toInt = 0 := by have h9 := c_31; simp only [ge_iff_le, gt_iff_lt, x_lt, x_le, x_eq, ne_eq, Int32.not_lt, Int32.not_le] at h9; simp only [Int32.reduceToInt] at h9; omega
                  obtain ⟨i_32, ei_32⟩ : ∃ z9 : Int32, z9 = j + 1 := ⟨_, rfl⟩
                  have vi_32 : i_32.toInt = j.toInt + 1 := by have h9 := x_add ei_32 (by omega) (by omega); omega
                  refine lv_iinc (v := i_32) (lv' := [(4, .int i_32), (3, .int 0), (2, .int i), (1, .int k), (0, .ref (ad 1))]) hx hb dX12_slopes_85 hl (k := 0) rfl (by rw [ei_32]; rfl) (by decide) rfl (fun ls hl => ?_)
                  refine lv_goto (tgt := 8) hx hb dX12_slopes_88 (by decide) ?_
                  have hP : va_P D vwCl (mwd y ad zw (tJ (tJ (sJ (sJ (sI σ 44 n1) 42 j1) 43 j2) 75 f_26) 76 f_27)) H := hP
                  have hD : va_D A (mwd y ad zw (tJ (tJ (sJ (sJ (sI σ 44 n1) 42 j1) 43 j2) 75 f_26) 76 f_27)) := hD
                  exact ih_loop i_32 n1 j1 j2 f_26 f_27 H locs ls (by omega) (by omega) hg_28 hg_29 (by omega) hP hD hS (lv_sub hl [0, 1, 2, 3, 4] rfl)
                · have kc_31 : i_30.toInt ≠ 0 := by have h9 := c_31; simp only [ge_iff_le, gt_iff_lt, x_lt, x_le, x_eq, ne_eq, Int32.not_lt, Int32.not_le] at h9; simp only [Int32.reduceToInt] at h9; omega
                  refine lv_aload_n hx hb dX12_slopes_78 rfl (lv_at hl 4 rfl) ?_
                  refine lv_iload hx hb dX12_slopes_79 (lv_at hl 0 rfl) ?_
                  refine lv_iload_n hx hb dX12_slopes_81 rfl (lv_at hl 1 rfl) ?_
                  refine x_callvW (va_runV (As := [.int j, .int 0]) (rest := []) ⟨hx, hb, hml, hown, hts⟩ (q_slope0 l D y H.size ad zw (tJ (tJ (tJ (tJ (sJ (sJ (sI σ 44 n1) 42 j1) 43 j2) 75 f1) 76 f2) 75 f_26) 76 f_27) j (by first | omega | decide) (by first | omega | decide) (x_ne0 ei_30 kc_31) hop hg_28 hg_29 hB57 hB58) (cwV 2 hts g_q_slopes0_1 rfl rfl rfl (by decide +kernel) ⟨Nat.le_of_ble_eq_true rfl, Nat.le_of_ble_eq_true rfl⟩) (x_preV (q := (RX12, TX12, 85)) hK hP hD (ci := 11) (q0 := 0) rfl mwd_o0) rfl rfl hl.1 rfl (lv_room (Nat.le_of_ble_eq_true rfl)) dX12_slopes_82 ⟨Nat.le_of_ble_eq_true rfl, Nat.le_of_ble_eq_true rfl⟩) hP hD hS hA (fun u H locs hw hP hD hS => ?_)
                  obtain ⟨n_33, j_34, j_35, f_36, f_37⟩ := u
                  try dsimp only at hw
                  have hP : va_P D vwCl (mwd y ad zw (tJ (tJ (sJ (sJ (sI (tJ (tJ (tJ (tJ (sJ (sJ (sI σ 44 n1) 42 j1) 43 j2) 75 f1) 76 f2) 75 f_26) 76 f_27) 44 n_33) 42 j_34) 43 j_35) 75 f_36) 76 f_37)) H := hP
                  have hD : va_D A (mwd y ad zw (tJ (tJ (sJ (sJ (sI (tJ (tJ (tJ (tJ (sJ (sJ (sI σ 44 n1) 42 j1) 43 j2) 75 f1) 76 f2) 75 f_26) 76 f_27) 44 n_33) 42 j_34) 43 j_35) 75 f_36) 76 f_37)) := hD
                  have hw : (True) ∧ bJ f_36 (-1000000000) 1000000000 ∧ bJ f_37 0 1000000000 := hw
                  obtain ⟨hw, hg_38, hg_39⟩ := hw
                  obtain ⟨i_40, ei_40⟩ : ∃ z9 : Int32, z9 = j + 1 := ⟨_, rfl⟩
                  have vi_40 : i_40.toInt = j.toInt + 1 := by have h9 := x_add ei_40 (by omega) (by omega); omega
                  refine lv_iinc (v := i_40) (lv' := [(4, .int i_40), (3, .int 0), (2, .int i), (1, .int k), (0, .ref (ad 1))]) hx hb dX12_slopes_85 hl (k := 0) rfl (by rw [ei_40]; rfl) (by decide) rfl (fun ls hl => ?_)
                  refine lv_goto (tgt := 8) hx hb dX12_slopes_88 (by decide) ?_
                  have hP : va_P D vwCl (mwd y ad zw (tJ (tJ (sJ (sJ (sI σ 44 n_33) 42 j_34) 43 j_35) 75 f_36) 76 f_37)) H := hP
                  have hD : va_D A (mwd y ad zw (tJ (tJ (sJ (sJ (sI σ 44 n_33) 42 j_34) 43 j_35) 75 f_36) 76 f_37)) := hD
                  exact ih_loop i_40 n_33 j_34 j_35 f_36 f_37 H locs ls (by omega) (by omega) hg_38 hg_39 (by omega) hP hD hS (lv_sub hl [0, 1, 2, 3, 4] rfl)
              · have kc_25 : i_24.toInt = 0 := by have h9 := c_25; simp only [ge_iff_le, gt_iff_lt, x_lt, x_le, x_eq, ne_eq, Int32.not_lt, Int32.not_le] at h9; simp only [Int32.reduceToInt] at h9; omega
                refine lv_lconst (v := 1) hx hb dX12_slopes_59 (by decide) ?_
                refine lv_goto (tgt := 64) hx hb dX12_slopes_60 (by decide) ?_
                refine lv_lconst (v := 1) hx hb dX12_slopes_64 (by decide) ?_
                refine x_callvW (va_runV (As := [.int 0, .int j, .long 1, .long 1]) (rest := []) ⟨hx, hb, hml, hown, hts⟩ (q_lets0 l D y H.size ad zw (tJ (tJ (sJ (sJ (sI σ 44 n1) 42 j1) 43 j2) 75 f1) 76 f2) j 1 1 (by first | omega | decide) (by first | omega | decide) (by first | omega | decide) (by first | omega | decide) (by first | omega | decide) (by first | omega | decide) hf1 hf2) (cwV 4 hts g_q_slopes0_0 rfl rfl rfl (by decide +kernel) ⟨Nat.le_of_ble_eq_true rfl, Nat.le_of_ble_eq_true rfl⟩) (x_preV (q := (RX12, TX12, 85)) hK hP hD (ci := 11) (q0 := 0) rfl mwd_o0) rfl rfl hl.1 rfl (lv_room (Nat.le_of_ble_eq_true rfl)) dX12_slopes_65 ⟨Nat.le_of_ble_eq_true rfl, Nat.le_of_ble_eq_true rfl⟩) hP hD hS hA (fun u H locs hw hP hD hS => ?_)
                obtain ⟨f_41, f_42⟩ := u
                try dsimp only at hw
                have hP : va_P D vwCl (mwd y ad zw (tJ (tJ (tJ (tJ (sJ (sJ (sI σ 44 n1) 42 j1) 43 j2) 75 f1) 76 f2) 75 f_41) 76 f_42)) H := hP
                have hD : va_D A (mwd y ad zw (tJ (tJ (tJ (tJ (sJ (sJ (sI σ 44 n1) 42 j1) 43 j2) 75 f1) 76 f2) 75 f_41) 76 f_42)) := hD
                have hw : (True) ∧ bJ f_41 (-1000000000) 1000000000 ∧ bJ f_42 0 1000000000 := hw
                obtain ⟨hw, hg_43, hg_44⟩ := hw
                refine lv_aload_n hx hb dX12_slopes_68 rfl (lv_at hl 4 rfl) ?_
                refine va_get (D := D) (ci := 11) (v := .ref (ad 59)) (C := RX12) (T := TX12) (N := 85) hx hb hts inX12 hown hK hP 0 mwd_o0 rfl 59 (by decide) fl130 (fun _ h9 => h9) rfl dX12_slopes_69 ?_
                refine lv_iload hx hb dX12_slopes_72 (lv_at hl 0 rfl) ?_
                refine va_iald hx hb hK hP 39 2 mwd_a39 rfl (x_in (by omega) (by omega)) dX12_slopes_74 ?_
                refine lv_topi (fun i_45 ei_45 => ?_)
                have ei_45 : i_45 = (σ.2.2.1 59) (Int32.toNatClampNeg j) := ei_45
                refine lv_if_eq (tgt := 85) hx hb dX12_slopes_75 (by decide) (fun c_46 => ?_) (fun c_46 => ?_)
                · have kc_46 : i_45.toInt = 0 := by have h9 := c_46; simp only [ge_iff_le, gt_iff_lt, x_lt, x_le, x_eq, ne_eq, Int32.not_lt, Int32.not_le] at h9; simp only [Int32.reduceToInt] at h9; omega
                  obtain ⟨i_47, ei_47⟩ : ∃ z9 : Int32, z9 = j + 1 := ⟨_, rfl⟩
                  have vi_47 : i_47.toInt = j.toInt + 1 := by have h9 := x_add ei_47 (by omega) (by omega); omega
                  refine lv_iinc (v := i_47) (lv' := [(4, .int i_47), (3, .int 0), (2, .int i), (1, .int k), (0, .ref (ad 1))]) hx hb dX12_slopes_85 hl (k := 0) rfl (by rw [ei_47]; rfl) (by decide) rfl (fun ls hl => ?_)
                  refine lv_goto (tgt := 8) hx hb dX12_slopes_88 (by decide) ?_
                  have hP : va_P D vwCl (mwd y ad zw (tJ (tJ (sJ (sJ (sI σ 44 n1) 42 j1) 43 j2) 75 f_41) 76 f_42)) H := hP
                  have hD : va_D A (mwd y ad zw (tJ (tJ (sJ (sJ (sI σ 44 n1) 42 j1) 43 j2) 75 f_41) 76 f_42)) := hD
                  exact ih_loop i_47 n1 j1 j2 f_41 f_42 H locs ls (by omega) (by omega) hg_43 hg_44 (by omega) hP hD hS (lv_sub hl [0, 1, 2, 3, 4] rfl)
                · have kc_46 : i_45.toInt ≠ 0 := by have h9 := c_46; simp only [ge_iff_le, gt_iff_lt, x_lt, x_le, x_eq, ne_eq, Int32.not_lt, Int32.not_le] at h9; simp only [Int32.reduceToInt] at h9; omega
                  refine lv_aload_n hx hb dX12_slopes_78 rfl (lv_at hl 4 rfl) ?_
                  refine lv_iload hx hb dX12_slopes_79 (lv_at hl 0 rfl) ?_
                  refine lv_iload_n hx hb dX12_slopes_81 rfl (lv_at hl 1 rfl) ?_
                  refine x_callvW (va_runV (As := [.int j, .int 0]) (rest := []) ⟨hx, hb, hml, hown, hts⟩ (q_slope0 l D y H.size ad zw (tJ (tJ (tJ (tJ (sJ (sJ (sI σ 44 n1) 42 j1) 43 j2) 75 f1) 76 f2) 75 f_41) 76 f_42) j (by first | omega | decide) (by first | omega | decide) (x_ne0 ei_45 kc_46) hop hg_43 hg_44 hB57 hB58) (cwV 2 hts g_q_slopes0_1 rfl rfl rfl (by decide +kernel) ⟨Nat.le_of_ble_eq_true rfl, Nat.le_of_ble_eq_true rfl⟩) (x_preV (q := (RX12, TX12, 85)) hK hP hD (ci := 11) (q0 := 0) rfl mwd_o0) rfl rfl hl.1 rfl (lv_room (Nat.le_of_ble_eq_true rfl)) dX12_slopes_82 ⟨Nat.le_of_ble_eq_true rfl, Nat.le_of_ble_eq_true rfl⟩) hP hD hS hA (fun u H locs hw hP hD hS => ?_)
                  obtain ⟨n_48, j_49, j_50, f_51, f_52⟩ := u
                  try dsimp only at hw
                  have hP : va_P D vwCl (mwd y ad zw (tJ (tJ (sJ (sJ (sI (tJ (tJ (tJ (tJ (sJ (sJ (sI σ 44 n1) 42 j1) 43 j2) 75 f1) 76 f2) 75 f_41) 76 f_42) 44 n_48) 42 j_49) 43 j_50) 75 f_51) 76 f_52)) H := hP
                  have hD : va_D A (mwd y ad zw (tJ (tJ (sJ (sJ (sI (tJ (tJ (tJ (tJ (sJ (sJ (sI σ 44 n1) 42 j1) 43 j2) 75 f1) 76 f2) 75 f_41) 76 f_42) 44 n_48) 42 j_49) 43 j_50) 75 f_51) 76 f_52)) := hD
                  have hw : (True) ∧ bJ f_51 (-1000000000) 1000000000 ∧ bJ f_52 0 1000000000 := hw
                  obtain ⟨hw, hg_53, hg_54⟩ := hw
                  obtain ⟨i_55, ei_55⟩ : ∃ z9 : Int32, z9 = j + 1 := ⟨_, rfl⟩
                  have vi_55 : i_55.toInt = j.toInt + 1 := by have h9 := x_add ei_55 (by omega) (by omega); omega
                  refine lv_iinc (v := i_55) (lv' := [(4, .int i_55), (3, .int 0), (2, .int i), (1, .int k), (0, .ref (ad 1))]) hx hb dX12_slopes_85 hl (k := 0) rfl (by rw [ei_55]; rfl) (by decide) rfl (fun ls hl => ?_)
                  refine lv_goto (tgt := 8) hx hb dX12_slopes_88 (by decide) ?_
                  have hP : va_P D vwCl (mwd y ad zw (tJ (tJ (sJ (sJ (sI σ 44 n_48) 42 j_49) 43 j_50) 75 f_51) 76 f_52)) H := hP
                  have hD : va_D A (mwd y ad zw (tJ (tJ (sJ (sJ (sI σ 44 n_48) 42 j_49) 43 j_50) 75 f_51) 76 f_52)) := hD
                  exact ih_loop i_55 n_48 j_49 j_50 f_51 f_52 H locs ls (by omega) (by omega) hg_53 hg_54 (by omega) hP hD hS (lv_sub hl [0, 1, 2, 3, 4] rfl)
          · have kc_7 : i_6.toInt = 0 := by have h9 := c_7; simp only [ge_iff_le, gt_iff_lt, x_lt, x_le, x_eq, ne_eq, Int32.not_lt, Int32.not_le] at h9; simp only [Int32.reduceToInt] at h9; omega
            refine lv_goto (tgt := 85) hx hb dX12_slopes_36 (by decide) ?_
            obtain ⟨i_56, ei_56⟩ : ∃ z9 : Int32, z9 = j + 1 := ⟨_, rfl⟩
            have vi_56 : i_56.toInt = j.toInt + 1 := by have h9 := x_add ei_56 (by omega) (by omega); omega
            refine lv_iinc (v := i_56) (lv' := [(4, .int i_56), (3, .int 0), (2, .int i), (1, .int k), (0, .ref (ad 1))]) hx hb dX12_slopes_85 hl (k := 0) rfl (by rw [ei_56]; rfl) (by decide) rfl (fun ls hl => ?_)
            refine lv_goto (tgt := 8) hx hb dX12_slopes_88 (by decide) ?_
            exact ih_loop i_56 n1 j1 j2 f1 f2 H locs ls (by omega) (by omega) hf1 hf2 (by omega) hP hD hS (lv_sub hl [0, 1, 2, 3, 4] rfl)
  exact loop 1761 0 0 (σ.2.1 42) (σ.2.1 43) (σ.2.2.2 75) (σ.2.2.2 76) H locs ls (by decide) (by decide) hB75 hB76 (by omega) hP hD hS (lv_sub hl [0, 4, 3, 2, 1] rfl)

def v_q_slopes1 : List Cond := .code yX12_slopes cX12_slopes 5 (some .boolean) :: ([.fieldLink RX12 384 "SlopeRunnerModel" "isStuck" "Z", .fieldLink RX12 139 "SlopeRunnerModel" "laid" "[I", .fieldLink RX12 163 "SlopeRunnerModel" "hangs" "[Z", .fieldLink RX12 130 "SlopeRunnerModel" "op" "[I"] ++ ((wsV RX12 457 RX12 yX12_lets v_q_lets1) ++ ((wsV RX12 461 RX12 yX12_slope v_q_slope1) ++ wsX120)))
theorem g_q_slopes1_0 : GoodIn v_q_slopes1 (wsV RX12 457 RX12 yX12_lets v_q_lets1) := goodIn_sub (fun w h => List.mem_cons_of_mem _ (List.mem_append_right _ (List.mem_append_left _ h))) (by decide +kernel)
theorem g_q_slopes1_1 : GoodIn v_q_slopes1 (wsV RX12 461 RX12 yX12_slope v_q_slope1) := goodIn_sub (fun w h => List.mem_cons_of_mem _ (List.mem_append_right _ (List.mem_append_right _ (List.mem_append_left _ h)))) (by decide +kernel)
set_option maxHeartbeats 4000000 in
set_option maxRecDepth 100000 in
theorem q_slopes1 (l : Launch) (D : va_G) (y : Nat → ClassId) (sz : Nat) (ad : Nat → Nat) (zw : Nat → Nat → Int32) (σ : OS) (k i : Int32) (hop : opc (σ.2.2.1 59) (σ.2.2.1 60) (σ.2.2.1 61)) (hB75 : bJ (σ.2.2.2 75) (-1000000000) 1000000000) (hB76 : bJ (σ.2.2.2 76) 0 1000000000) (hB57 : bJ (σ.2.2.2 57) (-1000000000) 1000000000) (hB58 : bJ (σ.2.2.2 58) 0 1000000000) (hB62 : bI (σ.2.2.1 62) 0 1760) : Met l yX12_slopes v_q_slopes1 ({ frames := 5, cells := 0, slots := 0, locals := 144 } : Room) (va_Pc [.ref (ad 1), .int k, .int i, .int 1] (xPre D (xT y) (mwd y ad zw σ) sz)) (va_Qi (fun (r : Int32) (u : Int32 × Int64 × Int64 × (Nat → Int64) × (Nat → Int64)) => (r.toInt = 0 ∨ r.toInt = 1) ∧ bJ u.2.2.2.1 (-1000000000) 1000000000 ∧ bJ u.2.2.2.2 0 1000000000) (fun (u : Int32 × Int64 × Int64 × (Nat → Int64) × (Nat → Int64)) => xB D (xT y) (va_A (mwd y ad zw σ) sz) (mwd y ad zw (tJ (tJ (sJ (sJ (sI σ 44 u.1) 42 u.2.1) 43 u.2.2.1) 75 u.2.2.2.1) 76 u.2.2.2.2))) (va_A (mwd y ad zw σ) sz)) 0 0 (va_A (mwd y ad zw σ) sz) := by
  refine x_meti (cc := cX12_slopes) (maxL := 5) (by decide) rfl (Nat.le_of_ble_eq_true rfl) ?_
  intro p e s m below meth c A H locs Q hx hb hml hown hts hr hlocks hmn hA hP hK hD hS ls hl hQ
  have hl : lv_has ls 5 [(0, .ref (ad 1)), (1, .int k), (2, .int i), (3, .int 1)] := hl
  have fl384 := hts (.fieldLink RX12 384 "SlopeRunnerModel" "isStuck" "Z") (List.mem_of_getElem? (i := 1) rfl)
  have inX12 : ∀ w ∈ wsX120, w ∈ v_q_slopes1 := (fun w h => List.mem_cons_of_mem _ (List.mem_append_right _ (List.mem_append_right _ (List.mem_append_right _ h))))
  have fl139 := hts (.fieldLink RX12 139 "SlopeRunnerModel" "laid" "[I") (List.mem_of_getElem? (i := 2) rfl)
  have kk_0 : (0 : Int32).toInt = 0 := rfl
  have kk_1 : (1 : Int32).toInt = 1 := rfl
  have fl163 := hts (.fieldLink RX12 163 "SlopeRunnerModel" "hangs" "[Z") (List.mem_of_getElem? (i := 3) rfl)
  have kl_0 : (0 : Int64).toInt = 0 := rfl
  have kl_1 : (1 : Int64).toInt = 1 := rfl
  have fl130 := hts (.fieldLink RX12 130 "SlopeRunnerModel" "op" "[I") (List.mem_of_getElem? (i := 4) rfl)
  refine lv_aload_n hx hb dX12_slopes_0 rfl (lv_at hl 0 rfl) ?_
  refine lv_iconst (v := 0) hx hb dX12_slopes_1 (by decide) ?_
  refine va_put (D := D) (ci := 11) (v := .int 0) (ty := .boolean) (C := RX12) (T := TX12) (N := 85) hx hb hts inX12 tyX12 tyX12_ok nmX12 hown hK hP hD hS 0 mwd_o0 rfl 44 (by decide) fl384 (fun _ h9 => h9) rfl (by decide +kernel) rfl rfl (Nat.le_of_ble_eq_true rfl) dX12_slopes_2 (fun H locs hP hD hS => ?_)
  have hP : va_P D vwCl (mwd y ad zw (sI σ 44 0)) H := x_trP hP mwd_p0_44
  have hD : va_D A (mwd y ad zw (sI σ 44 0)) := x_trD hD mwd_p0_44
  refine lv_iconst (v := 0) hx hb dX12_slopes_5 (by decide) ?_
  refine lv_istore (lv' := [(4, .int 0), (0, .ref (ad 1)), (1, .int k), (2, .int i), (3, .int 1)]) hx hb dX12_slopes_6 hl (by decide) rfl (fun ls hl => ?_)
  have hP : va_P D vwCl (mwd y ad zw (tJ (tJ (sJ (sJ (sI σ 44 0) 42 (σ.2.1 42)) 43 (σ.2.1 43)) 75 (σ.2.2.2 75)) 76 (σ.2.2.2 76))) H := hP
  have hD : va_D A (mwd y ad zw (tJ (tJ (sJ (sJ (sI σ 44 0) 42 (σ.2.1 42)) 43 (σ.2.1 43)) 75 (σ.2.2.2 75)) 76 (σ.2.2.2 76))) := hD
  have loop : ∀ (fu : Nat) (j : Int32) (n1 : Int32) (j1 : Int64) (j2 : Int64) (f1 : Nat → Int64) (f2 : Nat → Int64) (H : Heap) (locs : List Loc) (ls : Array Slot), (0 ≤ j.toInt) → (j.toInt ≤ 1760) → (bJ f1 (-1000000000) 1000000000) → (bJ f2 0 1000000000) → (1760 - j.toInt < (fu : Int)) → va_P D vwCl (mwd y ad zw (tJ (tJ (sJ (sJ (sI σ 44 n1) 42 j1) 43 j2) 75 f1) 76 f2)) H → va_D A (mwd y ad zw (tJ (tJ (sJ (sJ (sI σ 44 n1) 42 j1) 43 j2) 75 f1) 76 f2)) → va_S A s.heap H locs → lv_has ls 5 [(4, .int j), (3, .int 1), (2, .int i), (1, .int k), (0, .ref (ad 1))] → W p l e ({ frames := 5, cells := 0, slots := 0, locals := 144 } : Room) s m ([.ref (ad 1), .int k, .int i, .int 1] : List Value).toArray below meth c H locs 0 0 Q (F0 m 8 ls []) := by
    intro fu
    induction fu with
    | zero =>
      intro j n1 j1 j2 f1 f2 H locs ls hj0 hj1 hf1 hf2 hm
      exact absurd hm (by omega)
    | succ fu ih_loop =>
      intro j n1 j1 j2 f1 f2 H locs ls hj0 hj1 hf1 hf2 hm hP hD hS hl
      refine lv_iload hx hb dX12_slopes_8 (lv_at hl 0 rfl) ?_
      refine lv_aload_n hx hb dX12_slopes_10 rfl (lv_at hl 4 rfl) ?_
      refine va_get (D := D) (ci := 11) (v := .ref (ad 62)) (C := RX12) (T := TX12) (N := 85) hx hb hts inX12 hown hK hP 0 mwd_o0 rfl 62 (by decide) fl139 (fun _ h9 => h9) rfl dX12_slopes_11 ?_
      refine lv_iconst (v := 0) hx hb dX12_slopes_14 (by decide) ?_
      refine va_iald hx hb hK hP 42 2 mwd_a42 rfl (x_in (by decide) (by decide)) dX12_slopes_15 ?_
      refine lv_topi (fun i_1 ei_1 => ?_)
      have ei_1 : i_1 = (σ.2.2.1 62) (Int32.toNatClampNeg 0) := ei_1
      have bi_1 := b_at hB62 ei_1
      refine lv_icmp_ge (tgt := 91) hx hb dX12_slopes_16 (by decide) (fun c_2 => ?_) (fun c_2 => ?_)
      · have kc_2 : j.toInt ≥ i_1.toInt := by have h9 := c_2; simp only [ge_iff_le, gt_iff_lt, x_lt, x_le, x_eq, ne_eq, Int32.not_lt, Int32.not_le] at h9; omega
        refine lv_aload_n hx hb dX12_slopes_91 rfl (lv_at hl 4 rfl) ?_
        refine va_get (D := D) (ci := 11) (v := .int n1) (C := RX12) (T := TX12) (N := 85) hx hb hts inX12 hown hK hP 0 mwd_o0 rfl 44 (by decide) fl384 (fun _ h9 => h9) rfl dX12_slopes_92 ?_
        refine lv_if_ne (tgt := 102) hx hb dX12_slopes_95 (by decide) (fun c_3 => ?_) (fun c_3 => ?_)
        · have kc_3 : n1.toInt ≠ 0 := by have h9 := c_3; simp only [ge_iff_le, gt_iff_lt, x_lt, x_le, x_eq, ne_eq, Int32.not_lt, Int32.not_le] at h9; simp only [Int32.reduceToInt] at h9; omega
          refine lv_iconst (v := 0) hx hb dX12_slopes_102 (by decide) ?_
          exact x_zretW (v := 0) (u := (n1, j1, j2, f1, f2)) hx hb hr hQ rfl (by (try dsimp only); exact ⟨(by omega), hf1, hf2⟩) hP hD hK hS dX12_slopes_103 hlocks
        · have kc_3 : n1.toInt = 0 := by have h9 := c_3; simp only [ge_iff_le, gt_iff_lt, x_lt, x_le, x_eq, ne_eq, Int32.not_lt, Int32.not_le] at h9; simp only [Int32.reduceToInt] at h9; omega
          refine lv_iconst (v := 1) hx hb dX12_slopes_98 (by decide) ?_
          refine lv_goto (tgt := 103) hx hb dX12_slopes_99 (by decide) ?_
          exact x_zretW (v := 1) (u := (n1, j1, j2, f1, f2)) hx hb hr hQ rfl (by (try dsimp only); exact ⟨(by omega), hf1, hf2⟩) hP hD hK hS dX12_slopes_103 hlocks
      · have kc_2 : j.toInt < i_1.toInt := by have h9 := c_2; simp only [ge_iff_le, gt_iff_lt, x_lt, x_le, x_eq, ne_eq, Int32.not_lt, Int32.not_le] at h9; omega
        refine lv_aload_n hx hb dX12_slopes_19 rfl (lv_at hl 4 rfl) ?_
        refine va_get (D := D) (ci := 11) (v := .int n1) (C := RX12) (T := TX12) (N := 85) hx hb hts inX12 hown hK hP 0 mwd_o0 rfl 44 (by decide) fl384 (fun _ h9 => h9) rfl dX12_slopes_20 ?_
        refine lv_if_ne (tgt := 91) hx hb dX12_slopes_23 (by decide) (fun c_4 => ?_) (fun c_4 => ?_)
        · have kc_4 : n1.toInt ≠ 0 := by have h9 := c_4; simp only [ge_iff_le, gt_iff_lt, x_lt, x_le, x_eq, ne_eq, Int32.not_lt, Int32.not_le] at h9; simp only [Int32.reduceToInt] at h9; omega
          refine lv_aload_n hx hb dX12_slopes_91 rfl (lv_at hl 4 rfl) ?_
          refine va_get (D := D) (ci := 11) (v := .int n1) (C := RX12) (T := TX12) (N := 85) hx hb hts inX12 hown hK hP 0 mwd_o0 rfl 44 (by decide) fl384 (fun _ h9 => h9) rfl dX12_slopes_92 ?_
          refine lv_if_ne (tgt := 102) hx hb dX12_slopes_95 (by decide) (fun c_5 => ?_) (fun c_5 => ?_)
          · have kc_5 : n1.toInt ≠ 0 := by have h9 := c_5; simp only [ge_iff_le, gt_iff_lt, x_lt, x_le, x_eq, ne_eq, Int32.not_lt, Int32.not_le] at h9; simp only [Int32.reduceToInt] at h9; omega
            refine lv_iconst (v := 0) hx hb dX12_slopes_102 (by decide) ?_
            exact x_zretW (v := 0) (u := (n1, j1, j2, f1, f2)) hx hb hr hQ rfl (by (try dsimp only); exact ⟨(by omega), hf1, hf2⟩) hP hD hK hS dX12_slopes_103 hlocks
          · have kc_5 : n1.toInt = 0 := by have h9 := c_5; simp only [ge_iff_le, gt_iff_lt, x_lt, x_le, x_eq, ne_eq, Int32.not_lt, Int32.not_le] at h9; simp only [Int32.reduceToInt] at h9; omega
            refine lv_iconst (v := 1) hx hb dX12_slopes_98 (by decide) ?_
            refine lv_goto (tgt := 103) hx hb dX12_slopes_99 (by decide) ?_
            exact x_zretW (v := 1) (u := (n1, j1, j2, f1, f2)) hx hb hr hQ rfl (by (try dsimp only); exact ⟨(by omega), hf1, hf2⟩) hP hD hK hS dX12_slopes_103 hlocks
        · have kc_4 : n1.toInt = 0 := by have h9 := c_4; simp only [ge_iff_le, gt_iff_lt, x_lt, x_le, x_eq, ne_eq, Int32.not_lt, Int32.not_le] at h9; simp only [Int32.reduceToInt] at h9; omega
          refine lv_aload_n hx hb dX12_slopes_26 rfl (lv_at hl 4 rfl) ?_
          refine va_get (D := D) (ci := 11) (v := .ref (ad 74)) (C := RX12) (T := TX12) (N := 85) hx hb hts inX12 hown hK hP 0 mwd_o0 rfl 74 (by decide) fl163 (fun _ h9 => h9) rfl dX12_slopes_27 ?_
          refine lv_iload hx hb dX12_slopes_30 (lv_at hl 0 rfl) ?_
          refine va_zald hx hb hK hP 50 4 mwd_a50 rfl (x_in (by omega) (by omega)) dX12_slopes_32 ?_
          refine lv_topi (fun i_6 ei_6 => ?_)
          have ei_6 : i_6 = (σ.2.2.1 74) (Int32.toNatClampNeg j) := ei_6
          refine lv_if_ne (tgt := 39) hx hb dX12_slopes_33 (by decide) (fun c_7 => ?_) (fun c_7 => ?_)
          · have kc_7 : i_6.toInt ≠ 0 := by have h9 := c_7; simp only [ge_iff_le, gt_iff_lt, x_lt, x_le, x_eq, ne_eq, Int32.not_lt, Int32.not_le] at h9; simp only [Int32.reduceToInt] at h9; omega
            refine lv_aload_n hx hb dX12_slopes_39 rfl (lv_at hl 4 rfl) ?_
            refine lv_iload_n hx hb dX12_slopes_40 rfl (lv_at hl 1 rfl) ?_
            refine lv_iload hx hb dX12_slopes_41 (lv_at hl 0 rfl) ?_
            refine lv_iload hx hb dX12_slopes_43 (lv_at hl 0 rfl) ?_
            refine lv_iload_n hx hb dX12_slopes_45 rfl (lv_at hl 2 rfl) ?_
            refine lv_icmp_ne (tgt := 63) hx hb dX12_slopes_46 (by decide) (fun c_8 => ?_) (fun c_8 => ?_)
            · have kc_8 : j.toInt ≠ i.toInt := by have h9 := c_8; simp only [ge_iff_le, gt_iff_lt, x_lt, x_le, x_eq, ne_eq, Int32.not_lt, Int32.not_le] at h9; omega
              refine lv_lconst (v := 0) hx hb dX12_slopes_63 (by decide) ?_
              refine lv_lconst (v := 1) hx hb dX12_slopes_64 (by decide) ?_
              refine x_callvW (va_runV (As := [.int 1, .int j, .long 0, .long 1]) (rest := []) ⟨hx, hb, hml, hown, hts⟩ (q_lets1 l D y H.size ad zw (tJ (tJ (sJ (sJ (sI σ 44 n1) 42 j1) 43 j2) 75 f1) 76 f2) j 0 1 (by first | omega | decide) (by first | omega | decide) (by first | omega | decide) (by first | omega | decide) (by first | omega | decide) (by first | omega | decide) hf1 hf2) (cwV 4 hts g_q_slopes1_0 rfl rfl rfl (by decide +kernel) ⟨Nat.le_of_ble_eq_true rfl, Nat.le_of_ble_eq_true rfl⟩) (x_preV (q := (RX12, TX12, 85)) hK hP hD (ci := 11) (q0 := 0) rfl mwd_o0) rfl rfl hl.1 rfl (lv_room (Nat.le_of_ble_eq_true rfl)) dX12_slopes_65 ⟨Nat.le_of_ble_eq_true rfl, Nat.le_of_ble_eq_true rfl⟩) hP hD hS hA (fun u H locs hw hP hD hS => ?_)
              obtain ⟨f_9, f_10⟩ := u
              try dsimp only at hw
              have hP : va_P D vwCl (mwd y ad zw (tJ (tJ (tJ (tJ (sJ (sJ (sI σ 44 n1) 42 j1) 43 j2) 75 f1) 76 f2) 75 f_9) 76 f_10)) H := hP
              have hD : va_D A (mwd y ad zw (tJ (tJ (tJ (tJ (sJ (sJ (sI σ 44 n1) 42 j1) 43 j2) 75 f1) 76 f2) 75 f_9) 76 f_10)) := hD
              have hw : (True) ∧ bJ f_9 (-1000000000) 1000000000 ∧ bJ f_10 0 1000000000 := hw
              obtain ⟨hw, hg_11, hg_12⟩ := hw
              refine lv_aload_n hx hb dX12_slopes_68 rfl (lv_at hl 4 rfl) ?_
              refine va_get (D := D) (ci := 11) (v := .ref (ad 59)) (C := RX12) (T := TX12) (N := 85) hx hb hts inX12 hown hK hP 0 mwd_o0 rfl 59 (by decide) fl130 (fun _ h9 => h9) rfl dX12_slopes_69 ?_
              refine lv_iload hx hb dX12_slopes_72 (lv_at hl 0 rfl) ?_
              refine va_iald hx hb hK hP 39 2 mwd_a39 rfl (x_in (by omega) (by omega)) dX12_slopes_74 ?_
              refine lv_topi (fun i_13 ei_13 => ?_)
              have ei_13 : i_13 = (σ.2.2.1 59) (Int32.toNatClampNeg j) := ei_13
              refine lv_if_eq (tgt := 85) hx hb dX12_slopes_75 (by decide) (fun c_14 => ?_) (fun c_14 => ?_)
              · have kc_14 : i_13.toInt = 0 := by have h9 := c_14; simp only [ge_iff_le, gt_iff_lt, x_lt, x_le, x_eq, ne_eq, Int32.not_lt, Int32.not_le] at h9; simp only [Int32.reduceToInt] at h9; omega
                obtain ⟨i_15, ei_15⟩ : ∃ z9 : Int32, z9 = j + 1 := ⟨_, rfl⟩
                have vi_15 : i_15.toInt = j.toInt + 1 := by have h9 := x_add ei_15 (by omega) (by omega); omega
                refine lv_iinc (v := i_15) (lv' := [(4, .int i_15), (3, .int 1), (2, .int i), (1, .int k), (0, .ref (ad 1))]) hx hb dX12_slopes_85 hl (k := 0) rfl (by rw [ei_15]; rfl) (by decide) rfl (fun ls hl => ?_)
                refine lv_goto (tgt := 8) hx hb dX12_slopes_88 (by decide) ?_
                have hP : va_P D vwCl (mwd y ad zw (tJ (tJ (sJ (sJ (sI σ 44 n1) 42 j1) 43 j2) 75 f_9) 76 f_10)) H := hP
                have hD : va_D A (mwd y ad zw (tJ (tJ (sJ (sJ (sI σ 44 n1) 42 j1) 43 j2) 75 f_9) 76 f_10)) := hD
                exact ih_loop i_15 n1 j1 j2 f_9 f_10 H locs ls (by omega) (by omega) hg_11 hg_12 (by omega) hP hD hS (lv_sub hl [0, 1, 2, 3, 4] rfl)
              · have kc_14 : i_13.toInt ≠ 0 := by have h9 := c_14; simp only [ge_iff_le, gt_iff_lt, x_lt, x_le, x_eq, ne_eq, Int32.not_lt, Int32.not_le] at h9; simp only [Int32.reduceToInt] at h9; omega
                refine lv_aload_n hx hb dX12_slopes_78 rfl (lv_at hl 4 rfl) ?_
                refine lv_iload hx hb dX12_slopes_79 (lv_at hl 0 rfl) ?_
                refine lv_iload_n hx hb dX12_slopes_81 rfl (lv_at hl 1 rfl) ?_
                refine x_callvW (va_runV (As := [.int j, .int 1]) (rest := []) ⟨hx, hb, hml, hown, hts⟩ (q_slope1 l D y H.size ad zw (tJ (tJ (tJ (tJ (sJ (sJ (sI σ 44 n1) 42 j1) 43 j2) 75 f1) 76 f2) 75 f_9) 76 f_10) j (by first | omega | decide) (by first | omega | decide) (x_ne0 ei_13 kc_14) hop hg_11 hg_12 hB57 hB58) (cwV 2 hts g_q_slopes1_1 rfl rfl rfl (by decide +kernel) ⟨Nat.le_of_ble_eq_true rfl, Nat.le_of_ble_eq_true rfl⟩) (x_preV (q := (RX12, TX12, 85)) hK hP hD (ci := 11) (q0 := 0) rfl mwd_o0) rfl rfl hl.1 rfl (lv_room (Nat.le_of_ble_eq_true rfl)) dX12_slopes_82 ⟨Nat.le_of_ble_eq_true rfl, Nat.le_of_ble_eq_true rfl⟩) hP hD hS hA (fun u H locs hw hP hD hS => ?_)
                obtain ⟨n_16, j_17, j_18, f_19, f_20⟩ := u
                try dsimp only at hw
                have hP : va_P D vwCl (mwd y ad zw (tJ (tJ (sJ (sJ (sI (tJ (tJ (tJ (tJ (sJ (sJ (sI σ 44 n1) 42 j1) 43 j2) 75 f1) 76 f2) 75 f_9) 76 f_10) 44 n_16) 42 j_17) 43 j_18) 75 f_19) 76 f_20)) H := hP
                have hD : va_D A (mwd y ad zw (tJ (tJ (sJ (sJ (sI (tJ (tJ (tJ (tJ (sJ (sJ (sI σ 44 n1) 42 j1) 43 j2) 75 f1) 76 f2) 75 f_9) 76 f_10) 44 n_16) 42 j_17) 43 j_18) 75 f_19) 76 f_20)) := hD
                have hw : (True) ∧ bJ f_19 (-1000000000) 1000000000 ∧ bJ f_20 0 1000000000 := hw
                obtain ⟨hw, hg_21, hg_22⟩ := hw
                obtain ⟨i_23, ei_23⟩ : ∃ z9 : Int32, z9 = j + 1 := ⟨_, rfl⟩
                have vi_23 : i_23.toInt = j.toInt + 1 := by have h9 := x_add ei_23 (by omega) (by omega); omega
                refine lv_iinc (v := i_23) (lv' := [(4, .int i_23), (3, .int 1), (2, .int i), (1, .int k), (0, .ref (ad 1))]) hx hb dX12_slopes_85 hl (k := 0) rfl (by rw [ei_23]; rfl) (by decide) rfl (fun ls hl => ?_)
                refine lv_goto (tgt := 8) hx hb dX12_slopes_88 (by decide) ?_
                have hP : va_P D vwCl (mwd y ad zw (tJ (tJ (sJ (sJ (sI σ 44 n_16) 42 j_17) 43 j_18) 75 f_19) 76 f_20)) H := hP
                have hD : va_D A (mwd y ad zw (tJ (tJ (sJ (sJ (sI σ 44 n_16) 42 j_17) 43 j_18) 75 f_19) 76 f_20)) := hD
                exact ih_loop i_23 n_16 j_17 j_18 f_19 f_20 H locs ls (by omega) (by omega) hg_21 hg_22 (by omega) hP hD hS (lv_sub hl [0, 1, 2, 3, 4] rfl)
            · have kc_8 : j.toInt = i.toInt := by have h9 := c_8; simp only [ge_iff_le, gt_iff_lt, x_lt, x_le, x_eq, ne_eq, Int32.not_lt, Int32.not_le] at h9; omega
              refine lv_aload_n hx hb dX12_slopes_49 rfl (lv_at hl 4 rfl) ?_
              refine va_get (D := D) (ci := 11) (v := .ref (ad 59)) (C := RX12) (T := TX12) (N := 85) hx hb hts inX12 hown hK hP 0 mwd_o0 rfl 59 (by decide) fl130 (fun _ h9 => h9) rfl dX12_slopes_50 ?_
              refine lv_iload hx hb dX12_slopes_53 (lv_at hl 0 rfl) ?_
              refine va_iald hx hb hK hP 39 2 mwd_a39 rfl (x_in (by omega) (by omega)) dX12_slopes_55 ?_
              refine lv_topi (fun i_24 ei_24 => ?_)
              have ei_24 : i_24 = (σ.2.2.1 59) (Int32.toNatClampNeg j) := ei_24
              refine lv_if_ne (tgt := 63) hx hb dX12_slopes_56 (by decide) (fun c_25 => ?_) (fun c_25 => ?_)
              · have kc_25 : i_24.toInt ≠ 0 := by have h9 := c_25; simp only [ge_iff_le, gt_iff_lt, x_lt, x_le, x_eq, ne_eq, Int32.not_lt, Int32.not_le] at h9; simp only [Int32.reduceToInt] at h9; omega
                refine lv_lconst (v := 0) hx hb dX12_slopes_63 (by decide) ?_
                refine lv_lconst (v := 1) hx hb dX12_slopes_64 (by decide) ?_
                refine x_callvW (va_runV (As := [.int 1, .int j, .long 0, .long 1]) (rest := []) ⟨hx, hb, hml, hown, hts⟩ (q_lets1 l D y H.size ad zw (tJ (tJ (sJ (sJ (sI σ 44 n1) 42 j1) 43 j2) 75 f1) 76 f2) j 0 1 (by first | omega | decide) (by first | omega | decide) (by first | omega | decide) (by first | omega | decide) (by first | omega | decide) (by first | omega | decide) hf1 hf2) (cwV 4 hts g_q_slopes1_0 rfl rfl rfl (by decide +kernel) ⟨Nat.le_of_ble_eq_true rfl, Nat.le_of_ble_eq_true rfl⟩) (x_preV (q := (RX12, TX12, 85)) hK hP hD (ci := 11) (q0 := 0) rfl mwd_o0) rfl rfl hl.1 rfl (lv_room (Nat.le_of_ble_eq_true rfl)) dX12_slopes_65 ⟨Nat.le_of_ble_eq_true rfl, Nat.le_of_ble_eq_true rfl⟩) hP hD hS hA (fun u H locs hw hP hD hS => ?_)
                obtain ⟨f_26, f_27⟩ := u
                try dsimp only at hw
                have hP : va_P D vwCl (mwd y ad zw (tJ (tJ (tJ (tJ (sJ (sJ (sI σ 44 n1) 42 j1) 43 j2) 75 f1) 76 f2) 75 f_26) 76 f_27)) H := hP
                have hD : va_D A (mwd y ad zw (tJ (tJ (tJ (tJ (sJ (sJ (sI σ 44 n1) 42 j1) 43 j2) 75 f1) 76 f2) 75 f_26) 76 f_27)) := hD
                have hw : (True) ∧ bJ f_26 (-1000000000) 1000000000 ∧ bJ f_27 0 1000000000 := hw
                obtain ⟨hw, hg_28, hg_29⟩ := hw
                refine lv_aload_n hx hb dX12_slopes_68 rfl (lv_at hl 4 rfl) ?_
                refine va_get (D := D) (ci := 11) (v := .ref (ad 59)) (C := RX12) (T := TX12) (N := 85) hx hb hts inX12 hown hK hP 0 mwd_o0 rfl 59 (by decide) fl130 (fun _ h9 => h9) rfl dX12_slopes_69 ?_
                refine lv_iload hx hb dX12_slopes_72 (lv_at hl 0 rfl) ?_
                refine va_iald hx hb hK hP 39 2 mwd_a39 rfl (x_in (by omega) (by omega)) dX12_slopes_74 ?_
                refine lv_topi (fun i_30 ei_30 => ?_)
                have ei_30 : i_30 = (σ.2.2.1 59) (Int32.toNatClampNeg j) := ei_30
                refine lv_if_eq (tgt := 85) hx hb dX12_slopes_75 (by decide) (fun c_31 => ?_) (fun c_31 => ?_)
                · have kc_31 : i_30.toInt = 0 := by have h9 := c_31; simp only [ge_iff_le, gt_iff_lt, x_lt, x_le, x_eq, ne_eq, Int32.not_lt, Int32.not_le] at h9; simp only [Int32.reduceToInt] at h9; omega
                  obtain ⟨i_32, ei_32⟩ : ∃ z9 : Int32, z9 = j + 1 := ⟨_, rfl⟩
                  have vi_32 : i_32.toInt = j.toInt + 1 := by have h9 := x_add ei_32 (by omega) (by omega); omega
                  refine lv_iinc (v := i_32) (lv' := [(4, .int i_32), (3, .int 1), (2, .int i), (1, .int k), (0, .ref (ad 1))]) hx hb dX12_slopes_85 hl (k := 0) rfl (by rw [ei_32]; rfl) (by decide) rfl (fun ls hl => ?_)
                  refine lv_goto (tgt := 8) hx hb dX12_slopes_88 (by decide) ?_
                  have hP : va_P D vwCl (mwd y ad zw (tJ (tJ (sJ (sJ (sI σ 44 n1) 42 j1) 43 j2) 75 f_26) 76 f_27)) H := hP
                  have hD : va_D A (mwd y ad zw (tJ (tJ (sJ (sJ (sI σ 44 n1) 42 j1) 43 j2) 75 f_26) 76 f_27)) := hD
                  exact ih_loop i_32 n1 j1 j2 f_26 f_27 H locs ls (by omega) (by omega) hg_28 hg_29 (by omega) hP hD hS (lv_sub hl [0, 1, 2, 3, 4] rfl)
                · have kc_31 : i_30.toInt ≠ 0 := by have h9 := c_31; simp only [ge_iff_le, gt_iff_lt, x_lt, x_le, x_eq, ne_eq, Int32.not_lt, Int32.not_le] at h9; simp only [Int32.reduceToInt] at h9; omega
                  refine lv_aload_n hx hb dX12_slopes_78 rfl (lv_at hl 4 rfl) ?_
                  refine lv_iload hx hb dX12_slopes_79 (lv_at hl 0 rfl) ?_
                  refine lv_iload_n hx hb dX12_slopes_81 rfl (lv_at hl 1 rfl) ?_
                  refine x_callvW (va_runV (As := [.int j, .int 1]) (rest := []) ⟨hx, hb, hml, hown, hts⟩ (q_slope1 l D y H.size ad zw (tJ (tJ (tJ (tJ (sJ (sJ (sI σ 44 n1) 42 j1) 43 j2) 75 f1) 76 f2) 75 f_26) 76 f_27) j (by first | omega | decide) (by first | omega | decide) (x_ne0 ei_30 kc_31) hop hg_28 hg_29 hB57 hB58) (cwV 2 hts g_q_slopes1_1 rfl rfl rfl (by decide +kernel) ⟨Nat.le_of_ble_eq_true rfl, Nat.le_of_ble_eq_true rfl⟩) (x_preV (q := (RX12, TX12, 85)) hK hP hD (ci := 11) (q0 := 0) rfl mwd_o0) rfl rfl hl.1 rfl (lv_room (Nat.le_of_ble_eq_true rfl)) dX12_slopes_82 ⟨Nat.le_of_ble_eq_true rfl, Nat.le_of_ble_eq_true rfl⟩) hP hD hS hA (fun u H locs hw hP hD hS => ?_)
                  obtain ⟨n_33, j_34, j_35, f_36, f_37⟩ := u
                  try dsimp only at hw
                  have hP : va_P D vwCl (mwd y ad zw (tJ (tJ (sJ (sJ (sI (tJ (tJ (tJ (tJ (sJ (sJ (sI σ 44 n1) 42 j1) 43 j2) 75 f1) 76 f2) 75 f_26) 76 f_27) 44 n_33) 42 j_34) 43 j_35) 75 f_36) 76 f_37)) H := hP
                  have hD : va_D A (mwd y ad zw (tJ (tJ (sJ (sJ (sI (tJ (tJ (tJ (tJ (sJ (sJ (sI σ 44 n1) 42 j1) 43 j2) 75 f1) 76 f2) 75 f_26) 76 f_27) 44 n_33) 42 j_34) 43 j_35) 75 f_36) 76 f_37)) := hD
                  have hw : (True) ∧ bJ f_36 (-1000000000) 1000000000 ∧ bJ f_37 0 1000000000 := hw
                  obtain ⟨hw, hg_38, hg_39⟩ := hw
                  obtain ⟨i_40, ei_40⟩ : ∃ z9 : Int32, z9 = j + 1 := ⟨_, rfl⟩
                  have vi_40 : i_40.toInt = j.toInt + 1 := by have h9 := x_add ei_40 (by omega) (by omega); omega
                  refine lv_iinc (v := i_40) (lv' := [(4, .int i_40), (3, .int 1), (2, .int i), (1, .int k), (0, .ref (ad 1))]) hx hb dX12_slopes_85 hl (k := 0) rfl (by rw [ei_40]; rfl) (by decide) rfl (fun ls hl => ?_)
                  refine lv_goto (tgt := 8) hx hb dX12_slopes_88 (by decide) ?_
                  have hP : va_P D vwCl (mwd y ad zw (tJ (tJ (sJ (sJ (sI σ 44 n_33) 42 j_34) 43 j_35) 75 f_36) 76 f_37)) H := hP
                  have hD : va_D A (mwd y ad zw (tJ (tJ (sJ (sJ (sI σ 44 n_33) 42 j_34) 43 j_35) 75 f_36) 76 f_37)) := hD
                  exact ih_loop i_40 n_33 j_34 j_35 f_36 f_37 H locs ls (by omega) (by omega) hg_38 hg_39 (by omega) hP hD hS (lv_sub hl [0, 1, 2, 3, 4] rfl)
              · have kc_25 : i_24.toInt = 0 := by have h9 := c_25; simp only [ge_iff_le, gt_iff_lt, x_lt, x_le, x_eq, ne_eq, Int32.not_lt, Int32.not_le] at h9; simp only [Int32.reduceToInt] at h9; omega
                refine lv_lconst (v := 1) hx hb dX12_slopes_59 (by decide) ?_
                refine lv_goto (tgt := 64) hx hb dX12_slopes_60 (by decide) ?_
                refine lv_lconst (v := 1) hx hb dX12_slopes_64 (by decide) ?_
                refine x_callvW (va_runV (As := [.int 1, .int j, .long 1, .long 1]) (rest := []) ⟨hx, hb, hml, hown, hts⟩ (q_lets1 l D y H.size ad zw (tJ (tJ (sJ (sJ (sI σ 44 n1) 42 j1) 43 j2) 75 f1) 76 f2) j 1 1 (by first | omega | decide) (by first | omega | decide) (by first | omega | decide) (by first | omega | decide) (by first | omega | decide) (by first | omega | decide) hf1 hf2) (cwV 4 hts g_q_slopes1_0 rfl rfl rfl (by decide +kernel) ⟨Nat.le_of_ble_eq_true rfl, Nat.le_of_ble_eq_true rfl⟩) (x_preV (q := (RX12, TX12, 85)) hK hP hD (ci := 11) (q0 := 0) rfl mwd_o0) rfl rfl hl.1 rfl (lv_room (Nat.le_of_ble_eq_true rfl)) dX12_slopes_65 ⟨Nat.le_of_ble_eq_true rfl, Nat.le_of_ble_eq_true rfl⟩) hP hD hS hA (fun u H locs hw hP hD hS => ?_)
                obtain ⟨f_41, f_42⟩ := u
                try dsimp only at hw
                have hP : va_P D vwCl (mwd y ad zw (tJ (tJ (tJ (tJ (sJ (sJ (sI σ 44 n1) 42 j1) 43 j2) 75 f1) 76 f2) 75 f_41) 76 f_42)) H := hP
                have hD : va_D A (mwd y ad zw (tJ (tJ (tJ (tJ (sJ (sJ (sI σ 44 n1) 42 j1) 43 j2) 75 f1) 76 f2) 75 f_41) 76 f_42)) := hD
                have hw : (True) ∧ bJ f_41 (-1000000000) 1000000000 ∧ bJ f_42 0 1000000000 := hw
                obtain ⟨hw, hg_43, hg_44⟩ := hw
                refine lv_aload_n hx hb dX12_slopes_68 rfl (lv_at hl 4 rfl) ?_
                refine va_get (D := D) (ci := 11) (v := .ref (ad 59)) (C := RX12) (T := TX12) (N := 85) hx hb hts inX12 hown hK hP 0 mwd_o0 rfl 59 (by decide) fl130 (fun _ h9 => h9) rfl dX12_slopes_69 ?_
                refine lv_iload hx hb dX12_slopes_72 (lv_at hl 0 rfl) ?_
                refine va_iald hx hb hK hP 39 2 mwd_a39 rfl (x_in (by omega) (by omega)) dX12_slopes_74 ?_
                refine lv_topi (fun i_45 ei_45 => ?_)
                have ei_45 : i_45 = (σ.2.2.1 59) (Int32.toNatClampNeg j) := ei_45
                refine lv_if_eq (tgt := 85) hx hb dX12_slopes_75 (by decide) (fun c_46 => ?_) (fun c_46 => ?_)
                · have kc_46 : i_45.toInt = 0 := by have h9 := c_46; simp only [ge_iff_le, gt_iff_lt, x_lt, x_le, x_eq, ne_eq, Int32.not_lt, Int32.not_le] at h9; simp only [Int32.reduceToInt] at h9; omega
                  obtain ⟨i_47, ei_47⟩ : ∃ z9 : Int32, z9 = j + 1 := ⟨_, rfl⟩
                  have vi_47 : i_47.toInt = j.toInt + 1 := by have h9 := x_add ei_47 (by omega) (by omega); omega
                  refine lv_iinc (v := i_47) (lv' := [(4, .int i_47), (3, .int 1), (2, .int i), (1, .int k), (0, .ref (ad 1))]) hx hb dX12_slopes_85 hl (k := 0) rfl (by rw [ei_47]; rfl) (by decide) rfl (fun ls hl => ?_)
                  refine lv_goto (tgt := 8) hx hb dX12_slopes_88 (by decide) ?_
                  have hP : va_P D vwCl (mwd y ad zw (tJ (tJ (sJ (sJ (sI σ 44 n1) 42 j1) 43 j2) 75 f_41) 76 f_42)) H := hP
                  have hD : va_D A (mwd y ad zw (tJ (tJ (sJ (sJ (sI σ 44 n1) 42 j1) 43 j2) 75 f_41) 76 f_42)) := hD
                  exact ih_loop i_47 n1 j1 j2 f_41 f_42 H locs ls (by omega) (by omega) hg_43 hg_44 (by omega) hP hD hS (lv_sub hl [0, 1, 2, 3, 4] rfl)
                · have kc_46 : i_45.toInt ≠ 0 := by have h9 := c_46; simp only [ge_iff_le, gt_iff_lt, x_lt, x_le, x_eq, ne_eq, Int32.not_lt, Int32.not_le] at h9; simp only [Int32.reduceToInt] at h9; omega
                  refine lv_aload_n hx hb dX12_slopes_78 rfl (lv_at hl 4 rfl) ?_
                  refine lv_iload hx hb dX12_slopes_79 (lv_at hl 0 rfl) ?_
                  refine lv_iload_n hx hb dX12_slopes_81 rfl (lv_at hl 1 rfl) ?_
                  refine x_callvW (va_runV (As := [.int j, .int 1]) (rest := []) ⟨hx, hb, hml, hown, hts⟩ (q_slope1 l D y H.size ad zw (tJ (tJ (tJ (tJ (sJ (sJ (sI σ 44 n1) 42 j1) 43 j2) 75 f1) 76 f2) 75 f_41) 76 f_42) j (by first | omega | decide) (by first | omega | decide) (x_ne0 ei_45 kc_46) hop hg_43 hg_44 hB57 hB58) (cwV 2 hts g_q_slopes1_1 rfl rfl rfl (by decide +kernel) ⟨Nat.le_of_ble_eq_true rfl, Nat.le_of_ble_eq_true rfl⟩) (x_preV (q := (RX12, TX12, 85)) hK hP hD (ci := 11) (q0 := 0) rfl mwd_o0) rfl rfl hl.1 rfl (lv_room (Nat.le_of_ble_eq_true rfl)) dX12_slopes_82 ⟨Nat.le_of_ble_eq_true rfl, Nat.le_of_ble_eq_true rfl⟩) hP hD hS hA (fun u H locs hw hP hD hS => ?_)
                  obtain ⟨n_48, j_49, j_50, f_51, f_52⟩ := u
                  try dsimp only at hw
                  have hP : va_P D vwCl (mwd y ad zw (tJ (tJ (sJ (sJ (sI (tJ (tJ (tJ (tJ (sJ (sJ (sI σ 44 n1) 42 j1) 43 j2) 75 f1) 76 f2) 75 f_41) 76 f_42) 44 n_48) 42 j_49) 43 j_50) 75 f_51) 76 f_52)) H := hP
                  have hD : va_D A (mwd y ad zw (tJ (tJ (sJ (sJ (sI (tJ (tJ (tJ (tJ (sJ (sJ (sI σ 44 n1) 42 j1) 43 j2) 75 f1) 76 f2) 75 f_41) 76 f_42) 44 n_48) 42 j_49) 43 j_50) 75 f_51) 76 f_52)) := hD
                  have hw : (True) ∧ bJ f_51 (-1000000000) 1000000000 ∧ bJ f_52 0 1000000000 := hw
                  obtain ⟨hw, hg_53, hg_54⟩ := hw
                  obtain ⟨i_55, ei_55⟩ : ∃ z9 : Int32, z9 = j + 1 := ⟨_, rfl⟩
                  have vi_55 : i_55.toInt = j.toInt + 1 := by have h9 := x_add ei_55 (by omega) (by omega); omega
                  refine lv_iinc (v := i_55) (lv' := [(4, .int i_55), (3, .int 1), (2, .int i), (1, .int k), (0, .ref (ad 1))]) hx hb dX12_slopes_85 hl (k := 0) rfl (by rw [ei_55]; rfl) (by decide) rfl (fun ls hl => ?_)
                  refine lv_goto (tgt := 8) hx hb dX12_slopes_88 (by decide) ?_
                  have hP : va_P D vwCl (mwd y ad zw (tJ (tJ (sJ (sJ (sI σ 44 n_48) 42 j_49) 43 j_50) 75 f_51) 76 f_52)) H := hP
                  have hD : va_D A (mwd y ad zw (tJ (tJ (sJ (sJ (sI σ 44 n_48) 42 j_49) 43 j_50) 75 f_51) 76 f_52)) := hD
                  exact ih_loop i_55 n_48 j_49 j_50 f_51 f_52 H locs ls (by omega) (by omega) hg_53 hg_54 (by omega) hP hD hS (lv_sub hl [0, 1, 2, 3, 4] rfl)
          · have kc_7 : i_6.toInt = 0 := by have h9 := c_7; simp only [ge_iff_le, gt_iff_lt, x_lt, x_le, x_eq, ne_eq, Int32.not_lt, Int32.not_le] at h9; simp only [Int32.reduceToInt] at h9; omega
            refine lv_goto (tgt := 85) hx hb dX12_slopes_36 (by decide) ?_
            obtain ⟨i_56, ei_56⟩ : ∃ z9 : Int32, z9 = j + 1 := ⟨_, rfl⟩
            have vi_56 : i_56.toInt = j.toInt + 1 := by have h9 := x_add ei_56 (by omega) (by omega); omega
            refine lv_iinc (v := i_56) (lv' := [(4, .int i_56), (3, .int 1), (2, .int i), (1, .int k), (0, .ref (ad 1))]) hx hb dX12_slopes_85 hl (k := 0) rfl (by rw [ei_56]; rfl) (by decide) rfl (fun ls hl => ?_)
            refine lv_goto (tgt := 8) hx hb dX12_slopes_88 (by decide) ?_
            exact ih_loop i_56 n1 j1 j2 f1 f2 H locs ls (by omega) (by omega) hf1 hf2 (by omega) hP hD hS (lv_sub hl [0, 1, 2, 3, 4] rfl)
  exact loop 1761 0 0 (σ.2.1 42) (σ.2.1 43) (σ.2.2.2 75) (σ.2.2.2 76) H locs ls (by decide) (by decide) hB75 hB76 (by omega) hP hD hS (lv_sub hl [0, 4, 3, 2, 1] rfl)

