theorem MK_top {w : Nat → Int32} {b n n' : Nat} {q : Int} (h : MK w b n q) (hq : q ≠ -1) (hb : b ≤ n') (hn : n' ≤ n) (ht : n' = b ∨ (20 ≤ (w (n' - 1)).toInt ∧ (w (n' - 1)).toInt < 30)) (hd : ∀ j, n' ≤ j → j < n → ¬ (20 ≤ (w j).toInt ∧ (w j).toInt < 30)) : b < n' ∧ (w (n' - 1)).toInt = q := by
  rcases h with ⟨h, _⟩ | ⟨k, h1, h2, h3, h4, h5, h6⟩
  · exact absurd h hq
  · have hk : k < n' := Nat.lt_of_not_le (fun e => hd k e h2 ⟨by omega, by omega⟩)
    refine ⟨by omega, ?_⟩
    have hb2 : n' ≠ b := by omega
    have ht2 := ht.resolve_left hb2
    have e : n' - 1 = k := by
      by_cases e : n' - 1 = k
      · exact e
      · exact absurd ht2 (h6 (n' - 1) (by omega) (by omega))
    rw [e]; exact h3
theorem ES_on {f0 f w0 w : Nat → Int32} {c0 c b n d : Nat} {X op o0 : Int} (h : ES f0 f w0 w c0 c b n d X op o0) (hlo : ∀ k, k < b → ¬ (1 ≤ (w0 k).toInt ∧ (w0 k).toInt ≤ 4)) (hn : 1 ≤ n) (ht : 1 ≤ (w (n - 1)).toInt ∧ (w (n - 1)).toInt ≤ 4) : b < n := by
  have h1 := h.1.2.1
  by_cases e : b < n
  · exact e
  · have e2 : n = b := by omega
    exact absurd (by rw [← h.2.2.2.1 (n - 1) (by omega)]; exact ht) (hlo (n - 1) (by omega))

theorem dX12_goesOn_0 : decode cX12_goesOn 0 = .ok (.aload_n 0, 1) := by decide +kernel
theorem dX12_goesOn_1 : decode cX12_goesOn 1 = .ok (.getfield 191, 3) := by decide +kernel
theorem dX12_goesOn_4 : decode cX12_goesOn 4 = .ok (.ifCond .ne 111, 3) := by decide +kernel
theorem dX12_goesOn_7 : decode cX12_goesOn 7 = .ok (.aload_n 0, 1) := by decide +kernel
theorem dX12_goesOn_8 : decode cX12_goesOn 8 = .ok (.invokevirtual 302, 3) := by decide +kernel
theorem dX12_goesOn_11 : decode cX12_goesOn 11 = .ok (.ifCond .eq 104, 3) := by decide +kernel
theorem dX12_goesOn_14 : decode cX12_goesOn 14 = .ok (.aload_n 0, 1) := by decide +kernel
theorem dX12_goesOn_15 : decode cX12_goesOn 15 = .ok (.dup, 1) := by decide +kernel
theorem dX12_goesOn_16 : decode cX12_goesOn 16 = .ok (.getfield 197, 3) := by decide +kernel
theorem dX12_goesOn_19 : decode cX12_goesOn 19 = .ok (.iconst 1, 1) := by decide +kernel
theorem dX12_goesOn_20 : decode cX12_goesOn 20 = .ok (.iadd, 1) := by decide +kernel
theorem dX12_goesOn_21 : decode cX12_goesOn 21 = .ok (.putfield 197, 3) := by decide +kernel
theorem dX12_goesOn_24 : decode cX12_goesOn 24 = .ok (.aload_n 0, 1) := by decide +kernel
theorem dX12_goesOn_25 : decode cX12_goesOn 25 = .ok (.invokevirtual 305, 3) := by decide +kernel
theorem dX12_goesOn_28 : decode cX12_goesOn 28 = .ok (.aload_n 0, 1) := by decide +kernel
theorem dX12_goesOn_29 : decode cX12_goesOn 29 = .ok (.dup, 1) := by decide +kernel
theorem dX12_goesOn_30 : decode cX12_goesOn 30 = .ok (.getfield 263, 3) := by decide +kernel
theorem dX12_goesOn_33 : decode cX12_goesOn 33 = .ok (.iconst 1, 1) := by decide +kernel
theorem dX12_goesOn_34 : decode cX12_goesOn 34 = .ok (.isub, 1) := by decide +kernel
theorem dX12_goesOn_35 : decode cX12_goesOn 35 = .ok (.putfield 263, 3) := by decide +kernel
theorem dX12_goesOn_38 : decode cX12_goesOn 38 = .ok (.aload_n 0, 1) := by decide +kernel
theorem dX12_goesOn_39 : decode cX12_goesOn 39 = .ok (.dup, 1) := by decide +kernel
theorem dX12_goesOn_40 : decode cX12_goesOn 40 = .ok (.getfield 260, 3) := by decide +kernel
theorem dX12_goesOn_43 : decode cX12_goesOn 43 = .ok (.iconst 1, 1) := by decide +kernel
theorem dX12_goesOn_44 : decode cX12_goesOn 44 = .ok (.isub, 1) := by decide +kernel
theorem dX12_goesOn_45 : decode cX12_goesOn 45 = .ok (.putfield 260, 3) := by decide +kernel
theorem dX12_goesOn_48 : decode cX12_goesOn 48 = .ok (.aload_n 0, 1) := by decide +kernel
theorem dX12_goesOn_49 : decode cX12_goesOn 49 = .ok (.getfield 75, 3) := by decide +kernel
theorem dX12_goesOn_52 : decode cX12_goesOn 52 = .ok (.aload_n 0, 1) := by decide +kernel
theorem dX12_goesOn_53 : decode cX12_goesOn 53 = .ok (.getfield 263, 3) := by decide +kernel
theorem dX12_goesOn_56 : decode cX12_goesOn 56 = .ok (.iaload, 1) := by decide +kernel
theorem dX12_goesOn_57 : decode cX12_goesOn 57 = .ok (.istore_n 1, 1) := by decide +kernel
theorem dX12_goesOn_58 : decode cX12_goesOn 58 = .ok (.iload_n 1, 1) := by decide +kernel
theorem dX12_goesOn_59 : decode cX12_goesOn 59 = .ok (.bipush 26, 2) := by decide +kernel
theorem dX12_goesOn_61 : decode cX12_goesOn 61 = .ok (.if_icmp .lt 18, 3) := by decide +kernel
theorem dX12_goesOn_64 : decode cX12_goesOn 64 = .ok (.aload_n 0, 1) := by decide +kernel
theorem dX12_goesOn_65 : decode cX12_goesOn 65 = .ok (.sipush 200, 3) := by decide +kernel
theorem dX12_goesOn_68 : decode cX12_goesOn 68 = .ok (.iload_n 1, 1) := by decide +kernel
theorem dX12_goesOn_69 : decode cX12_goesOn 69 = .ok (.iadd, 1) := by decide +kernel
theorem dX12_goesOn_70 : decode cX12_goesOn 70 = .ok (.bipush 26, 2) := by decide +kernel
theorem dX12_goesOn_72 : decode cX12_goesOn 72 = .ok (.isub, 1) := by decide +kernel
theorem dX12_goesOn_73 : decode cX12_goesOn 73 = .ok (.invokevirtual 266, 3) := by decide +kernel
theorem dX12_goesOn_76 : decode cX12_goesOn 76 = .ok (.goto 36, 3) := by decide +kernel
theorem dX12_goesOn_79 : decode cX12_goesOn 79 = .ok (.iload_n 1, 1) := by decide +kernel
theorem dX12_goesOn_80 : decode cX12_goesOn 80 = .ok (.bipush 20, 2) := by decide +kernel
theorem dX12_goesOn_82 : decode cX12_goesOn 82 = .ok (.if_icmp .eq 30, 3) := by decide +kernel
theorem dX12_goesOn_85 : decode cX12_goesOn 85 = .ok (.aload_n 0, 1) := by decide +kernel
theorem dX12_goesOn_86 : decode cX12_goesOn 86 = .ok (.iload_n 1, 1) := by decide +kernel
theorem dX12_goesOn_87 : decode cX12_goesOn 87 = .ok (.bipush 25, 2) := by decide +kernel
theorem dX12_goesOn_89 : decode cX12_goesOn 89 = .ok (.if_icmp .ne 8, 3) := by decide +kernel
theorem dX12_goesOn_92 : decode cX12_goesOn 92 = .ok (.bipush 7, 2) := by decide +kernel
theorem dX12_goesOn_94 : decode cX12_goesOn 94 = .ok (.goto 15, 3) := by decide +kernel
theorem dX12_goesOn_97 : decode cX12_goesOn 97 = .ok (.iload_n 1, 1) := by decide +kernel
theorem dX12_goesOn_98 : decode cX12_goesOn 98 = .ok (.bipush 23, 2) := by decide +kernel
theorem dX12_goesOn_100 : decode cX12_goesOn 100 = .ok (.if_icmp .ne 7, 3) := by decide +kernel
theorem dX12_goesOn_103 : decode cX12_goesOn 103 = .ok (.iconst 5, 1) := by decide +kernel
theorem dX12_goesOn_104 : decode cX12_goesOn 104 = .ok (.goto 5, 3) := by decide +kernel
theorem dX12_goesOn_107 : decode cX12_goesOn 107 = .ok (.bipush 6, 2) := by decide +kernel
theorem dX12_goesOn_109 : decode cX12_goesOn 109 = .ok (.invokevirtual 266, 3) := by decide +kernel
theorem dX12_goesOn_112 : decode cX12_goesOn 112 = .ok (.goto (-112), 3) := by decide +kernel
theorem dX12_goesOn_115 : decode cX12_goesOn 115 = .ok (.aload_n 0, 1) := by decide +kernel
theorem dX12_goesOn_116 : decode cX12_goesOn 116 = .ok (.bipush 42, 2) := by decide +kernel
theorem dX12_goesOn_118 : decode cX12_goesOn 118 = .ok (.invokevirtual 225, 3) := by decide +kernel
theorem dX12_goesOn_121 : decode cX12_goesOn 121 = .ok (.ifCond .ne 12, 3) := by decide +kernel
theorem dX12_goesOn_124 : decode cX12_goesOn 124 = .ok (.aload_n 0, 1) := by decide +kernel
theorem dX12_goesOn_125 : decode cX12_goesOn 125 = .ok (.bipush 47, 2) := by decide +kernel
theorem dX12_goesOn_127 : decode cX12_goesOn 127 = .ok (.invokevirtual 225, 3) := by decide +kernel
theorem dX12_goesOn_130 : decode cX12_goesOn 130 = .ok (.ifCond .eq 70, 3) := by decide +kernel
theorem dX12_goesOn_133 : decode cX12_goesOn 133 = .ok (.aload_n 0, 1) := by decide +kernel
theorem dX12_goesOn_134 : decode cX12_goesOn 134 = .ok (.getfield 7, 3) := by decide +kernel
theorem dX12_goesOn_137 : decode cX12_goesOn 137 = .ok (.aload_n 0, 1) := by decide +kernel
theorem dX12_goesOn_138 : decode cX12_goesOn 138 = .ok (.getfield 197, 3) := by decide +kernel
theorem dX12_goesOn_141 : decode cX12_goesOn 141 = .ok (.iconst 1, 1) := by decide +kernel
theorem dX12_goesOn_142 : decode cX12_goesOn 142 = .ok (.isub, 1) := by decide +kernel
theorem dX12_goesOn_143 : decode cX12_goesOn 143 = .ok (.iaload, 1) := by decide +kernel
theorem dX12_goesOn_144 : decode cX12_goesOn 144 = .ok (.bipush 42, 2) := by decide +kernel
theorem dX12_goesOn_146 : decode cX12_goesOn 146 = .ok (.if_icmp .ne 7, 3) := by decide +kernel
theorem dX12_goesOn_149 : decode cX12_goesOn 149 = .ok (.iconst 3, 1) := by decide +kernel
theorem dX12_goesOn_150 : decode cX12_goesOn 150 = .ok (.goto 4, 3) := by decide +kernel
theorem dX12_goesOn_153 : decode cX12_goesOn 153 = .ok (.iconst 4, 1) := by decide +kernel
theorem dX12_goesOn_154 : decode cX12_goesOn 154 = .ok (.istore_n 1, 1) := by decide +kernel
theorem dX12_goesOn_155 : decode cX12_goesOn 155 = .ok (.aload_n 0, 1) := by decide +kernel
theorem dX12_goesOn_156 : decode cX12_goesOn 156 = .ok (.iconst 3, 1) := by decide +kernel
theorem dX12_goesOn_157 : decode cX12_goesOn 157 = .ok (.invokevirtual 308, 3) := by decide +kernel
theorem dX12_goesOn_160 : decode cX12_goesOn 160 = .ok (.ifCond .ne 11, 3) := by decide +kernel
theorem dX12_goesOn_163 : decode cX12_goesOn 163 = .ok (.aload_n 0, 1) := by decide +kernel
theorem dX12_goesOn_164 : decode cX12_goesOn 164 = .ok (.iconst 4, 1) := by decide +kernel
theorem dX12_goesOn_165 : decode cX12_goesOn 165 = .ok (.invokevirtual 308, 3) := by decide +kernel
theorem dX12_goesOn_168 : decode cX12_goesOn 168 = .ok (.ifCond .eq 10, 3) := by decide +kernel
theorem dX12_goesOn_171 : decode cX12_goesOn 171 = .ok (.aload_n 0, 1) := by decide +kernel
theorem dX12_goesOn_172 : decode cX12_goesOn 172 = .ok (.invokevirtual 276, 3) := by decide +kernel
theorem dX12_goesOn_175 : decode cX12_goesOn 175 = .ok (.goto (-20), 3) := by decide +kernel
theorem dX12_goesOn_178 : decode cX12_goesOn 178 = .ok (.aload_n 0, 1) := by decide +kernel
theorem dX12_goesOn_179 : decode cX12_goesOn 179 = .ok (.getfield 75, 3) := by decide +kernel
theorem dX12_goesOn_182 : decode cX12_goesOn 182 = .ok (.aload_n 0, 1) := by decide +kernel
theorem dX12_goesOn_183 : decode cX12_goesOn 183 = .ok (.getfield 263, 3) := by decide +kernel
theorem dX12_goesOn_186 : decode cX12_goesOn 186 = .ok (.iload_n 1, 1) := by decide +kernel
theorem dX12_goesOn_187 : decode cX12_goesOn 187 = .ok (.iastore, 1) := by decide +kernel
theorem dX12_goesOn_188 : decode cX12_goesOn 188 = .ok (.aload_n 0, 1) := by decide +kernel
theorem dX12_goesOn_189 : decode cX12_goesOn 189 = .ok (.dup, 1) := by decide +kernel
theorem dX12_goesOn_190 : decode cX12_goesOn 190 = .ok (.getfield 263, 3) := by decide +kernel
theorem dX12_goesOn_193 : decode cX12_goesOn 193 = .ok (.iconst 1, 1) := by decide +kernel
theorem dX12_goesOn_194 : decode cX12_goesOn 194 = .ok (.iadd, 1) := by decide +kernel
theorem dX12_goesOn_195 : decode cX12_goesOn 195 = .ok (.putfield 263, 3) := by decide +kernel
theorem dX12_goesOn_198 : decode cX12_goesOn 198 = .ok (.iconst 1, 1) := by decide +kernel
theorem dX12_goesOn_199 : decode cX12_goesOn 199 = .ok (.ireturn, 1) := by decide +kernel
theorem dX12_goesOn_200 : decode cX12_goesOn 200 = .ok (.aload_n 0, 1) := by decide +kernel
theorem dX12_goesOn_201 : decode cX12_goesOn 201 = .ok (.bipush 43, 2) := by decide +kernel
theorem dX12_goesOn_203 : decode cX12_goesOn 203 = .ok (.invokevirtual 225, 3) := by decide +kernel
theorem dX12_goesOn_206 : decode cX12_goesOn 206 = .ok (.ifCond .ne 12, 3) := by decide +kernel
theorem dX12_goesOn_209 : decode cX12_goesOn 209 = .ok (.aload_n 0, 1) := by decide +kernel
theorem dX12_goesOn_210 : decode cX12_goesOn 210 = .ok (.bipush 45, 2) := by decide +kernel
theorem dX12_goesOn_212 : decode cX12_goesOn 212 = .ok (.invokevirtual 225, 3) := by decide +kernel
theorem dX12_goesOn_215 : decode cX12_goesOn 215 = .ok (.ifCond .eq 86, 3) := by decide +kernel
theorem dX12_goesOn_218 : decode cX12_goesOn 218 = .ok (.aload_n 0, 1) := by decide +kernel
theorem dX12_goesOn_219 : decode cX12_goesOn 219 = .ok (.getfield 7, 3) := by decide +kernel
theorem dX12_goesOn_222 : decode cX12_goesOn 222 = .ok (.aload_n 0, 1) := by decide +kernel
theorem dX12_goesOn_223 : decode cX12_goesOn 223 = .ok (.getfield 197, 3) := by decide +kernel
theorem dX12_goesOn_226 : decode cX12_goesOn 226 = .ok (.iconst 1, 1) := by decide +kernel
theorem dX12_goesOn_227 : decode cX12_goesOn 227 = .ok (.isub, 1) := by decide +kernel
theorem dX12_goesOn_228 : decode cX12_goesOn 228 = .ok (.iaload, 1) := by decide +kernel
theorem dX12_goesOn_229 : decode cX12_goesOn 229 = .ok (.bipush 43, 2) := by decide +kernel
theorem dX12_goesOn_231 : decode cX12_goesOn 231 = .ok (.if_icmp .ne 7, 3) := by decide +kernel
theorem dX12_goesOn_234 : decode cX12_goesOn 234 = .ok (.iconst 1, 1) := by decide +kernel
theorem dX12_goesOn_235 : decode cX12_goesOn 235 = .ok (.goto 4, 3) := by decide +kernel
theorem dX12_goesOn_238 : decode cX12_goesOn 238 = .ok (.iconst 2, 1) := by decide +kernel
theorem dX12_goesOn_239 : decode cX12_goesOn 239 = .ok (.istore_n 1, 1) := by decide +kernel
theorem dX12_goesOn_240 : decode cX12_goesOn 240 = .ok (.aload_n 0, 1) := by decide +kernel
theorem dX12_goesOn_241 : decode cX12_goesOn 241 = .ok (.iconst 3, 1) := by decide +kernel
theorem dX12_goesOn_242 : decode cX12_goesOn 242 = .ok (.invokevirtual 308, 3) := by decide +kernel
theorem dX12_goesOn_245 : decode cX12_goesOn 245 = .ok (.ifCond .ne 27, 3) := by decide +kernel
theorem dX12_goesOn_248 : decode cX12_goesOn 248 = .ok (.aload_n 0, 1) := by decide +kernel
theorem dX12_goesOn_249 : decode cX12_goesOn 249 = .ok (.iconst 4, 1) := by decide +kernel
theorem dX12_goesOn_250 : decode cX12_goesOn 250 = .ok (.invokevirtual 308, 3) := by decide +kernel
theorem dX12_goesOn_253 : decode cX12_goesOn 253 = .ok (.ifCond .ne 19, 3) := by decide +kernel
theorem dX12_goesOn_256 : decode cX12_goesOn 256 = .ok (.aload_n 0, 1) := by decide +kernel
theorem dX12_goesOn_257 : decode cX12_goesOn 257 = .ok (.iconst 1, 1) := by decide +kernel
theorem dX12_goesOn_258 : decode cX12_goesOn 258 = .ok (.invokevirtual 308, 3) := by decide +kernel
theorem dX12_goesOn_261 : decode cX12_goesOn 261 = .ok (.ifCond .ne 11, 3) := by decide +kernel
theorem dX12_goesOn_264 : decode cX12_goesOn 264 = .ok (.aload_n 0, 1) := by decide +kernel
theorem dX12_goesOn_265 : decode cX12_goesOn 265 = .ok (.iconst 2, 1) := by decide +kernel
theorem dX12_goesOn_266 : decode cX12_goesOn 266 = .ok (.invokevirtual 308, 3) := by decide +kernel
theorem dX12_goesOn_269 : decode cX12_goesOn 269 = .ok (.ifCond .eq 10, 3) := by decide +kernel
theorem dX12_goesOn_272 : decode cX12_goesOn 272 = .ok (.aload_n 0, 1) := by decide +kernel
theorem dX12_goesOn_273 : decode cX12_goesOn 273 = .ok (.invokevirtual 276, 3) := by decide +kernel
theorem dX12_goesOn_276 : decode cX12_goesOn 276 = .ok (.goto (-36), 3) := by decide +kernel
theorem dX12_goesOn_279 : decode cX12_goesOn 279 = .ok (.aload_n 0, 1) := by decide +kernel
theorem dX12_goesOn_280 : decode cX12_goesOn 280 = .ok (.getfield 75, 3) := by decide +kernel
theorem dX12_goesOn_283 : decode cX12_goesOn 283 = .ok (.aload_n 0, 1) := by decide +kernel
theorem dX12_goesOn_284 : decode cX12_goesOn 284 = .ok (.getfield 263, 3) := by decide +kernel
theorem dX12_goesOn_287 : decode cX12_goesOn 287 = .ok (.iload_n 1, 1) := by decide +kernel
theorem dX12_goesOn_288 : decode cX12_goesOn 288 = .ok (.iastore, 1) := by decide +kernel
theorem dX12_goesOn_289 : decode cX12_goesOn 289 = .ok (.aload_n 0, 1) := by decide +kernel
theorem dX12_goesOn_290 : decode cX12_goesOn 290 = .ok (.dup, 1) := by decide +kernel
theorem dX12_goesOn_291 : decode cX12_goesOn 291 = .ok (.getfield 263, 3) := by decide +kernel
theorem dX12_goesOn_294 : decode cX12_goesOn 294 = .ok (.iconst 1, 1) := by decide +kernel
theorem dX12_goesOn_295 : decode cX12_goesOn 295 = .ok (.iadd, 1) := by decide +kernel
theorem dX12_goesOn_296 : decode cX12_goesOn 296 = .ok (.putfield 263, 3) := by decide +kernel
theorem dX12_goesOn_299 : decode cX12_goesOn 299 = .ok (.iconst 1, 1) := by decide +kernel
theorem dX12_goesOn_300 : decode cX12_goesOn 300 = .ok (.ireturn, 1) := by decide +kernel
theorem dX12_goesOn_301 : decode cX12_goesOn 301 = .ok (.aload_n 0, 1) := by decide +kernel
theorem dX12_goesOn_302 : decode cX12_goesOn 302 = .ok (.invokevirtual 299, 3) := by decide +kernel
theorem dX12_goesOn_305 : decode cX12_goesOn 305 = .ok (.bipush 21, 2) := by decide +kernel
theorem dX12_goesOn_307 : decode cX12_goesOn 307 = .ok (.if_icmp .eq 12, 3) := by decide +kernel
theorem dX12_goesOn_310 : decode cX12_goesOn 310 = .ok (.aload_n 0, 1) := by decide +kernel
theorem dX12_goesOn_311 : decode cX12_goesOn 311 = .ok (.invokevirtual 299, 3) := by decide +kernel
theorem dX12_goesOn_314 : decode cX12_goesOn 314 = .ok (.bipush 22, 2) := by decide +kernel
theorem dX12_goesOn_316 : decode cX12_goesOn 316 = .ok (.if_icmp .ne 39, 3) := by decide +kernel
theorem dX12_goesOn_319 : decode cX12_goesOn 319 = .ok (.aload_n 0, 1) := by decide +kernel
theorem dX12_goesOn_320 : decode cX12_goesOn 320 = .ok (.bipush 44, 2) := by decide +kernel
theorem dX12_goesOn_322 : decode cX12_goesOn 322 = .ok (.invokevirtual 286, 3) := by decide +kernel
theorem dX12_goesOn_325 : decode cX12_goesOn 325 = .ok (.aload_n 0, 1) := by decide +kernel
theorem dX12_goesOn_326 : decode cX12_goesOn 326 = .ok (.getfield 191, 3) := by decide +kernel
theorem dX12_goesOn_329 : decode cX12_goesOn 329 = .ok (.ifCond .eq 5, 3) := by decide +kernel
theorem dX12_goesOn_332 : decode cX12_goesOn 332 = .ok (.iconst 0, 1) := by decide +kernel
theorem dX12_goesOn_333 : decode cX12_goesOn 333 = .ok (.ireturn, 1) := by decide +kernel
theorem dX12_goesOn_334 : decode cX12_goesOn 334 = .ok (.aload_n 0, 1) := by decide +kernel
theorem dX12_goesOn_335 : decode cX12_goesOn 335 = .ok (.invokevirtual 305, 3) := by decide +kernel
theorem dX12_goesOn_338 : decode cX12_goesOn 338 = .ok (.aload_n 0, 1) := by decide +kernel
theorem dX12_goesOn_339 : decode cX12_goesOn 339 = .ok (.getfield 75, 3) := by decide +kernel
theorem dX12_goesOn_342 : decode cX12_goesOn 342 = .ok (.aload_n 0, 1) := by decide +kernel
theorem dX12_goesOn_343 : decode cX12_goesOn 343 = .ok (.getfield 263, 3) := by decide +kernel
theorem dX12_goesOn_346 : decode cX12_goesOn 346 = .ok (.iconst 1, 1) := by decide +kernel
theorem dX12_goesOn_347 : decode cX12_goesOn 347 = .ok (.isub, 1) := by decide +kernel
theorem dX12_goesOn_348 : decode cX12_goesOn 348 = .ok (.dup2, 1) := by decide +kernel
theorem dX12_goesOn_349 : decode cX12_goesOn 349 = .ok (.iaload, 1) := by decide +kernel
theorem dX12_goesOn_350 : decode cX12_goesOn 350 = .ok (.iconst 2, 1) := by decide +kernel
theorem dX12_goesOn_351 : decode cX12_goesOn 351 = .ok (.iadd, 1) := by decide +kernel
theorem dX12_goesOn_352 : decode cX12_goesOn 352 = .ok (.iastore, 1) := by decide +kernel
theorem dX12_goesOn_353 : decode cX12_goesOn 353 = .ok (.iconst 1, 1) := by decide +kernel
theorem dX12_goesOn_354 : decode cX12_goesOn 354 = .ok (.ireturn, 1) := by decide +kernel
theorem dX12_goesOn_355 : decode cX12_goesOn 355 = .ok (.aload_n 0, 1) := by decide +kernel
theorem dX12_goesOn_356 : decode cX12_goesOn 356 = .ok (.invokevirtual 299, 3) := by decide +kernel
theorem dX12_goesOn_359 : decode cX12_goesOn 359 = .ok (.iconst (-1), 1) := by decide +kernel
theorem dX12_goesOn_360 : decode cX12_goesOn 360 = .ok (.if_icmp .eq 19, 3) := by decide +kernel
theorem dX12_goesOn_363 : decode cX12_goesOn 363 = .ok (.aload_n 0, 1) := by decide +kernel
theorem dX12_goesOn_364 : decode cX12_goesOn 364 = .ok (.getfield 191, 3) := by decide +kernel
theorem dX12_goesOn_367 : decode cX12_goesOn 367 = .ok (.ifCond .ne 12, 3) := by decide +kernel
theorem dX12_goesOn_370 : decode cX12_goesOn 370 = .ok (.aload_n 0, 1) := by decide +kernel
theorem dX12_goesOn_371 : decode cX12_goesOn 371 = .ok (.iconst 1, 1) := by decide +kernel
theorem dX12_goesOn_372 : decode cX12_goesOn 372 = .ok (.aload_n 0, 1) := by decide +kernel
theorem dX12_goesOn_373 : decode cX12_goesOn 373 = .ok (.getfield 197, 3) := by decide +kernel
theorem dX12_goesOn_376 : decode cX12_goesOn 376 = .ok (.invokevirtual 221, 3) := by decide +kernel
theorem dX12_goesOn_379 : decode cX12_goesOn 379 = .ok (.iconst 0, 1) := by decide +kernel
theorem dX12_goesOn_380 : decode cX12_goesOn 380 = .ok (.ireturn, 1) := by decide +kernel
def v_q_goesOn : List Cond := .code yX12_goesOn cX12_goesOn 2 (some .boolean) :: ([.fieldLink RX12 191 "SlopeRunnerModel" "bad" "I", .fieldLink RX12 75 "SlopeRunnerModel" "wait" "[I", .fieldLink RX12 263 "SlopeRunnerModel" "waits" "I", .fieldLink RX12 197 "SlopeRunnerModel" "at" "I", .fieldLink RX12 7 "SlopeRunnerModel" "tape" "[I", .fieldLink RX12 260 "SlopeRunnerModel" "open" "I"] ++ ((wsV RX12 302 RX12 yX12_closes v_q_closes) ++ ((wsV RX12 225 RX12 yX12_takesSign v_q_takesSign) ++ ((wsV RX12 299 RX12 yX12_mark v_q_mark) ++ ((wsV RX12 286 RX12 yX12_asksSign v_q_asksSign) ++ ((wsV RX12 305 RX12 yX12_dropsToMark v_q_dropsToMark) ++ ((wsV RX12 221 RX12 yX12_fail v_q_fail) ++ ((wsV RX12 308 RX12 yX12_isOn v_q_isOn) ++ ((wsV RX12 276 RX12 yX12_drops v_q_drops) ++ ((wsV RX12 266 RX12 yX12_code v_q_code) ++ wsX120))))))))))
theorem g_q_goesOn_0 : GoodIn v_q_goesOn (wsV RX12 302 RX12 yX12_closes v_q_closes) := goodIn_sub (fun w h => List.mem_cons_of_mem _ (List.mem_append_right _ (List.mem_append_left _ h))) (by decide +kernel)
theorem g_q_goesOn_1 : GoodIn v_q_goesOn (wsV RX12 225 RX12 yX12_takesSign v_q_takesSign) := goodIn_sub (fun w h => List.mem_cons_of_mem _ (List.mem_append_right _ (List.mem_append_right _ (List.mem_append_left _ h)))) (by decide +kernel)
theorem g_q_goesOn_2 : GoodIn v_q_goesOn (wsV RX12 299 RX12 yX12_mark v_q_mark) := goodIn_sub (fun w h => List.mem_cons_of_mem _ (List.mem_append_right _ (List.mem_append_right _ (List.mem_append_right _ (List.mem_append_left _ h))))) (by decide +kernel)
theorem g_q_goesOn_3 : GoodIn v_q_goesOn (wsV RX12 286 RX12 yX12_asksSign v_q_asksSign) := goodIn_sub (fun w h => List.mem_cons_of_mem _ (List.mem_append_right _ (List.mem_append_right _ (List.mem_append_right _ (List.mem_append_right _ (List.mem_append_left _ h)))))) (by decide +kernel)
theorem g_q_goesOn_4 : GoodIn v_q_goesOn (wsV RX12 305 RX12 yX12_dropsToMark v_q_dropsToMark) := goodIn_sub (fun w h => List.mem_cons_of_mem _ (List.mem_append_right _ (List.mem_append_right _ (List.mem_append_right _ (List.mem_append_right _ (List.mem_append_right _ (List.mem_append_left _ h))))))) (by decide +kernel)
theorem g_q_goesOn_5 : GoodIn v_q_goesOn (wsV RX12 221 RX12 yX12_fail v_q_fail) := goodIn_sub (fun w h => List.mem_cons_of_mem _ (List.mem_append_right _ (List.mem_append_right _ (List.mem_append_right _ (List.mem_append_right _ (List.mem_append_right _ (List.mem_append_right _ (List.mem_append_left _ h)))))))) (by decide +kernel)
theorem g_q_goesOn_6 : GoodIn v_q_goesOn (wsV RX12 308 RX12 yX12_isOn v_q_isOn) := goodIn_sub (fun w h => List.mem_cons_of_mem _ (List.mem_append_right _ (List.mem_append_right _ (List.mem_append_right _ (List.mem_append_right _ (List.mem_append_right _ (List.mem_append_right _ (List.mem_append_right _ (List.mem_append_left _ h))))))))) (by decide +kernel)
theorem g_q_goesOn_7 : GoodIn v_q_goesOn (wsV RX12 276 RX12 yX12_drops v_q_drops) := goodIn_sub (fun w h => List.mem_cons_of_mem _ (List.mem_append_right _ (List.mem_append_right _ (List.mem_append_right _ (List.mem_append_right _ (List.mem_append_right _ (List.mem_append_right _ (List.mem_append_right _ (List.mem_append_right _ (List.mem_append_left _ h)))))))))) (by decide +kernel)
theorem g_q_goesOn_8 : GoodIn v_q_goesOn (wsV RX12 266 RX12 yX12_code v_q_code) := goodIn_sub (fun w h => List.mem_cons_of_mem _ (List.mem_append_right _ (List.mem_append_right _ (List.mem_append_right _ (List.mem_append_right _ (List.mem_append_right _ (List.mem_append_right _ (List.mem_append_right _ (List.mem_append_right _ (List.mem_append_right _ (List.mem_append_left _ h))))))))))) (by decide +kernel)
set_option maxHeartbeats 4000000 in
set_option maxRecDepth 100000 in
theorem q_goesOn (l : Launch) (D : va_G) (y : Nat → ClassId) (sz : Nat) (ad : Nat → Nat) (zw : Nat → Nat → Int32) (σ : OS) (f0 w0 : Nat → Int32) (c0 b : Nat) (X o0 : Int) (ha0 : 0 ≤ (σ.1 2).toInt) (ha1 : (σ.1 2).toInt ≤ (σ.1 3).toInt) (ha2 : (σ.1 3).toInt ≤ 700) (hb0 : (σ.1 5).toInt = 0) (ho0 : 0 ≤ (σ.1 32).toInt) (ho1 : (σ.1 32).toInt ≤ 8) (hw0 : 0 ≤ (σ.1 31).toInt) (hc0 : 0 ≤ (σ.1 29).toInt) (hcw : (σ.1 29).toInt + (σ.1 31).toInt ≤ (σ.1 2).toInt + 20) (hbs : (σ.1 40).toInt = (b : Int)) (hlo : ∀ k, k < b → ¬ (1 ≤ (w0 k).toInt ∧ (w0 k).toInt ≤ 4)) (ho2 : 0 ≤ o0) (hX1 : 1000 ≤ X) (hes : ES f0 (σ.2.2.1 27) w0 (σ.2.2.1 30) c0 (σ.1 29).toInt.toNat b (σ.1 31).toInt.toNat 1 X (σ.1 32).toInt o0) : Met l yX12_goesOn v_q_goesOn ({ frames := 3, cells := 0, slots := 0, locals := 64 } : Room) (va_Pc [.ref (ad 1)] (xPre D (xT y) (mwd y ad zw σ) sz)) (va_Qi (fun (r : Int32) (u : Int32 × Int32 × Int32 × Int32 × (Nat → Int32) × Int32 × (Nat → Int32) × Int32) => (σ.1 2).toInt ≤ u.1.toInt ∧ u.1.toInt ≤ (σ.1 3).toInt ∧ 0 ≤ u.2.2.2.2.2.1.toInt ∧ u.2.2.2.2.2.1.toInt ≤ 8 ∧ 0 ≤ u.2.2.2.2.2.2.2.toInt ∧ (σ.1 29).toInt ≤ u.2.2.2.1.toInt ∧ u.2.2.2.1.toInt + u.2.2.2.2.2.2.2.toInt - u.1.toInt ≤ ((σ.1 29).toInt + (σ.1 31).toInt - (σ.1 2).toInt) ∧ (r.toInt = 0 ∨ r.toInt = 1) ∧ (u.2.1.toInt = 0 → XE (r.toInt = 1) ((σ.1 2).toInt + 1 ≤ u.1.toInt ∧ ES f0 u.2.2.2.2.1 w0 u.2.2.2.2.2.2.1 c0 u.2.2.2.1.toInt.toNat b u.2.2.2.2.2.2.2.toInt.toNat 0 X u.2.2.2.2.2.1.toInt o0) ∧ XE (r.toInt = 0) (ES f0 u.2.2.2.2.1 w0 u.2.2.2.2.2.2.1 c0 u.2.2.2.1.toInt.toNat b u.2.2.2.2.2.2.2.toInt.toNat 1 X u.2.2.2.2.2.1.toInt o0 ∧ ∀ k : Nat, b ≤ k → k < u.2.2.2.2.2.2.2.toInt.toNat → ¬ (20 ≤ (u.2.2.2.2.2.2.1 k).toInt ∧ (u.2.2.2.2.2.2.1 k).toInt < 30)))) (fun (u : Int32 × Int32 × Int32 × Int32 × (Nat → Int32) × Int32 × (Nat → Int32) × Int32) => xB D (xT y) (va_A (mwd y ad zw σ) sz) (mwd y ad zw (sI (tI (sI (tI (sI (sI (sI (sI σ 2 u.1) 5 u.2.1) 6 u.2.2.1) 29 u.2.2.2.1) 27 u.2.2.2.2.1) 32 u.2.2.2.2.2.1) 30 u.2.2.2.2.2.2.1) 31 u.2.2.2.2.2.2.2))) (va_A (mwd y ad zw σ) sz)) 0 0 (va_A (mwd y ad zw σ) sz) := by
  refine x_meti (cc := cX12_goesOn) (maxL := 2) (by decide) rfl (Nat.le_of_ble_eq_true rfl) ?_
  intro p e s m below meth c A H locs Q hx hb hml hown hts hr hlocks hmn hA hP hK hD hS ls hl hQ
  have hl : lv_has ls 2 [(0, .ref (ad 1))] := hl
  have fl191 := hts (.fieldLink RX12 191 "SlopeRunnerModel" "bad" "I") (List.mem_of_getElem? (i := 1) rfl)
  have inX12 : ∀ w ∈ wsX120, w ∈ v_q_goesOn := (fun w h => List.mem_cons_of_mem _ (List.mem_append_right _ (List.mem_append_right _ (List.mem_append_right _ (List.mem_append_right _ (List.mem_append_right _ (List.mem_append_right _ (List.mem_append_right _ (List.mem_append_right _ (List.mem_append_right _ (List.mem_append_right _ h)))))))))))
  have kk_0 : (0 : Int32).toInt = 0 := rfl
  have kk_42 : (42 : Int32).toInt = 42 := rfl
  have kk_47 : (47 : Int32).toInt = 47 := rfl
  have kk_43 : (43 : Int32).toInt = 43 := rfl
  have kk_45 : (45 : Int32).toInt = 45 := rfl
  have kk_21 : (21 : Int32).toInt = 21 := rfl
  have kk_44 : (44 : Int32).toInt = 44 := rfl
  have fl75 := hts (.fieldLink RX12 75 "SlopeRunnerModel" "wait" "[I") (List.mem_of_getElem? (i := 2) rfl)
  have fl263 := hts (.fieldLink RX12 263 "SlopeRunnerModel" "waits" "I") (List.mem_of_getElem? (i := 3) rfl)
  have kk_1 : (1 : Int32).toInt = 1 := rfl
  have kk_2 : (2 : Int32).toInt = 2 := rfl
  have kk_22 : (22 : Int32).toInt = 22 := rfl
  have kk_m1 : ((-1) : Int32).toInt = -1 := rfl
  have fl197 := hts (.fieldLink RX12 197 "SlopeRunnerModel" "at" "I") (List.mem_of_getElem? (i := 4) rfl)
  have fl7 := hts (.fieldLink RX12 7 "SlopeRunnerModel" "tape" "[I") (List.mem_of_getElem? (i := 5) rfl)
  have kk_3 : (3 : Int32).toInt = 3 := rfl
  have kk_4 : (4 : Int32).toInt = 4 := rfl
  have fl260 := hts (.fieldLink RX12 260 "SlopeRunnerModel" "open" "I") (List.mem_of_getElem? (i := 6) rfl)
  have kk_26 : (26 : Int32).toInt = 26 := rfl
  have kk_20 : (20 : Int32).toInt = 20 := rfl
  have kk_25 : (25 : Int32).toInt = 25 := rfl
  have kk_23 : (23 : Int32).toInt = 23 := rfl
  have kk_6 : (6 : Int32).toInt = 6 := rfl
  have kk_5 : (5 : Int32).toInt = 5 := rfl
  have kk_7 : (7 : Int32).toInt = 7 := rfl
  have kk_200 : (200 : Int32).toInt = 200 := rfl
  have hP : va_P D vwCl (mwd y ad zw (sI (sI (tI (sI (sI σ 2 (σ.1 2)) 29 (σ.1 29)) 27 (σ.2.2.1 27)) 32 (σ.1 32)) 31 (σ.1 31))) H := hP
  have hD : va_D A (mwd y ad zw (sI (sI (tI (sI (sI σ 2 (σ.1 2)) 29 (σ.1 29)) 27 (σ.2.2.1 27)) 32 (σ.1 32)) 31 (σ.1 31))) := hD
  have loop : ∀ (fu : Nat) (a : Int32) (cd : Int32) (fc : Nat → Int32) (op : Int32) (ws : Int32) (H : Heap) (locs : List Loc) (ls : Array Slot), ((σ.1 2).toInt ≤ a.toInt) → (a.toInt ≤ (σ.1 3).toInt) → (0 ≤ op.toInt) → (op.toInt ≤ 8) → ((b : Int) ≤ ws.toInt) → ((σ.1 29).toInt ≤ cd.toInt) → (cd.toInt + ws.toInt - a.toInt ≤ ((σ.1 29).toInt + (σ.1 31).toInt - (σ.1 2).toInt)) → (ES f0 fc w0 (σ.2.2.1 30) c0 cd.toInt.toNat b ws.toInt.toNat 1 X op.toInt o0) → ((σ.1 3).toInt - a.toInt < (fu : Int)) → va_P D vwCl (mwd y ad zw (sI (sI (tI (sI (sI σ 2 a) 29 cd) 27 fc) 32 op) 31 ws)) H → va_D A (mwd y ad zw (sI (sI (tI (sI (sI σ 2 a) 29 cd) 27 fc) 32 op) 31 ws)) → va_S A s.heap H locs → lv_has ls 2 [(0, .ref (ad 1))] → W p l e ({ frames := 3, cells := 0, slots := 0, locals := 64 } : Room) s m ([.ref (ad 1)] : List Value).toArray below meth c H locs 0 0 Q (F0 m 0 ls []) := by
    intro fu
    induction fu with
    | zero =>
      intro a cd fc op ws H locs ls hA0 hA1 hO0 hO1 hW0 hC0 hpot hE hm
      exact absurd hm (by omega)
    | succ fu ih_loop =>
      intro a cd fc op ws H locs ls hA0 hA1 hO0 hO1 hW0 hC0 hpot hE hm hP hD hS hl
      refine lv_aload_n hx hb dX12_goesOn_0 rfl (lv_at hl 0 rfl) ?_
      refine va_get (D := D) (ci := 11) (v := .int (σ.1 5)) (C := RX12) (T := TX12) (N := 85) hx hb hts inX12 hown hK hP 0 mwd_o0 rfl 5 (by decide) fl191 (fun _ h9 => h9) rfl dX12_goesOn_1 ?_
      refine lv_if_ne (tgt := 115) hx hb dX12_goesOn_4 (by decide) (fun c_1 => ?_) (fun c_1 => ?_)
      · have kc_1 : (σ.1 5).toInt ≠ 0 := by have h9 := c_1; simp only [ge_iff_le, gt_iff_lt, x_lt, x_le, x_eq, ne_eq, Int32.not_lt, Int32.not_le] at h9; simp only [Int32.reduceToInt] at h9; omega
        exfalso
        omega
      · have kc_1 : (σ.1 5).toInt = 0 := by have h9 := c_1; simp only [ge_iff_le, gt_iff_lt, x_lt, x_le, x_eq, ne_eq, Int32.not_lt, Int32.not_le] at h9; simp only [Int32.reduceToInt] at h9; omega
        refine lv_aload_n hx hb dX12_goesOn_7 rfl (lv_at hl 0 rfl) ?_
        refine x_calliW (va_runV (As := []) (rest := []) ⟨hx, hb, hml, hown, hts⟩ (q_closes l D y H.size ad zw (sI (sI (tI (sI (sI σ 2 a) 29 cd) 27 fc) 32 op) 31 ws) b hbs (show (b : Int) ≤ (ws).toInt from by first | omega | decide) (show (ws).toInt ≤ 800 from by first | omega | decide) (show 0 ≤ (a).toInt from by first | omega | decide) (show (a).toInt ≤ ((σ.1 3)).toInt from by first | omega | decide) (show ((σ.1 3)).toInt ≤ 700 from by first | omega | decide)) (cwV 0 hts g_q_goesOn_0 rfl rfl rfl (by decide +kernel) ⟨Nat.le_of_ble_eq_true rfl, Nat.le_of_ble_eq_true rfl⟩) (x_preV (q := (RX12, TX12, 85)) hK hP hD (ci := 11) (q0 := 0) rfl mwd_o0) rfl rfl hl.1 rfl (lv_room (Nat.le_of_ble_eq_true rfl)) dX12_goesOn_8 ⟨Nat.le_of_ble_eq_true rfl, Nat.le_of_ble_eq_true rfl⟩) hP hD hS hA (fun r_2 u H locs hw hP hD hS => ?_)
        obtain ⟨n_3, rfl⟩ : ∃ z9, z9 = u := ⟨_, rfl⟩
        try dsimp only at hw
        have hP : va_P D vwCl (mwd y ad zw (sI (sI (sI (tI (sI (sI σ 2 a) 29 cd) 27 fc) 32 op) 31 ws) 2 n_3)) H := hP
        have hD : va_D A (mwd y ad zw (sI (sI (sI (tI (sI (sI σ 2 a) 29 cd) 27 fc) 32 op) 31 ws) 2 n_3)) := hD
        replace hw : (a).toInt ≤ n_3.toInt ∧ n_3.toInt ≤ ((σ.1 3)).toInt ∧ ((r_2.toInt = 0) ∨ (r_2.toInt = 1 ∧ n_3.toInt < ((σ.1 3)).toInt ∧ ∃ q : Int, MK ((σ.2.2.1 30)) b (ws).toInt.toNat q ∧ (q = 20 ∨ q = 23 ∨ q = 24 ∨ q = 25 ∨ 26 ≤ q))) := hw
        rcases hw with ⟨hw1, hw2, hw3 | ⟨hw3, hw4, q9, hw5, hw6⟩⟩
        · skip
          refine lv_if_eq (tgt := 115) hx hb dX12_goesOn_11 (by decide) (fun c_4 => ?_) (fun c_4 => ?_)
          · have kc_4 : r_2.toInt = 0 := by have h9 := c_4; simp only [ge_iff_le, gt_iff_lt, x_lt, x_le, x_eq, ne_eq, Int32.not_lt, Int32.not_le] at h9; simp only [Int32.reduceToInt] at h9; omega
            refine lv_aload_n hx hb dX12_goesOn_115 rfl (lv_at hl 0 rfl) ?_
            refine lv_bipush (v := 42) hx hb dX12_goesOn_116 (by decide) ?_
            refine x_calliW (va_runV (As := [.int 42]) (rest := []) ⟨hx, hb, hml, hown, hts⟩ (q_takesSign l D y H.size ad zw (sI (sI (sI (tI (sI (sI σ 2 a) 29 cd) 27 fc) 32 op) 31 ws) 2 n_3) 42 (by first | omega | decide) (show 0 ≤ (n_3).toInt from by first | omega | decide) (show (n_3).toInt ≤ ((σ.1 3)).toInt from by first | omega | decide) (show ((σ.1 3)).toInt ≤ 700 from by first | omega | decide)) (cwV 1 hts g_q_goesOn_1 rfl rfl rfl (by decide +kernel) ⟨Nat.le_of_ble_eq_true rfl, Nat.le_of_ble_eq_true rfl⟩) (x_preV (q := (RX12, TX12, 85)) hK hP hD (ci := 11) (q0 := 0) rfl mwd_o0) rfl rfl hl.1 rfl (lv_room (Nat.le_of_ble_eq_true rfl)) dX12_goesOn_118 ⟨Nat.le_of_ble_eq_true rfl, Nat.le_of_ble_eq_true rfl⟩) hP hD hS hA (fun r_5 u H locs hw hP hD hS => ?_)
            obtain ⟨n_6, rfl⟩ : ∃ z9, z9 = u := ⟨_, rfl⟩
            try dsimp only at hw
            have hP : va_P D vwCl (mwd y ad zw (sI (sI (sI (sI (tI (sI (sI σ 2 a) 29 cd) 27 fc) 32 op) 31 ws) 2 n_3) 2 n_6)) H := hP
            have hD : va_D A (mwd y ad zw (sI (sI (sI (sI (tI (sI (sI σ 2 a) 29 cd) 27 fc) 32 op) 31 ws) 2 n_3) 2 n_6)) := hD
            replace hw : (n_3).toInt ≤ n_6.toInt ∧ n_6.toInt ≤ ((σ.1 3)).toInt ∧ (r_5.toInt = 0 ∨ (r_5.toInt = 1 ∧ ((σ.1 5)).toInt = 0 ∧ (n_3).toInt + 1 ≤ n_6.toInt)) := hw
            rcases hw with ⟨hs1, hs2, hs3 | ⟨hs3, hs4, hs5⟩⟩
            · skip
              refine lv_if_ne (tgt := 133) hx hb dX12_goesOn_121 (by decide) (fun c_7 => ?_) (fun c_7 => ?_)
              · have kc_7 : r_5.toInt ≠ 0 := by have h9 := c_7; simp only [ge_iff_le, gt_iff_lt, x_lt, x_le, x_eq, ne_eq, Int32.not_lt, Int32.not_le] at h9; simp only [Int32.reduceToInt] at h9; omega
                exfalso
                omega
              · have kc_7 : r_5.toInt = 0 := by have h9 := c_7; simp only [ge_iff_le, gt_iff_lt, x_lt, x_le, x_eq, ne_eq, Int32.not_lt, Int32.not_le] at h9; simp only [Int32.reduceToInt] at h9; omega
                refine lv_aload_n hx hb dX12_goesOn_124 rfl (lv_at hl 0 rfl) ?_
                refine lv_bipush (v := 47) hx hb dX12_goesOn_125 (by decide) ?_
                refine x_calliW (va_runV (As := [.int 47]) (rest := []) ⟨hx, hb, hml, hown, hts⟩ (q_takesSign l D y H.size ad zw (sI (sI (sI (sI (tI (sI (sI σ 2 a) 29 cd) 27 fc) 32 op) 31 ws) 2 n_3) 2 n_6) 47 (by first | omega | decide) (show 0 ≤ (n_6).toInt from by first | omega | decide) (show (n_6).toInt ≤ ((σ.1 3)).toInt from by first | omega | decide) (show ((σ.1 3)).toInt ≤ 700 from by first | omega | decide)) (cwV 1 hts g_q_goesOn_1 rfl rfl rfl (by decide +kernel) ⟨Nat.le_of_ble_eq_true rfl, Nat.le_of_ble_eq_true rfl⟩) (x_preV (q := (RX12, TX12, 85)) hK hP hD (ci := 11) (q0 := 0) rfl mwd_o0) rfl rfl hl.1 rfl (lv_room (Nat.le_of_ble_eq_true rfl)) dX12_goesOn_127 ⟨Nat.le_of_ble_eq_true rfl, Nat.le_of_ble_eq_true rfl⟩) hP hD hS hA (fun r_8 u H locs hw hP hD hS => ?_)
                obtain ⟨n_9, rfl⟩ : ∃ z9, z9 = u := ⟨_, rfl⟩
                try dsimp only at hw
                have hP : va_P D vwCl (mwd y ad zw (sI (sI (sI (sI (sI (tI (sI (sI σ 2 a) 29 cd) 27 fc) 32 op) 31 ws) 2 n_3) 2 n_6) 2 n_9)) H := hP
                have hD : va_D A (mwd y ad zw (sI (sI (sI (sI (sI (tI (sI (sI σ 2 a) 29 cd) 27 fc) 32 op) 31 ws) 2 n_3) 2 n_6) 2 n_9)) := hD
                replace hw : (n_6).toInt ≤ n_9.toInt ∧ n_9.toInt ≤ ((σ.1 3)).toInt ∧ (r_8.toInt = 0 ∨ (r_8.toInt = 1 ∧ ((σ.1 5)).toInt = 0 ∧ (n_6).toInt + 1 ≤ n_9.toInt)) := hw
                rcases hw with ⟨hs1, hs2, hs3 | ⟨hs3, hs4, hs5⟩⟩
                · skip
                  refine lv_if_eq (tgt := 200) hx hb dX12_goesOn_130 (by decide) (fun c_10 => ?_) (fun c_10 => ?_)
                  · have kc_10 : r_8.toInt = 0 := by have h9 := c_10; simp only [ge_iff_le, gt_iff_lt, x_lt, x_le, x_eq, ne_eq, Int32.not_lt, Int32.not_le] at h9; simp only [Int32.reduceToInt] at h9; omega
                    refine lv_aload_n hx hb dX12_goesOn_200 rfl (lv_at hl 0 rfl) ?_
                    refine lv_bipush (v := 43) hx hb dX12_goesOn_201 (by decide) ?_
                    refine x_calliW (va_runV (As := [.int 43]) (rest := []) ⟨hx, hb, hml, hown, hts⟩ (q_takesSign l D y H.size ad zw (sI (sI (sI (sI (sI (tI (sI (sI σ 2 a) 29 cd) 27 fc) 32 op) 31 ws) 2 n_3) 2 n_6) 2 n_9) 43 (by first | omega | decide) (show 0 ≤ (n_9).toInt from by first | omega | decide) (show (n_9).toInt ≤ ((σ.1 3)).toInt from by first | omega | decide) (show ((σ.1 3)).toInt ≤ 700 from by first | omega | decide)) (cwV 1 hts g_q_goesOn_1 rfl rfl rfl (by decide +kernel) ⟨Nat.le_of_ble_eq_true rfl, Nat.le_of_ble_eq_true rfl⟩) (x_preV (q := (RX12, TX12, 85)) hK hP hD (ci := 11) (q0 := 0) rfl mwd_o0) rfl rfl hl.1 rfl (lv_room (Nat.le_of_ble_eq_true rfl)) dX12_goesOn_203 ⟨Nat.le_of_ble_eq_true rfl, Nat.le_of_ble_eq_true rfl⟩) hP hD hS hA (fun r_11 u H locs hw hP hD hS => ?_)
                    obtain ⟨n_12, rfl⟩ : ∃ z9, z9 = u := ⟨_, rfl⟩
                    try dsimp only at hw
                    have hP : va_P D vwCl (mwd y ad zw (sI (sI (sI (sI (sI (sI (tI (sI (sI σ 2 a) 29 cd) 27 fc) 32 op) 31 ws) 2 n_3) 2 n_6) 2 n_9) 2 n_12)) H := hP
                    have hD : va_D A (mwd y ad zw (sI (sI (sI (sI (sI (sI (tI (sI (sI σ 2 a) 29 cd) 27 fc) 32 op) 31 ws) 2 n_3) 2 n_6) 2 n_9) 2 n_12)) := hD
                    replace hw : (n_9).toInt ≤ n_12.toInt ∧ n_12.toInt ≤ ((σ.1 3)).toInt ∧ (r_11.toInt = 0 ∨ (r_11.toInt = 1 ∧ ((σ.1 5)).toInt = 0 ∧ (n_9).toInt + 1 ≤ n_12.toInt)) := hw
                    rcases hw with ⟨hs1, hs2, hs3 | ⟨hs3, hs4, hs5⟩⟩
                    · skip
                      refine lv_if_ne (tgt := 218) hx hb dX12_goesOn_206 (by decide) (fun c_13 => ?_) (fun c_13 => ?_)
                      · have kc_13 : r_11.toInt ≠ 0 := by have h9 := c_13; simp only [ge_iff_le, gt_iff_lt, x_lt, x_le, x_eq, ne_eq, Int32.not_lt, Int32.not_le] at h9; simp only [Int32.reduceToInt] at h9; omega
                        exfalso
                        omega
                      · have kc_13 : r_11.toInt = 0 := by have h9 := c_13; simp only [ge_iff_le, gt_iff_lt, x_lt, x_le, x_eq, ne_eq, Int32.not_lt, Int32.not_le] at h9; simp only [Int32.reduceToInt] at h9; omega
                        refine lv_aload_n hx hb dX12_goesOn_209 rfl (lv_at hl 0 rfl) ?_
                        refine lv_bipush (v := 45) hx hb dX12_goesOn_210 (by decide) ?_
                        refine x_calliW (va_runV (As := [.int 45]) (rest := []) ⟨hx, hb, hml, hown, hts⟩ (q_takesSign l D y H.size ad zw (sI (sI (sI (sI (sI (sI (tI (sI (sI σ 2 a) 29 cd) 27 fc) 32 op) 31 ws) 2 n_3) 2 n_6) 2 n_9) 2 n_12) 45 (by first | omega | decide) (show 0 ≤ (n_12).toInt from by first | omega | decide) (show (n_12).toInt ≤ ((σ.1 3)).toInt from by first | omega | decide) (show ((σ.1 3)).toInt ≤ 700 from by first | omega | decide)) (cwV 1 hts g_q_goesOn_1 rfl rfl rfl (by decide +kernel) ⟨Nat.le_of_ble_eq_true rfl, Nat.le_of_ble_eq_true rfl⟩) (x_preV (q := (RX12, TX12, 85)) hK hP hD (ci := 11) (q0 := 0) rfl mwd_o0) rfl rfl hl.1 rfl (lv_room (Nat.le_of_ble_eq_true rfl)) dX12_goesOn_212 ⟨Nat.le_of_ble_eq_true rfl, Nat.le_of_ble_eq_true rfl⟩) hP hD hS hA (fun r_14 u H locs hw hP hD hS => ?_)
                        obtain ⟨n_15, rfl⟩ : ∃ z9, z9 = u := ⟨_, rfl⟩
                        try dsimp only at hw
                        have hP : va_P D vwCl (mwd y ad zw (sI (sI (sI (sI (sI (sI (sI (tI (sI (sI σ 2 a) 29 cd) 27 fc) 32 op) 31 ws) 2 n_3) 2 n_6) 2 n_9) 2 n_12) 2 n_15)) H := hP
                        have hD : va_D A (mwd y ad zw (sI (sI (sI (sI (sI (sI (sI (tI (sI (sI σ 2 a) 29 cd) 27 fc) 32 op) 31 ws) 2 n_3) 2 n_6) 2 n_9) 2 n_12) 2 n_15)) := hD
                        replace hw : (n_12).toInt ≤ n_15.toInt ∧ n_15.toInt ≤ ((σ.1 3)).toInt ∧ (r_14.toInt = 0 ∨ (r_14.toInt = 1 ∧ ((σ.1 5)).toInt = 0 ∧ (n_12).toInt + 1 ≤ n_15.toInt)) := hw
                        rcases hw with ⟨hs1, hs2, hs3 | ⟨hs3, hs4, hs5⟩⟩
                        · skip
                          refine lv_if_eq (tgt := 301) hx hb dX12_goesOn_215 (by decide) (fun c_16 => ?_) (fun c_16 => ?_)
                          · have kc_16 : r_14.toInt = 0 := by have h9 := c_16; simp only [ge_iff_le, gt_iff_lt, x_lt, x_le, x_eq, ne_eq, Int32.not_lt, Int32.not_le] at h9; simp only [Int32.reduceToInt] at h9; omega
                            refine lv_aload_n hx hb dX12_goesOn_301 rfl (lv_at hl 0 rfl) ?_
                            refine x_calliW (va_runV (As := []) (rest := []) ⟨hx, hb, hml, hown, hts⟩ (q_mark l D y H.size ad zw (sI (sI (sI (sI (sI (sI (sI (tI (sI (sI σ 2 a) 29 cd) 27 fc) 32 op) 31 ws) 2 n_3) 2 n_6) 2 n_9) 2 n_12) 2 n_15) b hbs (show (b : Int) ≤ (ws).toInt from by first | omega | decide) (show (ws).toInt ≤ 800 from by first | omega | decide)) (cwV 0 hts g_q_goesOn_2 rfl rfl rfl (by decide +kernel) ⟨Nat.le_of_ble_eq_true rfl, Nat.le_of_ble_eq_true rfl⟩) (x_preV (q := (RX12, TX12, 85)) hK hP hD (ci := 11) (q0 := 0) rfl mwd_o0) rfl rfl hl.1 rfl (lv_room (Nat.le_of_ble_eq_true rfl)) dX12_goesOn_302 ⟨Nat.le_of_ble_eq_true rfl, Nat.le_of_ble_eq_true rfl⟩) hP hD hS hA (fun r_17 u H locs hw hP hD hS => ?_)
                            try dsimp only at hw
                            have hP : va_P D vwCl (mwd y ad zw (sI (sI (sI (sI (sI (sI (sI (tI (sI (sI σ 2 a) 29 cd) 27 fc) 32 op) 31 ws) 2 n_3) 2 n_6) 2 n_9) 2 n_12) 2 n_15)) H := hP
                            have hD : va_D A (mwd y ad zw (sI (sI (sI (sI (sI (sI (sI (tI (sI (sI σ 2 a) 29 cd) 27 fc) 32 op) 31 ws) 2 n_3) 2 n_6) 2 n_9) 2 n_12) 2 n_15)) := hD
                            replace hw : MK ((σ.2.2.1 30)) b (ws).toInt.toNat r_17.toInt := hw
                            have hmk := hw
                            refine lv_bipush (v := 21) hx hb dX12_goesOn_305 (by decide) ?_
                            refine lv_icmp_eq (tgt := 319) hx hb dX12_goesOn_307 (by decide) (fun c_18 => ?_) (fun c_18 => ?_)
                            · have kc_18 : r_17.toInt = 21 := by have h9 := c_18; simp only [ge_iff_le, gt_iff_lt, x_lt, x_le, x_eq, ne_eq, Int32.not_lt, Int32.not_le] at h9; simp only [Int32.reduceToInt] at h9; omega
                              refine lv_aload_n hx hb dX12_goesOn_319 rfl (lv_at hl 0 rfl) ?_
                              refine lv_bipush (v := 44) hx hb dX12_goesOn_320 (by decide) ?_
                              refine x_callvW (va_runV (As := [.int 44]) (rest := []) ⟨hx, hb, hml, hown, hts⟩ (q_asksSign l D y H.size ad zw (sI (sI (sI (sI (sI (sI (sI (tI (sI (sI σ 2 a) 29 cd) 27 fc) 32 op) 31 ws) 2 n_3) 2 n_6) 2 n_9) 2 n_12) 2 n_15) 44 (by first | omega | decide) (show 0 ≤ (n_15).toInt from by first | omega | decide) (show (n_15).toInt ≤ ((σ.1 3)).toInt from by first | omega | decide) (show ((σ.1 3)).toInt ≤ 700 from by first | omega | decide)) (cwV 1 hts g_q_goesOn_3 rfl rfl rfl (by decide +kernel) ⟨Nat.le_of_ble_eq_true rfl, Nat.le_of_ble_eq_true rfl⟩) (x_preV (q := (RX12, TX12, 85)) hK hP hD (ci := 11) (q0 := 0) rfl mwd_o0) rfl rfl hl.1 rfl (lv_room (Nat.le_of_ble_eq_true rfl)) dX12_goesOn_322 ⟨Nat.le_of_ble_eq_true rfl, Nat.le_of_ble_eq_true rfl⟩) hP hD hS hA (fun u H locs hw hP hD hS => ?_)
                              obtain ⟨n_19, n_20, n_21⟩ := u
                              try dsimp only at hw
                              have hP : va_P D vwCl (mwd y ad zw (sI (sI (sI (sI (sI (sI (sI (sI (sI (sI (tI (sI (sI σ 2 a) 29 cd) 27 fc) 32 op) 31 ws) 2 n_3) 2 n_6) 2 n_9) 2 n_12) 2 n_15) 2 n_19) 5 n_20) 6 n_21)) H := hP
                              have hD : va_D A (mwd y ad zw (sI (sI (sI (sI (sI (sI (sI (sI (sI (sI (tI (sI (sI σ 2 a) 29 cd) 27 fc) 32 op) 31 ws) 2 n_3) 2 n_6) 2 n_9) 2 n_12) 2 n_15) 2 n_19) 5 n_20) 6 n_21)) := hD
                              replace hw : (n_15).toInt ≤ n_19.toInt ∧ n_19.toInt ≤ ((σ.1 3)).toInt ∧ (n_20.toInt = 0 → ((σ.1 5)).toInt = 0 ∧ (n_15).toInt + 1 ≤ n_19.toInt) := hw
                              rcases Classical.em (n_20.toInt = 0) with hbz | hbz
                              · have hsp := (hw.2.2 hbz).2
                                replace hw := And.intro hw.1 hw.2.1
                                refine lv_aload_n hx hb dX12_goesOn_325 rfl (lv_at hl 0 rfl) ?_
                                refine va_get (D := D) (ci := 11) (v := .int n_20) (C := RX12) (T := TX12) (N := 85) hx hb hts inX12 hown hK hP 0 mwd_o0 rfl 5 (by decide) fl191 (fun _ h9 => h9) rfl dX12_goesOn_326 ?_
                                refine lv_if_eq (tgt := 334) hx hb dX12_goesOn_329 (by decide) (fun c_22 => ?_) (fun c_22 => ?_)
                                · have kc_22 : n_20.toInt = 0 := by have h9 := c_22; simp only [ge_iff_le, gt_iff_lt, x_lt, x_le, x_eq, ne_eq, Int32.not_lt, Int32.not_le] at h9; simp only [Int32.reduceToInt] at h9; omega
                                  refine lv_aload_n hx hb dX12_goesOn_334 rfl (lv_at hl 0 rfl) ?_
                                  refine x_callvW (va_runV (As := []) (rest := []) ⟨hx, hb, hml, hown, hts⟩ (q_dropsToMark l D y H.size ad zw (sI (sI (sI (sI (sI (sI (sI (sI (sI (sI (tI (sI (sI σ 2 a) 29 cd) 27 fc) 32 op) 31 ws) 2 n_3) 2 n_6) 2 n_9) 2 n_12) 2 n_15) 2 n_19) 5 n_20) 6 n_21) f0 w0 c0 b X o0 hbs (show 0 ≤ (ws).toInt from by first | omega | decide) (show (ws).toInt ≤ 800 from by first | omega | decide) (show 0 ≤ (cd).toInt from by first | omega | decide) (show (cd).toInt + (ws).toInt < 1200 from by first | omega | decide) hX1 hE) (cwV 0 hts g_q_goesOn_4 rfl rfl rfl (by decide +kernel) ⟨Nat.le_of_ble_eq_true rfl, Nat.le_of_ble_eq_true rfl⟩) (x_preV (q := (RX12, TX12, 85)) hK hP hD (ci := 11) (q0 := 0) rfl mwd_o0) rfl rfl hl.1 rfl (lv_room (Nat.le_of_ble_eq_true rfl)) dX12_goesOn_335 ⟨Nat.le_of_ble_eq_true rfl, Nat.le_of_ble_eq_true rfl⟩) hP hD hS hA (fun u H locs hw hP hD hS => ?_)
                                  obtain ⟨n_23, n_24, f_25⟩ := u
                                  try dsimp only at hw
                                  have hP : va_P D vwCl (mwd y ad zw (tI (sI (sI (sI (sI (sI (sI (sI (sI (sI (sI (sI (sI (tI (sI (sI σ 2 a) 29 cd) 27 fc) 32 op) 31 ws) 2 n_3) 2 n_6) 2 n_9) 2 n_12) 2 n_15) 2 n_19) 5 n_20) 6 n_21) 31 n_23) 29 n_24) 27 f_25)) H := hP
                                  have hD : va_D A (mwd y ad zw (tI (sI (sI (sI (sI (sI (sI (sI (sI (sI (sI (sI (sI (tI (sI (sI σ 2 a) 29 cd) 27 fc) 32 op) 31 ws) 2 n_3) 2 n_6) 2 n_9) 2 n_12) 2 n_15) 2 n_19) 5 n_20) 6 n_21) 31 n_23) 29 n_24) 27 f_25)) := hD
                                  replace hw : ES f0 f_25 w0 ((σ.2.2.1 30)) c0 n_24.toInt.toNat b n_23.toInt.toNat 1 X (op).toInt o0 ∧ n_24.toInt + n_23.toInt = (cd).toInt + (ws).toInt ∧ n_23.toInt ≤ (ws).toInt ∧ (cd).toInt ≤ n_24.toInt ∧ (b : Int) ≤ n_23.toInt ∧ (n_23.toInt = (b : Int) ∨ (20 ≤ (((σ.2.2.1 30)) (n_23.toInt.toNat - 1)).toInt ∧ (((σ.2.2.1 30)) (n_23.toInt.toNat - 1)).toInt < 30)) ∧ ∀ j : Nat, n_23.toInt ≤ (j : Int) → (j : Int) < (ws).toInt → ¬ (20 ≤ (((σ.2.2.1 30)) j).toInt ∧ (((σ.2.2.1 30)) j).toInt < 30) := hw
                                  obtain ⟨hd1, hd2, hd3, hd4, hd5, hd6, hd7⟩ := hw
                                  obtain ⟨hm1, hm2⟩ := MK_top hmk (by omega) (n' := n_23.toInt.toNat) (by omega) (by omega) (by rcases hd6 with h9 | h9 <;> first | exact Or.inl (by omega) | exact Or.inr h9) (fun j h1 h2 => hd7 j (by omega) (by omega))
                                  clear hd6 hd7
                                  refine lv_aload_n hx hb dX12_goesOn_338 rfl (lv_at hl 0 rfl) ?_
                                  refine va_get (D := D) (ci := 11) (v := .ref (ad 30)) (C := RX12) (T := TX12) (N := 85) hx hb hts inX12 hown hK hP 0 mwd_o0 rfl 30 (by decide) fl75 (fun _ h9 => h9) rfl dX12_goesOn_339 ?_
                                  refine lv_aload_n hx hb dX12_goesOn_342 rfl (lv_at hl 0 rfl) ?_
                                  refine va_get (D := D) (ci := 11) (v := .int n_23) (C := RX12) (T := TX12) (N := 85) hx hb hts inX12 hown hK hP 0 mwd_o0 rfl 31 (by decide) fl263 (fun _ h9 => h9) rfl dX12_goesOn_343 ?_
                                  refine lv_iconst (v := 1) hx hb dX12_goesOn_346 (by decide) ?_
                                  refine lv_isub hx hb dX12_goesOn_347 ?_
                                  refine lv_topi (fun i_26 ei_26 => ?_)
                                  have vi_26 : i_26.toInt = n_23.toInt - 1 := by have h9 := x_sub ei_26 (by omega) (by omega); omega
                                  refine lv_dup2_11 hx hb dX12_goesOn_348 rfl rfl ?_
                                  refine va_iald hx hb hK hP 21 2 mwd_a21 rfl (x_in (by omega) (by omega)) dX12_goesOn_349 ?_
                                  refine lv_topi (fun i_27 ei_27 => ?_)
                                  have ei_27 : i_27 = (σ.2.2.1 30) (Int32.toNatClampNeg i_26) := ei_27
                                  have qi_27 : i_27.toInt = ((σ.2.2.1 30) (n_23.toInt.toNat - 1)).toInt := by rw [ei_27, x_cl (n := n_23.toInt.toNat - 1) (by omega)]
                                  refine lv_iconst (v := 2) hx hb dX12_goesOn_350 (by decide) ?_
                                  refine lv_iadd hx hb dX12_goesOn_351 ?_
                                  refine lv_topi (fun i_28 ei_28 => ?_)
                                  have vi_28 : i_28.toInt = i_27.toInt + 2 := by have h9 := x_add ei_28 (by omega) (by omega); omega
                                  refine va_iast hx hb hK hP hD hS 21 2 mwd_a21 rfl (x_in (by omega) (by omega)) dX12_goesOn_352 (fun H locs hP hD hS => ?_)
                                  obtain ⟨f_29, ef_29⟩ : ∃ z9 : Nat → Int32, z9 = (upd (σ.2.2.1 30) (Int32.toNatClampNeg i_26) i_28) := ⟨_, rfl⟩
                                  have hP : va_P D vwCl (mwd y ad zw (tI (tI (sI (sI (sI (sI (sI (sI (sI (sI (sI (sI (sI (sI (tI (sI (sI σ 2 a) 29 cd) 27 fc) 32 op) 31 ws) 2 n_3) 2 n_6) 2 n_9) 2 n_12) 2 n_15) 2 n_19) 5 n_20) 6 n_21) 31 n_23) 29 n_24) 27 f_25) 30 f_29)) H := by rw [ef_29]; exact x_trP hP mwd_s21
                                  have hD : va_D A (mwd y ad zw (tI (tI (sI (sI (sI (sI (sI (sI (sI (sI (sI (sI (sI (sI (tI (sI (sI σ 2 a) 29 cd) 27 fc) 32 op) 31 ws) 2 n_3) 2 n_6) 2 n_9) 2 n_12) 2 n_15) 2 n_19) 5 n_20) 6 n_21) 31 n_23) 29 n_24) 27 f_25) 30 f_29)) := by rw [ef_29]; exact x_trD hD mwd_s21
                                  rw [x_cl (n := n_23.toInt.toNat - 1) (by omega)] at ef_29
                                  refine lv_iconst (v := 1) hx hb dX12_goesOn_353 (by decide) ?_
                                  have hP : va_P D vwCl (mwd y ad zw (sI (tI (sI (tI (sI (sI (sI (sI σ 2 n_19) 5 n_20) 6 n_21) 29 n_24) 27 f_25) 32 op) 30 f_29) 31 n_23)) H := hP
                                  have hD : va_D A (mwd y ad zw (sI (tI (sI (tI (sI (sI (sI (sI σ 2 n_19) 5 n_20) 6 n_21) 29 n_24) 27 f_25) 32 op) 30 f_29) 31 n_23)) := hD
                                  exact x_zretW (v := 1) (u := (n_19, n_20, n_21, n_24, f_25, op, f_29, n_23)) hx hb hr hQ rfl (by (try dsimp only); exact ⟨by omega, by omega, by omega, by omega, by omega, by omega, by omega, by omega, fun h9 => ⟨fun _ => ⟨by omega, by rw [ef_29]; exact ES_next hd1 hm1 (by omega) (by omega)⟩, fun h8 => absurd h8 (by omega)⟩⟩) hP hD hK hS dX12_goesOn_354 hlocks
                                · have kc_22 : n_20.toInt ≠ 0 := by have h9 := c_22; simp only [ge_iff_le, gt_iff_lt, x_lt, x_le, x_eq, ne_eq, Int32.not_lt, Int32.not_le] at h9; simp only [Int32.reduceToInt] at h9; omega
                                  exfalso
                                  omega
                              · replace hw := And.intro hw.1 hw.2.1
                                refine lv_aload_n hx hb dX12_goesOn_325 rfl (lv_at hl 0 rfl) ?_
                                refine va_get (D := D) (ci := 11) (v := .int n_20) (C := RX12) (T := TX12) (N := 85) hx hb hts inX12 hown hK hP 0 mwd_o0 rfl 5 (by decide) fl191 (fun _ h9 => h9) rfl dX12_goesOn_326 ?_
                                refine lv_if_eq (tgt := 334) hx hb dX12_goesOn_329 (by decide) (fun c_30 => ?_) (fun c_30 => ?_)
                                · have kc_30 : n_20.toInt = 0 := by have h9 := c_30; simp only [ge_iff_le, gt_iff_lt, x_lt, x_le, x_eq, ne_eq, Int32.not_lt, Int32.not_le] at h9; simp only [Int32.reduceToInt] at h9; omega
                                  exfalso
                                  omega
                                · have kc_30 : n_20.toInt ≠ 0 := by have h9 := c_30; simp only [ge_iff_le, gt_iff_lt, x_lt, x_le, x_eq, ne_eq, Int32.not_lt, Int32.not_le] at h9; simp only [Int32.reduceToInt] at h9; omega
                                  refine lv_iconst (v := 0) hx hb dX12_goesOn_332 (by decide) ?_
                                  have hP : va_P D vwCl (mwd y ad zw (sI (tI (sI (tI (sI (sI (sI (sI σ 2 n_19) 5 n_20) 6 n_21) 29 cd) 27 fc) 32 op) 30 (σ.2.2.1 30)) 31 ws)) H := hP
                                  have hD : va_D A (mwd y ad zw (sI (tI (sI (tI (sI (sI (sI (sI σ 2 n_19) 5 n_20) 6 n_21) 29 cd) 27 fc) 32 op) 30 (σ.2.2.1 30)) 31 ws)) := hD
                                  exact x_zretW (v := 0) (u := (n_19, n_20, n_21, cd, fc, op, (σ.2.2.1 30), ws)) hx hb hr hQ rfl (by (try dsimp only); exact ⟨by omega, by omega, by omega, by omega, by omega, by omega, by omega, by omega, fun h9 => absurd h9 (by omega)⟩) hP hD hK hS dX12_goesOn_333 hlocks
                            · have kc_18 : r_17.toInt ≠ 21 := by have h9 := c_18; simp only [ge_iff_le, gt_iff_lt, x_lt, x_le, x_eq, ne_eq, Int32.not_lt, Int32.not_le] at h9; simp only [Int32.reduceToInt] at h9; omega
                              refine lv_aload_n hx hb dX12_goesOn_310 rfl (lv_at hl 0 rfl) ?_
                              refine x_calliW (va_runV (As := []) (rest := []) ⟨hx, hb, hml, hown, hts⟩ (q_mark l D y H.size ad zw (sI (sI (sI (sI (sI (sI (sI (tI (sI (sI σ 2 a) 29 cd) 27 fc) 32 op) 31 ws) 2 n_3) 2 n_6) 2 n_9) 2 n_12) 2 n_15) b hbs (show (b : Int) ≤ (ws).toInt from by first | omega | decide) (show (ws).toInt ≤ 800 from by first | omega | decide)) (cwV 0 hts g_q_goesOn_2 rfl rfl rfl (by decide +kernel) ⟨Nat.le_of_ble_eq_true rfl, Nat.le_of_ble_eq_true rfl⟩) (x_preV (q := (RX12, TX12, 85)) hK hP hD (ci := 11) (q0 := 0) rfl mwd_o0) rfl rfl hl.1 rfl (lv_room (Nat.le_of_ble_eq_true rfl)) dX12_goesOn_311 ⟨Nat.le_of_ble_eq_true rfl, Nat.le_of_ble_eq_true rfl⟩) hP hD hS hA (fun r_31 u H locs hw hP hD hS => ?_)
                              try dsimp only at hw
                              have hP : va_P D vwCl (mwd y ad zw (sI (sI (sI (sI (sI (sI (sI (tI (sI (sI σ 2 a) 29 cd) 27 fc) 32 op) 31 ws) 2 n_3) 2 n_6) 2 n_9) 2 n_12) 2 n_15)) H := hP
                              have hD : va_D A (mwd y ad zw (sI (sI (sI (sI (sI (sI (sI (tI (sI (sI σ 2 a) 29 cd) 27 fc) 32 op) 31 ws) 2 n_3) 2 n_6) 2 n_9) 2 n_12) 2 n_15)) := hD
                              replace hw : MK ((σ.2.2.1 30)) b (ws).toInt.toNat r_31.toInt := hw
                              have hmk := hw
                              refine lv_bipush (v := 22) hx hb dX12_goesOn_314 (by decide) ?_
                              refine lv_icmp_ne (tgt := 355) hx hb dX12_goesOn_316 (by decide) (fun c_32 => ?_) (fun c_32 => ?_)
                              · have kc_32 : r_31.toInt ≠ 22 := by have h9 := c_32; simp only [ge_iff_le, gt_iff_lt, x_lt, x_le, x_eq, ne_eq, Int32.not_lt, Int32.not_le] at h9; simp only [Int32.reduceToInt] at h9; omega
                                refine lv_aload_n hx hb dX12_goesOn_355 rfl (lv_at hl 0 rfl) ?_
                                refine x_calliW (va_runV (As := []) (rest := []) ⟨hx, hb, hml, hown, hts⟩ (q_mark l D y H.size ad zw (sI (sI (sI (sI (sI (sI (sI (tI (sI (sI σ 2 a) 29 cd) 27 fc) 32 op) 31 ws) 2 n_3) 2 n_6) 2 n_9) 2 n_12) 2 n_15) b hbs (show (b : Int) ≤ (ws).toInt from by first | omega | decide) (show (ws).toInt ≤ 800 from by first | omega | decide)) (cwV 0 hts g_q_goesOn_2 rfl rfl rfl (by decide +kernel) ⟨Nat.le_of_ble_eq_true rfl, Nat.le_of_ble_eq_true rfl⟩) (x_preV (q := (RX12, TX12, 85)) hK hP hD (ci := 11) (q0 := 0) rfl mwd_o0) rfl rfl hl.1 rfl (lv_room (Nat.le_of_ble_eq_true rfl)) dX12_goesOn_356 ⟨Nat.le_of_ble_eq_true rfl, Nat.le_of_ble_eq_true rfl⟩) hP hD hS hA (fun r_33 u H locs hw hP hD hS => ?_)
                                try dsimp only at hw
                                have hP : va_P D vwCl (mwd y ad zw (sI (sI (sI (sI (sI (sI (sI (tI (sI (sI σ 2 a) 29 cd) 27 fc) 32 op) 31 ws) 2 n_3) 2 n_6) 2 n_9) 2 n_12) 2 n_15)) H := hP
                                have hD : va_D A (mwd y ad zw (sI (sI (sI (sI (sI (sI (sI (tI (sI (sI σ 2 a) 29 cd) 27 fc) 32 op) 31 ws) 2 n_3) 2 n_6) 2 n_9) 2 n_12) 2 n_15)) := hD
                                replace hw : MK ((σ.2.2.1 30)) b (ws).toInt.toNat r_33.toInt := hw
                                have hmk := hw
                                refine lv_iconst (v := (-1)) hx hb dX12_goesOn_359 (by decide) ?_
                                refine lv_icmp_eq (tgt := 379) hx hb dX12_goesOn_360 (by decide) (fun c_34 => ?_) (fun c_34 => ?_)
                                · have kc_34 : r_33.toInt = (-1) := by have h9 := c_34; simp only [ge_iff_le, gt_iff_lt, x_lt, x_le, x_eq, ne_eq, Int32.not_lt, Int32.not_le] at h9; simp only [Int32.reduceToInt] at h9; omega
                                  refine lv_iconst (v := 0) hx hb dX12_goesOn_379 (by decide) ?_
                                  have hP : va_P D vwCl (mwd y ad zw (sI (tI (sI (tI (sI (sI (sI (sI σ 2 n_15) 5 (σ.1 5)) 6 (σ.1 6)) 29 cd) 27 fc) 32 op) 30 (σ.2.2.1 30)) 31 ws)) H := hP
                                  have hD : va_D A (mwd y ad zw (sI (tI (sI (tI (sI (sI (sI (sI σ 2 n_15) 5 (σ.1 5)) 6 (σ.1 6)) 29 cd) 27 fc) 32 op) 30 (σ.2.2.1 30)) 31 ws)) := hD
                                  exact x_zretW (v := 0) (u := (n_15, (σ.1 5), (σ.1 6), cd, fc, op, (σ.2.2.1 30), ws)) hx hb hr hQ rfl (by (try dsimp only); exact ⟨by omega, by omega, by omega, by omega, by omega, by omega, by omega, by omega, fun h9 => ⟨fun h8 => absurd h8 (by omega), fun _ => ⟨hE, by rcases hmk with h7 | ⟨k7, h7⟩ <;> first | exact h7.2 | (exfalso; omega)⟩⟩⟩) hP hD hK hS dX12_goesOn_380 hlocks
                                · have kc_34 : r_33.toInt ≠ (-1) := by have h9 := c_34; simp only [ge_iff_le, gt_iff_lt, x_lt, x_le, x_eq, ne_eq, Int32.not_lt, Int32.not_le] at h9; simp only [Int32.reduceToInt] at h9; omega
                                  refine lv_aload_n hx hb dX12_goesOn_363 rfl (lv_at hl 0 rfl) ?_
                                  refine va_get (D := D) (ci := 11) (v := .int (σ.1 5)) (C := RX12) (T := TX12) (N := 85) hx hb hts inX12 hown hK hP 0 mwd_o0 rfl 5 (by decide) fl191 (fun _ h9 => h9) rfl dX12_goesOn_364 ?_
                                  refine lv_if_ne (tgt := 379) hx hb dX12_goesOn_367 (by decide) (fun c_35 => ?_) (fun c_35 => ?_)
                                  · have kc_35 : (σ.1 5).toInt ≠ 0 := by have h9 := c_35; simp only [ge_iff_le, gt_iff_lt, x_lt, x_le, x_eq, ne_eq, Int32.not_lt, Int32.not_le] at h9; simp only [Int32.reduceToInt] at h9; omega
                                    exfalso
                                    omega
                                  · have kc_35 : (σ.1 5).toInt = 0 := by have h9 := c_35; simp only [ge_iff_le, gt_iff_lt, x_lt, x_le, x_eq, ne_eq, Int32.not_lt, Int32.not_le] at h9; simp only [Int32.reduceToInt] at h9; omega
                                    refine lv_aload_n hx hb dX12_goesOn_370 rfl (lv_at hl 0 rfl) ?_
                                    refine lv_iconst (v := 1) hx hb dX12_goesOn_371 (by decide) ?_
                                    refine lv_aload_n hx hb dX12_goesOn_372 rfl (lv_at hl 0 rfl) ?_
                                    refine va_get (D := D) (ci := 11) (v := .int n_15) (C := RX12) (T := TX12) (N := 85) hx hb hts inX12 hown hK hP 0 mwd_o0 rfl 2 (by decide) fl197 (fun _ h9 => h9) rfl dX12_goesOn_373 ?_
                                    refine x_callvW (va_runV (As := [.int 1, .int n_15]) (rest := []) ⟨hx, hb, hml, hown, hts⟩ (q_fail l D y H.size ad zw (sI (sI (sI (sI (sI (sI (sI (tI (sI (sI σ 2 a) 29 cd) 27 fc) 32 op) 31 ws) 2 n_3) 2 n_6) 2 n_9) 2 n_12) 2 n_15) 1 n_15) (cwV 2 hts g_q_goesOn_5 rfl rfl rfl (by decide +kernel) ⟨Nat.le_of_ble_eq_true rfl, Nat.le_of_ble_eq_true rfl⟩) (x_preV (q := (RX12, TX12, 85)) hK hP hD (ci := 11) (q0 := 0) rfl mwd_o0) rfl rfl hl.1 rfl (lv_room (Nat.le_of_ble_eq_true rfl)) dX12_goesOn_376 ⟨Nat.le_of_ble_eq_true rfl, Nat.le_of_ble_eq_true rfl⟩) hP hD hS hA (fun u H locs hw hP hD hS => ?_)
                                    obtain ⟨b_36, b_37⟩ := u
                                    try dsimp only at hw
                                    have hP : va_P D vwCl (mwd y ad zw (sI (sI (sI (sI (sI (sI (sI (sI (sI (tI (sI (sI σ 2 a) 29 cd) 27 fc) 32 op) 31 ws) 2 n_3) 2 n_6) 2 n_9) 2 n_12) 2 n_15) 5 b_36) 6 b_37)) H := hP
                                    have hD : va_D A (mwd y ad zw (sI (sI (sI (sI (sI (sI (sI (sI (sI (tI (sI (sI σ 2 a) 29 cd) 27 fc) 32 op) 31 ws) 2 n_3) 2 n_6) 2 n_9) 2 n_12) 2 n_15) 5 b_36) 6 b_37)) := hD
                                    replace hw : b_36 = if (σ.1 5) = 0 then (1 : Int32) else (σ.1 5) := hw
                                    have hbd : b_36.toInt ≠ 0 := by rw [hw]; split <;> first | decide | (rename_i h9; intro h8; exact h9 (Int32.toInt_inj.mp (by rw [h8]; rfl)))
                                    clear hw
                                    refine lv_iconst (v := 0) hx hb dX12_goesOn_379 (by decide) ?_
                                    have hP : va_P D vwCl (mwd y ad zw (sI (tI (sI (tI (sI (sI (sI (sI σ 2 n_15) 5 b_36) 6 b_37) 29 cd) 27 fc) 32 op) 30 (σ.2.2.1 30)) 31 ws)) H := hP
                                    have hD : va_D A (mwd y ad zw (sI (tI (sI (tI (sI (sI (sI (sI σ 2 n_15) 5 b_36) 6 b_37) 29 cd) 27 fc) 32 op) 30 (σ.2.2.1 30)) 31 ws)) := hD
                                    exact x_zretW (v := 0) (u := (n_15, b_36, b_37, cd, fc, op, (σ.2.2.1 30), ws)) hx hb hr hQ rfl (by (try dsimp only); exact ⟨by omega, by omega, by omega, by omega, by omega, by omega, by omega, by omega, fun h9 => absurd h9 (by omega)⟩) hP hD hK hS dX12_goesOn_380 hlocks
                              · have kc_32 : r_31.toInt = 22 := by have h9 := c_32; simp only [ge_iff_le, gt_iff_lt, x_lt, x_le, x_eq, ne_eq, Int32.not_lt, Int32.not_le] at h9; simp only [Int32.reduceToInt] at h9; omega
                                refine lv_aload_n hx hb dX12_goesOn_319 rfl (lv_at hl 0 rfl) ?_
                                refine lv_bipush (v := 44) hx hb dX12_goesOn_320 (by decide) ?_
                                refine x_callvW (va_runV (As := [.int 44]) (rest := []) ⟨hx, hb, hml, hown, hts⟩ (q_asksSign l D y H.size ad zw (sI (sI (sI (sI (sI (sI (sI (tI (sI (sI σ 2 a) 29 cd) 27 fc) 32 op) 31 ws) 2 n_3) 2 n_6) 2 n_9) 2 n_12) 2 n_15) 44 (by first | omega | decide) (show 0 ≤ (n_15).toInt from by first | omega | decide) (show (n_15).toInt ≤ ((σ.1 3)).toInt from by first | omega | decide) (show ((σ.1 3)).toInt ≤ 700 from by first | omega | decide)) (cwV 1 hts g_q_goesOn_3 rfl rfl rfl (by decide +kernel) ⟨Nat.le_of_ble_eq_true rfl, Nat.le_of_ble_eq_true rfl⟩) (x_preV (q := (RX12, TX12, 85)) hK hP hD (ci := 11) (q0 := 0) rfl mwd_o0) rfl rfl hl.1 rfl (lv_room (Nat.le_of_ble_eq_true rfl)) dX12_goesOn_322 ⟨Nat.le_of_ble_eq_true rfl, Nat.le_of_ble_eq_true rfl⟩) hP hD hS hA (fun u H locs hw hP hD hS => ?_)
                                obtain ⟨n_38, n_39, n_40⟩ := u
                                try dsimp only at hw
                                have hP : va_P D vwCl (mwd y ad zw (sI (sI (sI (sI (sI (sI (sI (sI (sI (sI (tI (sI (sI σ 2 a) 29 cd) 27 fc) 32 op) 31 ws) 2 n_3) 2 n_6) 2 n_9) 2 n_12) 2 n_15) 2 n_38) 5 n_39) 6 n_40)) H := hP
                                have hD : va_D A (mwd y ad zw (sI (sI (sI (sI (sI (sI (sI (sI (sI (sI (tI (sI (sI σ 2 a) 29 cd) 27 fc) 32 op) 31 ws) 2 n_3) 2 n_6) 2 n_9) 2 n_12) 2 n_15) 2 n_38) 5 n_39) 6 n_40)) := hD
                                replace hw : (n_15).toInt ≤ n_38.toInt ∧ n_38.toInt ≤ ((σ.1 3)).toInt ∧ (n_39.toInt = 0 → ((σ.1 5)).toInt = 0 ∧ (n_15).toInt + 1 ≤ n_38.toInt) := hw
                                rcases Classical.em (n_39.toInt = 0) with hbz | hbz
                                · have hsp := (hw.2.2 hbz).2
                                  replace hw := And.intro hw.1 hw.2.1
                                  refine lv_aload_n hx hb dX12_goesOn_325 rfl (lv_at hl 0 rfl) ?_
                                  refine va_get (D := D) (ci := 11) (v := .int n_39) (C := RX12) (T := TX12) (N := 85) hx hb hts inX12 hown hK hP 0 mwd_o0 rfl 5 (by decide) fl191 (fun _ h9 => h9) rfl dX12_goesOn_326 ?_
                                  refine lv_if_eq (tgt := 334) hx hb dX12_goesOn_329 (by decide) (fun c_41 => ?_) (fun c_41 => ?_)
                                  · have kc_41 : n_39.toInt = 0 := by have h9 := c_41; simp only [ge_iff_le, gt_iff_lt, x_lt, x_le, x_eq, ne_eq, Int32.not_lt, Int32.not_le] at h9; simp only [Int32.reduceToInt] at h9; omega
                                    refine lv_aload_n hx hb dX12_goesOn_334 rfl (lv_at hl 0 rfl) ?_
                                    refine x_callvW (va_runV (As := []) (rest := []) ⟨hx, hb, hml, hown, hts⟩ (q_dropsToMark l D y H.size ad zw (sI (sI (sI (sI (sI (sI (sI (sI (sI (sI (tI (sI (sI σ 2 a) 29 cd) 27 fc) 32 op) 31 ws) 2 n_3) 2 n_6) 2 n_9) 2 n_12) 2 n_15) 2 n_38) 5 n_39) 6 n_40) f0 w0 c0 b X o0 hbs (show 0 ≤ (ws).toInt from by first | omega | decide) (show (ws).toInt ≤ 800 from by first | omega | decide) (show 0 ≤ (cd).toInt from by first | omega | decide) (show (cd).toInt + (ws).toInt < 1200 from by first | omega | decide) hX1 hE) (cwV 0 hts g_q_goesOn_4 rfl rfl rfl (by decide +kernel) ⟨Nat.le_of_ble_eq_true rfl, Nat.le_of_ble_eq_true rfl⟩) (x_preV (q := (RX12, TX12, 85)) hK hP hD (ci := 11) (q0 := 0) rfl mwd_o0) rfl rfl hl.1 rfl (lv_room (Nat.le_of_ble_eq_true rfl)) dX12_goesOn_335 ⟨Nat.le_of_ble_eq_true rfl, Nat.le_of_ble_eq_true rfl⟩) hP hD hS hA (fun u H locs hw hP hD hS => ?_)
                                    obtain ⟨n_42, n_43, f_44⟩ := u
                                    try dsimp only at hw
                                    have hP : va_P D vwCl (mwd y ad zw (tI (sI (sI (sI (sI (sI (sI (sI (sI (sI (sI (sI (sI (tI (sI (sI σ 2 a) 29 cd) 27 fc) 32 op) 31 ws) 2 n_3) 2 n_6) 2 n_9) 2 n_12) 2 n_15) 2 n_38) 5 n_39) 6 n_40) 31 n_42) 29 n_43) 27 f_44)) H := hP
                                    have hD : va_D A (mwd y ad zw (tI (sI (sI (sI (sI (sI (sI (sI (sI (sI (sI (sI (sI (tI (sI (sI σ 2 a) 29 cd) 27 fc) 32 op) 31 ws) 2 n_3) 2 n_6) 2 n_9) 2 n_12) 2 n_15) 2 n_38) 5 n_39) 6 n_40) 31 n_42) 29 n_43) 27 f_44)) := hD
                                    replace hw : ES f0 f_44 w0 ((σ.2.2.1 30)) c0 n_43.toInt.toNat b n_42.toInt.toNat 1 X (op).toInt o0 ∧ n_43.toInt + n_42.toInt = (cd).toInt + (ws).toInt ∧ n_42.toInt ≤ (ws).toInt ∧ (cd).toInt ≤ n_43.toInt ∧ (b : Int) ≤ n_42.toInt ∧ (n_42.toInt = (b : Int) ∨ (20 ≤ (((σ.2.2.1 30)) (n_42.toInt.toNat - 1)).toInt ∧ (((σ.2.2.1 30)) (n_42.toInt.toNat - 1)).toInt < 30)) ∧ ∀ j : Nat, n_42.toInt ≤ (j : Int) → (j : Int) < (ws).toInt → ¬ (20 ≤ (((σ.2.2.1 30)) j).toInt ∧ (((σ.2.2.1 30)) j).toInt < 30) := hw
                                    obtain ⟨hd1, hd2, hd3, hd4, hd5, hd6, hd7⟩ := hw
                                    obtain ⟨hm1, hm2⟩ := MK_top hmk (by omega) (n' := n_42.toInt.toNat) (by omega) (by omega) (by rcases hd6 with h9 | h9 <;> first | exact Or.inl (by omega) | exact Or.inr h9) (fun j h1 h2 => hd7 j (by omega) (by omega))
                                    clear hd6 hd7
                                    refine lv_aload_n hx hb dX12_goesOn_338 rfl (lv_at hl 0 rfl) ?_
                                    refine va_get (D := D) (ci := 11) (v := .ref (ad 30)) (C := RX12) (T := TX12) (N := 85) hx hb hts inX12 hown hK hP 0 mwd_o0 rfl 30 (by decide) fl75 (fun _ h9 => h9) rfl dX12_goesOn_339 ?_
                                    refine lv_aload_n hx hb dX12_goesOn_342 rfl (lv_at hl 0 rfl) ?_
                                    refine va_get (D := D) (ci := 11) (v := .int n_42) (C := RX12) (T := TX12) (N := 85) hx hb hts inX12 hown hK hP 0 mwd_o0 rfl 31 (by decide) fl263 (fun _ h9 => h9) rfl dX12_goesOn_343 ?_
                                    refine lv_iconst (v := 1) hx hb dX12_goesOn_346 (by decide) ?_
                                    refine lv_isub hx hb dX12_goesOn_347 ?_
                                    refine lv_topi (fun i_45 ei_45 => ?_)
                                    have vi_45 : i_45.toInt = n_42.toInt - 1 := by have h9 := x_sub ei_45 (by omega) (by omega); omega
                                    refine lv_dup2_11 hx hb dX12_goesOn_348 rfl rfl ?_
                                    refine va_iald hx hb hK hP 21 2 mwd_a21 rfl (x_in (by omega) (by omega)) dX12_goesOn_349 ?_
                                    refine lv_topi (fun i_46 ei_46 => ?_)
                                    have ei_46 : i_46 = (σ.2.2.1 30) (Int32.toNatClampNeg i_45) := ei_46
                                    have qi_46 : i_46.toInt = ((σ.2.2.1 30) (n_42.toInt.toNat - 1)).toInt := by rw [ei_46, x_cl (n := n_42.toInt.toNat - 1) (by omega)]
                                    refine lv_iconst (v := 2) hx hb dX12_goesOn_350 (by decide) ?_
                                    refine lv_iadd hx hb dX12_goesOn_351 ?_
                                    refine lv_topi (fun i_47 ei_47 => ?_)
                                    have vi_47 : i_47.toInt = i_46.toInt + 2 := by have h9 := x_add ei_47 (by omega) (by omega); omega
                                    refine va_iast hx hb hK hP hD hS 21 2 mwd_a21 rfl (x_in (by omega) (by omega)) dX12_goesOn_352 (fun H locs hP hD hS => ?_)
                                    obtain ⟨f_48, ef_48⟩ : ∃ z9 : Nat → Int32, z9 = (upd (σ.2.2.1 30) (Int32.toNatClampNeg i_45) i_47) := ⟨_, rfl⟩
                                    have hP : va_P D vwCl (mwd y ad zw (tI (tI (sI (sI (sI (sI (sI (sI (sI (sI (sI (sI (sI (sI (tI (sI (sI σ 2 a) 29 cd) 27 fc) 32 op) 31 ws) 2 n_3) 2 n_6) 2 n_9) 2 n_12) 2 n_15) 2 n_38) 5 n_39) 6 n_40) 31 n_42) 29 n_43) 27 f_44) 30 f_48)) H := by rw [ef_48]; exact x_trP hP mwd_s21
                                    have hD : va_D A (mwd y ad zw (tI (tI (sI (sI (sI (sI (sI (sI (sI (sI (sI (sI (sI (sI (tI (sI (sI σ 2 a) 29 cd) 27 fc) 32 op) 31 ws) 2 n_3) 2 n_6) 2 n_9) 2 n_12) 2 n_15) 2 n_38) 5 n_39) 6 n_40) 31 n_42) 29 n_43) 27 f_44) 30 f_48)) := by rw [ef_48]; exact x_trD hD mwd_s21
                                    rw [x_cl (n := n_42.toInt.toNat - 1) (by omega)] at ef_48
                                    refine lv_iconst (v := 1) hx hb dX12_goesOn_353 (by decide) ?_
                                    have hP : va_P D vwCl (mwd y ad zw (sI (tI (sI (tI (sI (sI (sI (sI σ 2 n_38) 5 n_39) 6 n_40) 29 n_43) 27 f_44) 32 op) 30 f_48) 31 n_42)) H := hP
                                    have hD : va_D A (mwd y ad zw (sI (tI (sI (tI (sI (sI (sI (sI σ 2 n_38) 5 n_39) 6 n_40) 29 n_43) 27 f_44) 32 op) 30 f_48) 31 n_42)) := hD
                                    exact x_zretW (v := 1) (u := (n_38, n_39, n_40, n_43, f_44, op, f_48, n_42)) hx hb hr hQ rfl (by (try dsimp only); exact ⟨by omega, by omega, by omega, by omega, by omega, by omega, by omega, by omega, fun h9 => ⟨fun _ => ⟨by omega, by rw [ef_48]; exact ES_next hd1 hm1 (by omega) (by omega)⟩, fun h8 => absurd h8 (by omega)⟩⟩) hP hD hK hS dX12_goesOn_354 hlocks
                                  · have kc_41 : n_39.toInt ≠ 0 := by have h9 := c_41; simp only [ge_iff_le, gt_iff_lt, x_lt, x_le, x_eq, ne_eq, Int32.not_lt, Int32.not_le] at h9; simp only [Int32.reduceToInt] at h9; omega
                                    exfalso
                                    omega
                                · replace hw := And.intro hw.1 hw.2.1
                                  refine lv_aload_n hx hb dX12_goesOn_325 rfl (lv_at hl 0 rfl) ?_
                                  refine va_get (D := D) (ci := 11) (v := .int n_39) (C := RX12) (T := TX12) (N := 85) hx hb hts inX12 hown hK hP 0 mwd_o0 rfl 5 (by decide) fl191 (fun _ h9 => h9) rfl dX12_goesOn_326 ?_
                                  refine lv_if_eq (tgt := 334) hx hb dX12_goesOn_329 (by decide) (fun c_49 => ?_) (fun c_49 => ?_)
                                  · have kc_49 : n_39.toInt = 0 := by have h9 := c_49; simp only [ge_iff_le, gt_iff_lt, x_lt, x_le, x_eq, ne_eq, Int32.not_lt, Int32.not_le] at h9; simp only [Int32.reduceToInt] at h9; omega
                                    exfalso
                                    omega
                                  · have kc_49 : n_39.toInt ≠ 0 := by have h9 := c_49; simp only [ge_iff_le, gt_iff_lt, x_lt, x_le, x_eq, ne_eq, Int32.not_lt, Int32.not_le] at h9; simp only [Int32.reduceToInt] at h9; omega
                                    refine lv_iconst (v := 0) hx hb dX12_goesOn_332 (by decide) ?_
                                    have hP : va_P D vwCl (mwd y ad zw (sI (tI (sI (tI (sI (sI (sI (sI σ 2 n_38) 5 n_39) 6 n_40) 29 cd) 27 fc) 32 op) 30 (σ.2.2.1 30)) 31 ws)) H := hP
                                    have hD : va_D A (mwd y ad zw (sI (tI (sI (tI (sI (sI (sI (sI σ 2 n_38) 5 n_39) 6 n_40) 29 cd) 27 fc) 32 op) 30 (σ.2.2.1 30)) 31 ws)) := hD
                                    exact x_zretW (v := 0) (u := (n_38, n_39, n_40, cd, fc, op, (σ.2.2.1 30), ws)) hx hb hr hQ rfl (by (try dsimp only); exact ⟨by omega, by omega, by omega, by omega, by omega, by omega, by omega, by omega, fun h9 => absurd h9 (by omega)⟩) hP hD hK hS dX12_goesOn_333 hlocks
                          · have kc_16 : r_14.toInt ≠ 0 := by have h9 := c_16; simp only [ge_iff_le, gt_iff_lt, x_lt, x_le, x_eq, ne_eq, Int32.not_lt, Int32.not_le] at h9; simp only [Int32.reduceToInt] at h9; omega
                            exfalso
                            omega
                        · skip
                          refine lv_if_eq (tgt := 301) hx hb dX12_goesOn_215 (by decide) (fun c_50 => ?_) (fun c_50 => ?_)
                          · have kc_50 : r_14.toInt = 0 := by have h9 := c_50; simp only [ge_iff_le, gt_iff_lt, x_lt, x_le, x_eq, ne_eq, Int32.not_lt, Int32.not_le] at h9; simp only [Int32.reduceToInt] at h9; omega
                            exfalso
                            omega
                          · have kc_50 : r_14.toInt ≠ 0 := by have h9 := c_50; simp only [ge_iff_le, gt_iff_lt, x_lt, x_le, x_eq, ne_eq, Int32.not_lt, Int32.not_le] at h9; simp only [Int32.reduceToInt] at h9; omega
                            refine lv_aload_n hx hb dX12_goesOn_218 rfl (lv_at hl 0 rfl) ?_
                            refine va_get (D := D) (ci := 11) (v := .ref (ad 0)) (C := RX12) (T := TX12) (N := 85) hx hb hts inX12 hown hK hP 0 mwd_o0 rfl 0 (by decide) fl7 (fun _ h9 => h9) rfl dX12_goesOn_219 ?_
                            refine lv_aload_n hx hb dX12_goesOn_222 rfl (lv_at hl 0 rfl) ?_
                            refine va_get (D := D) (ci := 11) (v := .int n_15) (C := RX12) (T := TX12) (N := 85) hx hb hts inX12 hown hK hP 0 mwd_o0 rfl 2 (by decide) fl197 (fun _ h9 => h9) rfl dX12_goesOn_223 ?_
                            refine lv_iconst (v := 1) hx hb dX12_goesOn_226 (by decide) ?_
                            refine lv_isub hx hb dX12_goesOn_227 ?_
                            refine lv_topi (fun i_51 ei_51 => ?_)
                            have vi_51 : i_51.toInt = n_15.toInt - 1 := by have h9 := x_sub ei_51 (by omega) (by omega); omega
                            refine va_iald hx hb hK hP 1 2 mwd_a1 rfl (x_in (by omega) (by omega)) dX12_goesOn_228 ?_
                            refine lv_topi (fun i_52 ei_52 => ?_)
                            have ei_52 : i_52 = (σ.2.2.1 0) (Int32.toNatClampNeg i_51) := ei_52
                            refine lv_bipush (v := 43) hx hb dX12_goesOn_229 (by decide) ?_
                            refine lv_icmp_ne (tgt := 238) hx hb dX12_goesOn_231 (by decide) (fun c_53 => ?_) (fun c_53 => ?_)
                            · have kc_53 : i_52.toInt ≠ 43 := by have h9 := c_53; simp only [ge_iff_le, gt_iff_lt, x_lt, x_le, x_eq, ne_eq, Int32.not_lt, Int32.not_le] at h9; simp only [Int32.reduceToInt] at h9; omega
                              refine lv_iconst (v := 2) hx hb dX12_goesOn_238 (by decide) ?_
                              refine lv_istore_n (lv' := [(1, .int 2), (0, .ref (ad 1))]) hx hb dX12_goesOn_239 rfl hl (by decide) rfl (fun ls hl => ?_)
                              have hP : va_P D vwCl (mwd y ad zw (sI (tI (sI (sI (sI σ 32 op) 2 n_15) 29 cd) 27 fc) 31 ws)) H := hP
                              have hD : va_D A (mwd y ad zw (sI (tI (sI (sI (sI σ 32 op) 2 n_15) 29 cd) 27 fc) 31 ws)) := hD
                              have loop3 : ∀ (fu : Nat) (o1 : Int32) (cd2 : Int32) (fc2 : Nat → Int32) (ws2 : Int32) (H : Heap) (locs : List Loc) (ls : Array Slot), (1 ≤ o1.toInt) → (o1.toInt ≤ 4) → ((b : Int) ≤ ws2.toInt) → ((σ.1 29).toInt ≤ cd2.toInt) → (cd2.toInt + ws2.toInt = cd.toInt + ws.toInt) → (ES f0 fc2 w0 (σ.2.2.1 30) c0 cd2.toInt.toNat b ws2.toInt.toNat 1 X op.toInt o0) → (ws2.toInt < (fu : Int)) → va_P D vwCl (mwd y ad zw (sI (tI (sI (sI (sI σ 32 op) 2 n_15) 29 cd2) 27 fc2) 31 ws2)) H → va_D A (mwd y ad zw (sI (tI (sI (sI (sI σ 32 op) 2 n_15) 29 cd2) 27 fc2) 31 ws2)) → va_S A s.heap H locs → lv_has ls 2 [(1, .int o1), (0, .ref (ad 1))] → W p l e ({ frames := 3, cells := 0, slots := 0, locals := 64 } : Room) s m ([.ref (ad 1)] : List Value).toArray below meth c H locs 0 0 Q (F0 m 240 ls []) := by
                                intro fu
                                induction fu with
                                | zero =>
                                  intro o1 cd2 fc2 ws2 H locs ls hV1 hV2 hW2 hC2 hp2 hE2 hm
                                  exact absurd hm (by omega)
                                | succ fu ih_loop3 =>
                                  intro o1 cd2 fc2 ws2 H locs ls hV1 hV2 hW2 hC2 hp2 hE2 hm hP hD hS hl
                                  refine lv_aload_n hx hb dX12_goesOn_240 rfl (lv_at hl 1 rfl) ?_
                                  refine lv_iconst (v := 3) hx hb dX12_goesOn_241 (by decide) ?_
                                  refine x_calliW (va_runV (As := [.int 3]) (rest := []) ⟨hx, hb, hml, hown, hts⟩ (q_isOn l D y H.size ad zw (sI (tI (sI (sI (sI σ 32 op) 2 n_15) 29 cd2) 27 fc2) 31 ws2) 3 (show 0 ≤ (ws2).toInt from by first | omega | decide) (show (ws2).toInt ≤ 800 from by first | omega | decide)) (cwV 1 hts g_q_goesOn_6 rfl rfl rfl (by decide +kernel) ⟨Nat.le_of_ble_eq_true rfl, Nat.le_of_ble_eq_true rfl⟩) (x_preV (q := (RX12, TX12, 85)) hK hP hD (ci := 11) (q0 := 0) rfl mwd_o0) rfl rfl hl.1 rfl (lv_room (Nat.le_of_ble_eq_true rfl)) dX12_goesOn_242 ⟨Nat.le_of_ble_eq_true rfl, Nat.le_of_ble_eq_true rfl⟩) hP hD hS hA (fun r_54 u H locs hw hP hD hS => ?_)
                                  try dsimp only at hw
                                  have hP : va_P D vwCl (mwd y ad zw (sI (tI (sI (sI (sI σ 32 op) 2 n_15) 29 cd2) 27 fc2) 31 ws2)) H := hP
                                  have hD : va_D A (mwd y ad zw (sI (tI (sI (sI (sI σ 32 op) 2 n_15) 29 cd2) 27 fc2) 31 ws2)) := hD
                                  replace hw : (r_54.toInt = 0 ∧ ((ws2).toInt ≤ 0 ∨ (((σ.2.2.1 30)) ((ws2).toInt.toNat - 1)).toInt ≠ (3 : Int32).toInt)) ∨ (r_54.toInt = 1 ∧ 1 ≤ (ws2).toInt ∧ (((σ.2.2.1 30)) ((ws2).toInt.toNat - 1)).toInt = (3 : Int32).toInt) := hw
                                  rcases hw with ⟨hi1, hi2⟩ | ⟨hi1, hi2, hi3⟩
                                  · clear hi2
                                    refine lv_if_ne (tgt := 272) hx hb dX12_goesOn_245 (by decide) (fun c_55 => ?_) (fun c_55 => ?_)
                                    · have kc_55 : r_54.toInt ≠ 0 := by have h9 := c_55; simp only [ge_iff_le, gt_iff_lt, x_lt, x_le, x_eq, ne_eq, Int32.not_lt, Int32.not_le] at h9; simp only [Int32.reduceToInt] at h9; omega
                                      exfalso
                                      omega
                                    · have kc_55 : r_54.toInt = 0 := by have h9 := c_55; simp only [ge_iff_le, gt_iff_lt, x_lt, x_le, x_eq, ne_eq, Int32.not_lt, Int32.not_le] at h9; simp only [Int32.reduceToInt] at h9; omega
                                      refine lv_aload_n hx hb dX12_goesOn_248 rfl (lv_at hl 1 rfl) ?_
                                      refine lv_iconst (v := 4) hx hb dX12_goesOn_249 (by decide) ?_
                                      refine x_calliW (va_runV (As := [.int 4]) (rest := []) ⟨hx, hb, hml, hown, hts⟩ (q_isOn l D y H.size ad zw (sI (tI (sI (sI (sI σ 32 op) 2 n_15) 29 cd2) 27 fc2) 31 ws2) 4 (show 0 ≤ (ws2).toInt from by first | omega | decide) (show (ws2).toInt ≤ 800 from by first | omega | decide)) (cwV 1 hts g_q_goesOn_6 rfl rfl rfl (by decide +kernel) ⟨Nat.le_of_ble_eq_true rfl, Nat.le_of_ble_eq_true rfl⟩) (x_preV (q := (RX12, TX12, 85)) hK hP hD (ci := 11) (q0 := 0) rfl mwd_o0) rfl rfl hl.1 rfl (lv_room (Nat.le_of_ble_eq_true rfl)) dX12_goesOn_250 ⟨Nat.le_of_ble_eq_true rfl, Nat.le_of_ble_eq_true rfl⟩) hP hD hS hA (fun r_56 u H locs hw hP hD hS => ?_)
                                      try dsimp only at hw
                                      have hP : va_P D vwCl (mwd y ad zw (sI (tI (sI (sI (sI σ 32 op) 2 n_15) 29 cd2) 27 fc2) 31 ws2)) H := hP
                                      have hD : va_D A (mwd y ad zw (sI (tI (sI (sI (sI σ 32 op) 2 n_15) 29 cd2) 27 fc2) 31 ws2)) := hD
                                      replace hw : (r_56.toInt = 0 ∧ ((ws2).toInt ≤ 0 ∨ (((σ.2.2.1 30)) ((ws2).toInt.toNat - 1)).toInt ≠ (4 : Int32).toInt)) ∨ (r_56.toInt = 1 ∧ 1 ≤ (ws2).toInt ∧ (((σ.2.2.1 30)) ((ws2).toInt.toNat - 1)).toInt = (4 : Int32).toInt) := hw
                                      rcases hw with ⟨hi1, hi2⟩ | ⟨hi1, hi2, hi3⟩
                                      · clear hi2
                                        refine lv_if_ne (tgt := 272) hx hb dX12_goesOn_253 (by decide) (fun c_57 => ?_) (fun c_57 => ?_)
                                        · have kc_57 : r_56.toInt ≠ 0 := by have h9 := c_57; simp only [ge_iff_le, gt_iff_lt, x_lt, x_le, x_eq, ne_eq, Int32.not_lt, Int32.not_le] at h9; simp only [Int32.reduceToInt] at h9; omega
                                          exfalso
                                          omega
                                        · have kc_57 : r_56.toInt = 0 := by have h9 := c_57; simp only [ge_iff_le, gt_iff_lt, x_lt, x_le, x_eq, ne_eq, Int32.not_lt, Int32.not_le] at h9; simp only [Int32.reduceToInt] at h9; omega
                                          refine lv_aload_n hx hb dX12_goesOn_256 rfl (lv_at hl 1 rfl) ?_
                                          refine lv_iconst (v := 1) hx hb dX12_goesOn_257 (by decide) ?_
                                          refine x_calliW (va_runV (As := [.int 1]) (rest := []) ⟨hx, hb, hml, hown, hts⟩ (q_isOn l D y H.size ad zw (sI (tI (sI (sI (sI σ 32 op) 2 n_15) 29 cd2) 27 fc2) 31 ws2) 1 (show 0 ≤ (ws2).toInt from by first | omega | decide) (show (ws2).toInt ≤ 800 from by first | omega | decide)) (cwV 1 hts g_q_goesOn_6 rfl rfl rfl (by decide +kernel) ⟨Nat.le_of_ble_eq_true rfl, Nat.le_of_ble_eq_true rfl⟩) (x_preV (q := (RX12, TX12, 85)) hK hP hD (ci := 11) (q0 := 0) rfl mwd_o0) rfl rfl hl.1 rfl (lv_room (Nat.le_of_ble_eq_true rfl)) dX12_goesOn_258 ⟨Nat.le_of_ble_eq_true rfl, Nat.le_of_ble_eq_true rfl⟩) hP hD hS hA (fun r_58 u H locs hw hP hD hS => ?_)
                                          try dsimp only at hw
                                          have hP : va_P D vwCl (mwd y ad zw (sI (tI (sI (sI (sI σ 32 op) 2 n_15) 29 cd2) 27 fc2) 31 ws2)) H := hP
                                          have hD : va_D A (mwd y ad zw (sI (tI (sI (sI (sI σ 32 op) 2 n_15) 29 cd2) 27 fc2) 31 ws2)) := hD
                                          replace hw : (r_58.toInt = 0 ∧ ((ws2).toInt ≤ 0 ∨ (((σ.2.2.1 30)) ((ws2).toInt.toNat - 1)).toInt ≠ (1 : Int32).toInt)) ∨ (r_58.toInt = 1 ∧ 1 ≤ (ws2).toInt ∧ (((σ.2.2.1 30)) ((ws2).toInt.toNat - 1)).toInt = (1 : Int32).toInt) := hw
                                          rcases hw with ⟨hi1, hi2⟩ | ⟨hi1, hi2, hi3⟩
                                          · clear hi2
                                            refine lv_if_ne (tgt := 272) hx hb dX12_goesOn_261 (by decide) (fun c_59 => ?_) (fun c_59 => ?_)
                                            · have kc_59 : r_58.toInt ≠ 0 := by have h9 := c_59; simp only [ge_iff_le, gt_iff_lt, x_lt, x_le, x_eq, ne_eq, Int32.not_lt, Int32.not_le] at h9; simp only [Int32.reduceToInt] at h9; omega
                                              exfalso
                                              omega
                                            · have kc_59 : r_58.toInt = 0 := by have h9 := c_59; simp only [ge_iff_le, gt_iff_lt, x_lt, x_le, x_eq, ne_eq, Int32.not_lt, Int32.not_le] at h9; simp only [Int32.reduceToInt] at h9; omega
                                              refine lv_aload_n hx hb dX12_goesOn_264 rfl (lv_at hl 1 rfl) ?_
                                              refine lv_iconst (v := 2) hx hb dX12_goesOn_265 (by decide) ?_
                                              refine x_calliW (va_runV (As := [.int 2]) (rest := []) ⟨hx, hb, hml, hown, hts⟩ (q_isOn l D y H.size ad zw (sI (tI (sI (sI (sI σ 32 op) 2 n_15) 29 cd2) 27 fc2) 31 ws2) 2 (show 0 ≤ (ws2).toInt from by first | omega | decide) (show (ws2).toInt ≤ 800 from by first | omega | decide)) (cwV 1 hts g_q_goesOn_6 rfl rfl rfl (by decide +kernel) ⟨Nat.le_of_ble_eq_true rfl, Nat.le_of_ble_eq_true rfl⟩) (x_preV (q := (RX12, TX12, 85)) hK hP hD (ci := 11) (q0 := 0) rfl mwd_o0) rfl rfl hl.1 rfl (lv_room (Nat.le_of_ble_eq_true rfl)) dX12_goesOn_266 ⟨Nat.le_of_ble_eq_true rfl, Nat.le_of_ble_eq_true rfl⟩) hP hD hS hA (fun r_60 u H locs hw hP hD hS => ?_)
                                              try dsimp only at hw
                                              have hP : va_P D vwCl (mwd y ad zw (sI (tI (sI (sI (sI σ 32 op) 2 n_15) 29 cd2) 27 fc2) 31 ws2)) H := hP
                                              have hD : va_D A (mwd y ad zw (sI (tI (sI (sI (sI σ 32 op) 2 n_15) 29 cd2) 27 fc2) 31 ws2)) := hD
                                              replace hw : (r_60.toInt = 0 ∧ ((ws2).toInt ≤ 0 ∨ (((σ.2.2.1 30)) ((ws2).toInt.toNat - 1)).toInt ≠ (2 : Int32).toInt)) ∨ (r_60.toInt = 1 ∧ 1 ≤ (ws2).toInt ∧ (((σ.2.2.1 30)) ((ws2).toInt.toNat - 1)).toInt = (2 : Int32).toInt) := hw
                                              rcases hw with ⟨hi1, hi2⟩ | ⟨hi1, hi2, hi3⟩
                                              · clear hi2
                                                refine lv_if_eq (tgt := 279) hx hb dX12_goesOn_269 (by decide) (fun c_61 => ?_) (fun c_61 => ?_)
                                                · have kc_61 : r_60.toInt = 0 := by have h9 := c_61; simp only [ge_iff_le, gt_iff_lt, x_lt, x_le, x_eq, ne_eq, Int32.not_lt, Int32.not_le] at h9; simp only [Int32.reduceToInt] at h9; omega
                                                  refine lv_aload_n hx hb dX12_goesOn_279 rfl (lv_at hl 1 rfl) ?_
                                                  refine va_get (D := D) (ci := 11) (v := .ref (ad 30)) (C := RX12) (T := TX12) (N := 85) hx hb hts inX12 hown hK hP 0 mwd_o0 rfl 30 (by decide) fl75 (fun _ h9 => h9) rfl dX12_goesOn_280 ?_
                                                  refine lv_aload_n hx hb dX12_goesOn_283 rfl (lv_at hl 1 rfl) ?_
                                                  refine va_get (D := D) (ci := 11) (v := .int ws2) (C := RX12) (T := TX12) (N := 85) hx hb hts inX12 hown hK hP 0 mwd_o0 rfl 31 (by decide) fl263 (fun _ h9 => h9) rfl dX12_goesOn_284 ?_
                                                  refine lv_iload_n hx hb dX12_goesOn_287 rfl (lv_at hl 0 rfl) ?_
                                                  refine va_iast hx hb hK hP hD hS 21 2 mwd_a21 rfl (x_in (by omega) (by omega)) dX12_goesOn_288 (fun H locs hP hD hS => ?_)
                                                  obtain ⟨f_62, ef_62⟩ : ∃ z9 : Nat → Int32, z9 = (upd (σ.2.2.1 30) (Int32.toNatClampNeg ws2) o1) := ⟨_, rfl⟩
                                                  have hP : va_P D vwCl (mwd y ad zw (tI (sI (tI (sI (sI (sI σ 32 op) 2 n_15) 29 cd2) 27 fc2) 31 ws2) 30 f_62)) H := by rw [ef_62]; exact x_trP hP mwd_s21
                                                  have hD : va_D A (mwd y ad zw (tI (sI (tI (sI (sI (sI σ 32 op) 2 n_15) 29 cd2) 27 fc2) 31 ws2) 30 f_62)) := by rw [ef_62]; exact x_trD hD mwd_s21
                                                  rw [x_cl (n := ws2.toInt.toNat) (by omega)] at ef_62
                                                  refine lv_aload_n hx hb dX12_goesOn_289 rfl (lv_at hl 1 rfl) ?_
                                                  refine lv_dup hx hb dX12_goesOn_290 rfl ?_
                                                  refine va_get (D := D) (ci := 11) (v := .int ws2) (C := RX12) (T := TX12) (N := 85) hx hb hts inX12 hown hK hP 0 mwd_o0 rfl 31 (by decide) fl263 (fun _ h9 => h9) rfl dX12_goesOn_291 ?_
                                                  refine lv_iconst (v := 1) hx hb dX12_goesOn_294 (by decide) ?_
                                                  refine lv_iadd hx hb dX12_goesOn_295 ?_
                                                  refine lv_topi (fun i_63 ei_63 => ?_)
                                                  have vi_63 : i_63.toInt = ws2.toInt + 1 := by have h9 := x_add ei_63 (by omega) (by omega); omega
                                                  refine va_put (D := D) (ci := 11) (v := .int i_63) (ty := .int) (C := RX12) (T := TX12) (N := 85) hx hb hts inX12 tyX12 tyX12_ok nmX12 hown hK hP hD hS 0 mwd_o0 rfl 31 (by decide) fl263 (fun _ h9 => h9) rfl (by decide +kernel) rfl rfl (Nat.le_of_ble_eq_true rfl) dX12_goesOn_296 (fun H locs hP hD hS => ?_)
                                                  have hP : va_P D vwCl (mwd y ad zw (sI (tI (sI (tI (sI (sI (sI σ 32 op) 2 n_15) 29 cd2) 27 fc2) 31 ws2) 30 f_62) 31 i_63)) H := x_trP hP mwd_p0_31
                                                  have hD : va_D A (mwd y ad zw (sI (tI (sI (tI (sI (sI (sI σ 32 op) 2 n_15) 29 cd2) 27 fc2) 31 ws2) 30 f_62) 31 i_63)) := x_trD hD mwd_p0_31
                                                  refine lv_iconst (v := 1) hx hb dX12_goesOn_299 (by decide) ?_
                                                  have hP : va_P D vwCl (mwd y ad zw (sI (tI (sI (tI (sI (sI (sI (sI σ 2 n_15) 5 (σ.1 5)) 6 (σ.1 6)) 29 cd2) 27 fc2) 32 op) 30 f_62) 31 i_63)) H := hP
                                                  have hD : va_D A (mwd y ad zw (sI (tI (sI (tI (sI (sI (sI (sI σ 2 n_15) 5 (σ.1 5)) 6 (σ.1 6)) 29 cd2) 27 fc2) 32 op) 30 f_62) 31 i_63)) := hD
                                                  exact x_zretW (v := 1) (u := (n_15, (σ.1 5), (σ.1 6), cd2, fc2, op, f_62, i_63)) hx hb hr hQ rfl (by (try dsimp only); exact ⟨by omega, by omega, by omega, by omega, by omega, by omega, by omega, by omega, fun h9 => ⟨fun _ => ⟨by omega, by rw [ef_62, show i_63.toInt.toNat = ws2.toInt.toNat + 1 by omega]; exact ES_op hE2 ⟨by first | omega | decide, by first | omega | decide⟩⟩, fun h8 => absurd h8 (by omega)⟩⟩) hP hD hK hS dX12_goesOn_300 hlocks
                                                · have kc_61 : r_60.toInt ≠ 0 := by have h9 := c_61; simp only [ge_iff_le, gt_iff_lt, x_lt, x_le, x_eq, ne_eq, Int32.not_lt, Int32.not_le] at h9; simp only [Int32.reduceToInt] at h9; omega
                                                  exfalso
                                                  omega
                                              · have hbn := ES_on hE2 hlo (by omega) (by omega)
                                                refine lv_if_eq (tgt := 279) hx hb dX12_goesOn_269 (by decide) (fun c_64 => ?_) (fun c_64 => ?_)
                                                · have kc_64 : r_60.toInt = 0 := by have h9 := c_64; simp only [ge_iff_le, gt_iff_lt, x_lt, x_le, x_eq, ne_eq, Int32.not_lt, Int32.not_le] at h9; simp only [Int32.reduceToInt] at h9; omega
                                                  exfalso
                                                  omega
                                                · have kc_64 : r_60.toInt ≠ 0 := by have h9 := c_64; simp only [ge_iff_le, gt_iff_lt, x_lt, x_le, x_eq, ne_eq, Int32.not_lt, Int32.not_le] at h9; simp only [Int32.reduceToInt] at h9; omega
                                                  refine lv_aload_n hx hb dX12_goesOn_272 rfl (lv_at hl 1 rfl) ?_
                                                  refine x_callvW (va_runV (As := []) (rest := []) ⟨hx, hb, hml, hown, hts⟩ (q_drops l D y H.size ad zw (sI (tI (sI (sI (sI σ 32 op) 2 n_15) 29 cd2) 27 fc2) 31 ws2) (show 1 ≤ (ws2).toInt from by first | omega | decide) (show (ws2).toInt ≤ 800 from by first | omega | decide) (show 0 ≤ (cd2).toInt from by first | omega | decide) (show (cd2).toInt < 1200 from by first | omega | decide)) (cwV 0 hts g_q_goesOn_7 rfl rfl rfl (by decide +kernel) ⟨Nat.le_of_ble_eq_true rfl, Nat.le_of_ble_eq_true rfl⟩) (x_preV (q := (RX12, TX12, 85)) hK hP hD (ci := 11) (q0 := 0) rfl mwd_o0) rfl rfl hl.1 rfl (lv_room (Nat.le_of_ble_eq_true rfl)) dX12_goesOn_273 ⟨Nat.le_of_ble_eq_true rfl, Nat.le_of_ble_eq_true rfl⟩) hP hD hS hA (fun u H locs hw hP hD hS => ?_)
                                                  obtain ⟨n_65, n_66, f_67⟩ := u
                                                  try dsimp only at hw
                                                  have hP : va_P D vwCl (mwd y ad zw (tI (sI (sI (sI (tI (sI (sI (sI σ 32 op) 2 n_15) 29 cd2) 27 fc2) 31 ws2) 31 n_65) 29 n_66) 27 f_67)) H := hP
                                                  have hD : va_D A (mwd y ad zw (tI (sI (sI (sI (tI (sI (sI (sI σ 32 op) 2 n_15) 29 cd2) 27 fc2) 31 ws2) 31 n_65) 29 n_66) 27 f_67)) := hD
                                                  replace hw : n_65.toInt = (ws2).toInt - 1 ∧ n_66.toInt = (cd2).toInt + 1 ∧ f_67 = upd (fc2) (cd2).toInt.toNat (((σ.2.2.1 30)) ((ws2).toInt.toNat - 1)) := hw
                                                  refine lv_goto (tgt := 240) hx hb dX12_goesOn_276 (by decide) ?_
                                                  have hP : va_P D vwCl (mwd y ad zw (sI (tI (sI (sI (sI σ 32 op) 2 n_15) 29 n_66) 27 f_67) 31 n_65)) H := hP
                                                  have hD : va_D A (mwd y ad zw (sI (tI (sI (sI (sI σ 32 op) 2 n_15) 29 n_66) 27 f_67) 31 n_65)) := hD
                                                  exact ih_loop3 o1 n_66 f_67 n_65 H locs ls (by omega) (by omega) (by omega) (by omega) (by omega) (by obtain ⟨h7, h6, h5⟩ := hw; rw [h5, show n_66.toInt.toNat = cd2.toInt.toNat + 1 by omega, show n_65.toInt.toNat = ws2.toInt.toNat - 1 by omega]; exact ES_drop hE2 hbn (by omega) (by omega)) (by omega) hP hD hS (lv_sub hl [0, 1] rfl)
                                          · have hbn := ES_on hE2 hlo (by omega) (by omega)
                                            refine lv_if_ne (tgt := 272) hx hb dX12_goesOn_261 (by decide) (fun c_68 => ?_) (fun c_68 => ?_)
                                            · have kc_68 : r_58.toInt ≠ 0 := by have h9 := c_68; simp only [ge_iff_le, gt_iff_lt, x_lt, x_le, x_eq, ne_eq, Int32.not_lt, Int32.not_le] at h9; simp only [Int32.reduceToInt] at h9; omega
                                              refine lv_aload_n hx hb dX12_goesOn_272 rfl (lv_at hl 1 rfl) ?_
                                              refine x_callvW (va_runV (As := []) (rest := []) ⟨hx, hb, hml, hown, hts⟩ (q_drops l D y H.size ad zw (sI (tI (sI (sI (sI σ 32 op) 2 n_15) 29 cd2) 27 fc2) 31 ws2) (show 1 ≤ (ws2).toInt from by first | omega | decide) (show (ws2).toInt ≤ 800 from by first | omega | decide) (show 0 ≤ (cd2).toInt from by first | omega | decide) (show (cd2).toInt < 1200 from by first | omega | decide)) (cwV 0 hts g_q_goesOn_7 rfl rfl rfl (by decide +kernel) ⟨Nat.le_of_ble_eq_true rfl, Nat.le_of_ble_eq_true rfl⟩) (x_preV (q := (RX12, TX12, 85)) hK hP hD (ci := 11) (q0 := 0) rfl mwd_o0) rfl rfl hl.1 rfl (lv_room (Nat.le_of_ble_eq_true rfl)) dX12_goesOn_273 ⟨Nat.le_of_ble_eq_true rfl, Nat.le_of_ble_eq_true rfl⟩) hP hD hS hA (fun u H locs hw hP hD hS => ?_)
                                              obtain ⟨n_69, n_70, f_71⟩ := u
                                              try dsimp only at hw
                                              have hP : va_P D vwCl (mwd y ad zw (tI (sI (sI (sI (tI (sI (sI (sI σ 32 op) 2 n_15) 29 cd2) 27 fc2) 31 ws2) 31 n_69) 29 n_70) 27 f_71)) H := hP
                                              have hD : va_D A (mwd y ad zw (tI (sI (sI (sI (tI (sI (sI (sI σ 32 op) 2 n_15) 29 cd2) 27 fc2) 31 ws2) 31 n_69) 29 n_70) 27 f_71)) := hD
                                              replace hw : n_69.toInt = (ws2).toInt - 1 ∧ n_70.toInt = (cd2).toInt + 1 ∧ f_71 = upd (fc2) (cd2).toInt.toNat (((σ.2.2.1 30)) ((ws2).toInt.toNat - 1)) := hw
                                              refine lv_goto (tgt := 240) hx hb dX12_goesOn_276 (by decide) ?_
                                              have hP : va_P D vwCl (mwd y ad zw (sI (tI (sI (sI (sI σ 32 op) 2 n_15) 29 n_70) 27 f_71) 31 n_69)) H := hP
                                              have hD : va_D A (mwd y ad zw (sI (tI (sI (sI (sI σ 32 op) 2 n_15) 29 n_70) 27 f_71) 31 n_69)) := hD
                                              exact ih_loop3 o1 n_70 f_71 n_69 H locs ls (by omega) (by omega) (by omega) (by omega) (by omega) (by obtain ⟨h7, h6, h5⟩ := hw; rw [h5, show n_70.toInt.toNat = cd2.toInt.toNat + 1 by omega, show n_69.toInt.toNat = ws2.toInt.toNat - 1 by omega]; exact ES_drop hE2 hbn (by omega) (by omega)) (by omega) hP hD hS (lv_sub hl [0, 1] rfl)
                                            · have kc_68 : r_58.toInt = 0 := by have h9 := c_68; simp only [ge_iff_le, gt_iff_lt, x_lt, x_le, x_eq, ne_eq, Int32.not_lt, Int32.not_le] at h9; simp only [Int32.reduceToInt] at h9; omega
                                              exfalso
                                              omega
                                      · have hbn := ES_on hE2 hlo (by omega) (by omega)
                                        refine lv_if_ne (tgt := 272) hx hb dX12_goesOn_253 (by decide) (fun c_72 => ?_) (fun c_72 => ?_)
                                        · have kc_72 : r_56.toInt ≠ 0 := by have h9 := c_72; simp only [ge_iff_le, gt_iff_lt, x_lt, x_le, x_eq, ne_eq, Int32.not_lt, Int32.not_le] at h9; simp only [Int32.reduceToInt] at h9; omega
                                          refine lv_aload_n hx hb dX12_goesOn_272 rfl (lv_at hl 1 rfl) ?_
                                          refine x_callvW (va_runV (As := []) (rest := []) ⟨hx, hb, hml, hown, hts⟩ (q_drops l D y H.size ad zw (sI (tI (sI (sI (sI σ 32 op) 2 n_15) 29 cd2) 27 fc2) 31 ws2) (show 1 ≤ (ws2).toInt from by first | omega | decide) (show (ws2).toInt ≤ 800 from by first | omega | decide) (show 0 ≤ (cd2).toInt from by first | omega | decide) (show (cd2).toInt < 1200 from by first | omega | decide)) (cwV 0 hts g_q_goesOn_7 rfl rfl rfl (by decide +kernel) ⟨Nat.le_of_ble_eq_true rfl, Nat.le_of_ble_eq_true rfl⟩) (x_preV (q := (RX12, TX12, 85)) hK hP hD (ci := 11) (q0 := 0) rfl mwd_o0) rfl rfl hl.1 rfl (lv_room (Nat.le_of_ble_eq_true rfl)) dX12_goesOn_273 ⟨Nat.le_of_ble_eq_true rfl, Nat.le_of_ble_eq_true rfl⟩) hP hD hS hA (fun u H locs hw hP hD hS => ?_)
                                          obtain ⟨n_73, n_74, f_75⟩ := u
                                          try dsimp only at hw
                                          have hP : va_P D vwCl (mwd y ad zw (tI (sI (sI (sI (tI (sI (sI (sI σ 32 op) 2 n_15) 29 cd2) 27 fc2) 31 ws2) 31 n_73) 29 n_74) 27 f_75)) H := hP
                                          have hD : va_D A (mwd y ad zw (tI (sI (sI (sI (tI (sI (sI (sI σ 32 op) 2 n_15) 29 cd2) 27 fc2) 31 ws2) 31 n_73) 29 n_74) 27 f_75)) := hD
                                          replace hw : n_73.toInt = (ws2).toInt - 1 ∧ n_74.toInt = (cd2).toInt + 1 ∧ f_75 = upd (fc2) (cd2).toInt.toNat (((σ.2.2.1 30)) ((ws2).toInt.toNat - 1)) := hw
                                          refine lv_goto (tgt := 240) hx hb dX12_goesOn_276 (by decide) ?_
                                          have hP : va_P D vwCl (mwd y ad zw (sI (tI (sI (sI (sI σ 32 op) 2 n_15) 29 n_74) 27 f_75) 31 n_73)) H := hP
                                          have hD : va_D A (mwd y ad zw (sI (tI (sI (sI (sI σ 32 op) 2 n_15) 29 n_74) 27 f_75) 31 n_73)) := hD
                                          exact ih_loop3 o1 n_74 f_75 n_73 H locs ls (by omega) (by omega) (by omega) (by omega) (by omega) (by obtain ⟨h7, h6, h5⟩ := hw; rw [h5, show n_74.toInt.toNat = cd2.toInt.toNat + 1 by omega, show n_73.toInt.toNat = ws2.toInt.toNat - 1 by omega]; exact ES_drop hE2 hbn (by omega) (by omega)) (by omega) hP hD hS (lv_sub hl [0, 1] rfl)
                                        · have kc_72 : r_56.toInt = 0 := by have h9 := c_72; simp only [ge_iff_le, gt_iff_lt, x_lt, x_le, x_eq, ne_eq, Int32.not_lt, Int32.not_le] at h9; simp only [Int32.reduceToInt] at h9; omega
                                          exfalso
                                          omega
                                  · have hbn := ES_on hE2 hlo (by omega) (by omega)
                                    refine lv_if_ne (tgt := 272) hx hb dX12_goesOn_245 (by decide) (fun c_76 => ?_) (fun c_76 => ?_)
                                    · have kc_76 : r_54.toInt ≠ 0 := by have h9 := c_76; simp only [ge_iff_le, gt_iff_lt, x_lt, x_le, x_eq, ne_eq, Int32.not_lt, Int32.not_le] at h9; simp only [Int32.reduceToInt] at h9; omega
                                      refine lv_aload_n hx hb dX12_goesOn_272 rfl (lv_at hl 1 rfl) ?_
                                      refine x_callvW (va_runV (As := []) (rest := []) ⟨hx, hb, hml, hown, hts⟩ (q_drops l D y H.size ad zw (sI (tI (sI (sI (sI σ 32 op) 2 n_15) 29 cd2) 27 fc2) 31 ws2) (show 1 ≤ (ws2).toInt from by first | omega | decide) (show (ws2).toInt ≤ 800 from by first | omega | decide) (show 0 ≤ (cd2).toInt from by first | omega | decide) (show (cd2).toInt < 1200 from by first | omega | decide)) (cwV 0 hts g_q_goesOn_7 rfl rfl rfl (by decide +kernel) ⟨Nat.le_of_ble_eq_true rfl, Nat.le_of_ble_eq_true rfl⟩) (x_preV (q := (RX12, TX12, 85)) hK hP hD (ci := 11) (q0 := 0) rfl mwd_o0) rfl rfl hl.1 rfl (lv_room (Nat.le_of_ble_eq_true rfl)) dX12_goesOn_273 ⟨Nat.le_of_ble_eq_true rfl, Nat.le_of_ble_eq_true rfl⟩) hP hD hS hA (fun u H locs hw hP hD hS => ?_)
                                      obtain ⟨n_77, n_78, f_79⟩ := u
                                      try dsimp only at hw
                                      have hP : va_P D vwCl (mwd y ad zw (tI (sI (sI (sI (tI (sI (sI (sI σ 32 op) 2 n_15) 29 cd2) 27 fc2) 31 ws2) 31 n_77) 29 n_78) 27 f_79)) H := hP
                                      have hD : va_D A (mwd y ad zw (tI (sI (sI (sI (tI (sI (sI (sI σ 32 op) 2 n_15) 29 cd2) 27 fc2) 31 ws2) 31 n_77) 29 n_78) 27 f_79)) := hD
                                      replace hw : n_77.toInt = (ws2).toInt - 1 ∧ n_78.toInt = (cd2).toInt + 1 ∧ f_79 = upd (fc2) (cd2).toInt.toNat (((σ.2.2.1 30)) ((ws2).toInt.toNat - 1)) := hw
                                      refine lv_goto (tgt := 240) hx hb dX12_goesOn_276 (by decide) ?_
                                      have hP : va_P D vwCl (mwd y ad zw (sI (tI (sI (sI (sI σ 32 op) 2 n_15) 29 n_78) 27 f_79) 31 n_77)) H := hP
                                      have hD : va_D A (mwd y ad zw (sI (tI (sI (sI (sI σ 32 op) 2 n_15) 29 n_78) 27 f_79) 31 n_77)) := hD
                                      exact ih_loop3 o1 n_78 f_79 n_77 H locs ls (by omega) (by omega) (by omega) (by omega) (by omega) (by obtain ⟨h7, h6, h5⟩ := hw; rw [h5, show n_78.toInt.toNat = cd2.toInt.toNat + 1 by omega, show n_77.toInt.toNat = ws2.toInt.toNat - 1 by omega]; exact ES_drop hE2 hbn (by omega) (by omega)) (by omega) hP hD hS (lv_sub hl [0, 1] rfl)
                                    · have kc_76 : r_54.toInt = 0 := by have h9 := c_76; simp only [ge_iff_le, gt_iff_lt, x_lt, x_le, x_eq, ne_eq, Int32.not_lt, Int32.not_le] at h9; simp only [Int32.reduceToInt] at h9; omega
                                      exfalso
                                      omega
                              exact loop3 801 2 cd fc ws H locs ls (by decide) (by decide) (by omega) (by omega) (by omega) hE (by omega) hP hD hS (lv_sub hl [0, 1] rfl)
                            · have kc_53 : i_52.toInt = 43 := by have h9 := c_53; simp only [ge_iff_le, gt_iff_lt, x_lt, x_le, x_eq, ne_eq, Int32.not_lt, Int32.not_le] at h9; simp only [Int32.reduceToInt] at h9; omega
                              refine lv_iconst (v := 1) hx hb dX12_goesOn_234 (by decide) ?_
                              refine lv_goto (tgt := 239) hx hb dX12_goesOn_235 (by decide) ?_
                              refine lv_istore_n (lv' := [(1, .int 1), (0, .ref (ad 1))]) hx hb dX12_goesOn_239 rfl hl (by decide) rfl (fun ls hl => ?_)
                              have hP : va_P D vwCl (mwd y ad zw (sI (tI (sI (sI (sI σ 32 op) 2 n_15) 29 cd) 27 fc) 31 ws)) H := hP
                              have hD : va_D A (mwd y ad zw (sI (tI (sI (sI (sI σ 32 op) 2 n_15) 29 cd) 27 fc) 31 ws)) := hD
                              have loop3 : ∀ (fu : Nat) (o1 : Int32) (cd2 : Int32) (fc2 : Nat → Int32) (ws2 : Int32) (H : Heap) (locs : List Loc) (ls : Array Slot), (1 ≤ o1.toInt) → (o1.toInt ≤ 4) → ((b : Int) ≤ ws2.toInt) → ((σ.1 29).toInt ≤ cd2.toInt) → (cd2.toInt + ws2.toInt = cd.toInt + ws.toInt) → (ES f0 fc2 w0 (σ.2.2.1 30) c0 cd2.toInt.toNat b ws2.toInt.toNat 1 X op.toInt o0) → (ws2.toInt < (fu : Int)) → va_P D vwCl (mwd y ad zw (sI (tI (sI (sI (sI σ 32 op) 2 n_15) 29 cd2) 27 fc2) 31 ws2)) H → va_D A (mwd y ad zw (sI (tI (sI (sI (sI σ 32 op) 2 n_15) 29 cd2) 27 fc2) 31 ws2)) → va_S A s.heap H locs → lv_has ls 2 [(1, .int o1), (0, .ref (ad 1))] → W p l e ({ frames := 3, cells := 0, slots := 0, locals := 64 } : Room) s m ([.ref (ad 1)] : List Value).toArray below meth c H locs 0 0 Q (F0 m 240 ls []) := by
                                intro fu
                                induction fu with
                                | zero =>
                                  intro o1 cd2 fc2 ws2 H locs ls hV1 hV2 hW2 hC2 hp2 hE2 hm
                                  exact absurd hm (by omega)
                                | succ fu ih_loop3 =>
                                  intro o1 cd2 fc2 ws2 H locs ls hV1 hV2 hW2 hC2 hp2 hE2 hm hP hD hS hl
                                  refine lv_aload_n hx hb dX12_goesOn_240 rfl (lv_at hl 1 rfl) ?_
                                  refine lv_iconst (v := 3) hx hb dX12_goesOn_241 (by decide) ?_
                                  refine x_calliW (va_runV (As := [.int 3]) (rest := []) ⟨hx, hb, hml, hown, hts⟩ (q_isOn l D y H.size ad zw (sI (tI (sI (sI (sI σ 32 op) 2 n_15) 29 cd2) 27 fc2) 31 ws2) 3 (show 0 ≤ (ws2).toInt from by first | omega | decide) (show (ws2).toInt ≤ 800 from by first | omega | decide)) (cwV 1 hts g_q_goesOn_6 rfl rfl rfl (by decide +kernel) ⟨Nat.le_of_ble_eq_true rfl, Nat.le_of_ble_eq_true rfl⟩) (x_preV (q := (RX12, TX12, 85)) hK hP hD (ci := 11) (q0 := 0) rfl mwd_o0) rfl rfl hl.1 rfl (lv_room (Nat.le_of_ble_eq_true rfl)) dX12_goesOn_242 ⟨Nat.le_of_ble_eq_true rfl, Nat.le_of_ble_eq_true rfl⟩) hP hD hS hA (fun r_80 u H locs hw hP hD hS => ?_)
                                  try dsimp only at hw
                                  have hP : va_P D vwCl (mwd y ad zw (sI (tI (sI (sI (sI σ 32 op) 2 n_15) 29 cd2) 27 fc2) 31 ws2)) H := hP
                                  have hD : va_D A (mwd y ad zw (sI (tI (sI (sI (sI σ 32 op) 2 n_15) 29 cd2) 27 fc2) 31 ws2)) := hD
                                  replace hw : (r_80.toInt = 0 ∧ ((ws2).toInt ≤ 0 ∨ (((σ.2.2.1 30)) ((ws2).toInt.toNat - 1)).toInt ≠ (3 : Int32).toInt)) ∨ (r_80.toInt = 1 ∧ 1 ≤ (ws2).toInt ∧ (((σ.2.2.1 30)) ((ws2).toInt.toNat - 1)).toInt = (3 : Int32).toInt) := hw
                                  rcases hw with ⟨hi1, hi2⟩ | ⟨hi1, hi2, hi3⟩
                                  · clear hi2
                                    refine lv_if_ne (tgt := 272) hx hb dX12_goesOn_245 (by decide) (fun c_81 => ?_) (fun c_81 => ?_)
                                    · have kc_81 : r_80.toInt ≠ 0 := by have h9 := c_81; simp only [ge_iff_le, gt_iff_lt, x_lt, x_le, x_eq, ne_eq, Int32.not_lt, Int32.not_le] at h9; simp only [Int32.reduceToInt] at h9; omega
                                      exfalso
                                      omega
                                    · have kc_81 : r_80.toInt = 0 := by have h9 := c_81; simp only [ge_iff_le, gt_iff_lt, x_lt, x_le, x_eq, ne_eq, Int32.not_lt, Int32.not_le] at h9; simp only [Int32.reduceToInt] at h9; omega
                                      refine lv_aload_n hx hb dX12_goesOn_248 rfl (lv_at hl 1 rfl) ?_
                                      refine lv_iconst (v := 4) hx hb dX12_goesOn_249 (by decide) ?_
                                      refine x_calliW (va_runV (As := [.int 4]) (rest := []) ⟨hx, hb, hml, hown, hts⟩ (q_isOn l D y H.size ad zw (sI (tI (sI (sI (sI σ 32 op) 2 n_15) 29 cd2) 27 fc2) 31 ws2) 4 (show 0 ≤ (ws2).toInt from by first | omega | decide) (show (ws2).toInt ≤ 800 from by first | omega | decide)) (cwV 1 hts g_q_goesOn_6 rfl rfl rfl (by decide +kernel) ⟨Nat.le_of_ble_eq_true rfl, Nat.le_of_ble_eq_true rfl⟩) (x_preV (q := (RX12, TX12, 85)) hK hP hD (ci := 11) (q0 := 0) rfl mwd_o0) rfl rfl hl.1 rfl (lv_room (Nat.le_of_ble_eq_true rfl)) dX12_goesOn_250 ⟨Nat.le_of_ble_eq_true rfl, Nat.le_of_ble_eq_true rfl⟩) hP hD hS hA (fun r_82 u H locs hw hP hD hS => ?_)
                                      try dsimp only at hw
                                      have hP : va_P D vwCl (mwd y ad zw (sI (tI (sI (sI (sI σ 32 op) 2 n_15) 29 cd2) 27 fc2) 31 ws2)) H := hP
                                      have hD : va_D A (mwd y ad zw (sI (tI (sI (sI (sI σ 32 op) 2 n_15) 29 cd2) 27 fc2) 31 ws2)) := hD
                                      replace hw : (r_82.toInt = 0 ∧ ((ws2).toInt ≤ 0 ∨ (((σ.2.2.1 30)) ((ws2).toInt.toNat - 1)).toInt ≠ (4 : Int32).toInt)) ∨ (r_82.toInt = 1 ∧ 1 ≤ (ws2).toInt ∧ (((σ.2.2.1 30)) ((ws2).toInt.toNat - 1)).toInt = (4 : Int32).toInt) := hw
                                      rcases hw with ⟨hi1, hi2⟩ | ⟨hi1, hi2, hi3⟩
                                      · clear hi2
                                        refine lv_if_ne (tgt := 272) hx hb dX12_goesOn_253 (by decide) (fun c_83 => ?_) (fun c_83 => ?_)
                                        · have kc_83 : r_82.toInt ≠ 0 := by have h9 := c_83; simp only [ge_iff_le, gt_iff_lt, x_lt, x_le, x_eq, ne_eq, Int32.not_lt, Int32.not_le] at h9; simp only [Int32.reduceToInt] at h9; omega
                                          exfalso
                                          omega
                                        · have kc_83 : r_82.toInt = 0 := by have h9 := c_83; simp only [ge_iff_le, gt_iff_lt, x_lt, x_le, x_eq, ne_eq, Int32.not_lt, Int32.not_le] at h9; simp only [Int32.reduceToInt] at h9; omega
                                          refine lv_aload_n hx hb dX12_goesOn_256 rfl (lv_at hl 1 rfl) ?_
                                          refine lv_iconst (v := 1) hx hb dX12_goesOn_257 (by decide) ?_
                                          refine x_calliW (va_runV (As := [.int 1]) (rest := []) ⟨hx, hb, hml, hown, hts⟩ (q_isOn l D y H.size ad zw (sI (tI (sI (sI (sI σ 32 op) 2 n_15) 29 cd2) 27 fc2) 31 ws2) 1 (show 0 ≤ (ws2).toInt from by first | omega | decide) (show (ws2).toInt ≤ 800 from by first | omega | decide)) (cwV 1 hts g_q_goesOn_6 rfl rfl rfl (by decide +kernel) ⟨Nat.le_of_ble_eq_true rfl, Nat.le_of_ble_eq_true rfl⟩) (x_preV (q := (RX12, TX12, 85)) hK hP hD (ci := 11) (q0 := 0) rfl mwd_o0) rfl rfl hl.1 rfl (lv_room (Nat.le_of_ble_eq_true rfl)) dX12_goesOn_258 ⟨Nat.le_of_ble_eq_true rfl, Nat.le_of_ble_eq_true rfl⟩) hP hD hS hA (fun r_84 u H locs hw hP hD hS => ?_)
                                          try dsimp only at hw
                                          have hP : va_P D vwCl (mwd y ad zw (sI (tI (sI (sI (sI σ 32 op) 2 n_15) 29 cd2) 27 fc2) 31 ws2)) H := hP
                                          have hD : va_D A (mwd y ad zw (sI (tI (sI (sI (sI σ 32 op) 2 n_15) 29 cd2) 27 fc2) 31 ws2)) := hD
                                          replace hw : (r_84.toInt = 0 ∧ ((ws2).toInt ≤ 0 ∨ (((σ.2.2.1 30)) ((ws2).toInt.toNat - 1)).toInt ≠ (1 : Int32).toInt)) ∨ (r_84.toInt = 1 ∧ 1 ≤ (ws2).toInt ∧ (((σ.2.2.1 30)) ((ws2).toInt.toNat - 1)).toInt = (1 : Int32).toInt) := hw
                                          rcases hw with ⟨hi1, hi2⟩ | ⟨hi1, hi2, hi3⟩
                                          · clear hi2
                                            refine lv_if_ne (tgt := 272) hx hb dX12_goesOn_261 (by decide) (fun c_85 => ?_) (fun c_85 => ?_)
                                            · have kc_85 : r_84.toInt ≠ 0 := by have h9 := c_85; simp only [ge_iff_le, gt_iff_lt, x_lt, x_le, x_eq, ne_eq, Int32.not_lt, Int32.not_le] at h9; simp only [Int32.reduceToInt] at h9; omega
                                              exfalso
                                              omega
                                            · have kc_85 : r_84.toInt = 0 := by have h9 := c_85; simp only [ge_iff_le, gt_iff_lt, x_lt, x_le, x_eq, ne_eq, Int32.not_lt, Int32.not_le] at h9; simp only [Int32.reduceToInt] at h9; omega
                                              refine lv_aload_n hx hb dX12_goesOn_264 rfl (lv_at hl 1 rfl) ?_
                                              refine lv_iconst (v := 2) hx hb dX12_goesOn_265 (by decide) ?_
                                              refine x_calliW (va_runV (As := [.int 2]) (rest := []) ⟨hx, hb, hml, hown, hts⟩ (q_isOn l D y H.size ad zw (sI (tI (sI (sI (sI σ 32 op) 2 n_15) 29 cd2) 27 fc2) 31 ws2) 2 (show 0 ≤ (ws2).toInt from by first | omega | decide) (show (ws2).toInt ≤ 800 from by first | omega | decide)) (cwV 1 hts g_q_goesOn_6 rfl rfl rfl (by decide +kernel) ⟨Nat.le_of_ble_eq_true rfl, Nat.le_of_ble_eq_true rfl⟩) (x_preV (q := (RX12, TX12, 85)) hK hP hD (ci := 11) (q0 := 0) rfl mwd_o0) rfl rfl hl.1 rfl (lv_room (Nat.le_of_ble_eq_true rfl)) dX12_goesOn_266 ⟨Nat.le_of_ble_eq_true rfl, Nat.le_of_ble_eq_true rfl⟩) hP hD hS hA (fun r_86 u H locs hw hP hD hS => ?_)
                                              try dsimp only at hw
                                              have hP : va_P D vwCl (mwd y ad zw (sI (tI (sI (sI (sI σ 32 op) 2 n_15) 29 cd2) 27 fc2) 31 ws2)) H := hP
                                              have hD : va_D A (mwd y ad zw (sI (tI (sI (sI (sI σ 32 op) 2 n_15) 29 cd2) 27 fc2) 31 ws2)) := hD
                                              replace hw : (r_86.toInt = 0 ∧ ((ws2).toInt ≤ 0 ∨ (((σ.2.2.1 30)) ((ws2).toInt.toNat - 1)).toInt ≠ (2 : Int32).toInt)) ∨ (r_86.toInt = 1 ∧ 1 ≤ (ws2).toInt ∧ (((σ.2.2.1 30)) ((ws2).toInt.toNat - 1)).toInt = (2 : Int32).toInt) := hw
                                              rcases hw with ⟨hi1, hi2⟩ | ⟨hi1, hi2, hi3⟩
                                              · clear hi2
                                                refine lv_if_eq (tgt := 279) hx hb dX12_goesOn_269 (by decide) (fun c_87 => ?_) (fun c_87 => ?_)
                                                · have kc_87 : r_86.toInt = 0 := by have h9 := c_87; simp only [ge_iff_le, gt_iff_lt, x_lt, x_le, x_eq, ne_eq, Int32.not_lt, Int32.not_le] at h9; simp only [Int32.reduceToInt] at h9; omega
                                                  refine lv_aload_n hx hb dX12_goesOn_279 rfl (lv_at hl 1 rfl) ?_
                                                  refine va_get (D := D) (ci := 11) (v := .ref (ad 30)) (C := RX12) (T := TX12) (N := 85) hx hb hts inX12 hown hK hP 0 mwd_o0 rfl 30 (by decide) fl75 (fun _ h9 => h9) rfl dX12_goesOn_280 ?_
                                                  refine lv_aload_n hx hb dX12_goesOn_283 rfl (lv_at hl 1 rfl) ?_
                                                  refine va_get (D := D) (ci := 11) (v := .int ws2) (C := RX12) (T := TX12) (N := 85) hx hb hts inX12 hown hK hP 0 mwd_o0 rfl 31 (by decide) fl263 (fun _ h9 => h9) rfl dX12_goesOn_284 ?_
                                                  refine lv_iload_n hx hb dX12_goesOn_287 rfl (lv_at hl 0 rfl) ?_
                                                  refine va_iast hx hb hK hP hD hS 21 2 mwd_a21 rfl (x_in (by omega) (by omega)) dX12_goesOn_288 (fun H locs hP hD hS => ?_)
                                                  obtain ⟨f_88, ef_88⟩ : ∃ z9 : Nat → Int32, z9 = (upd (σ.2.2.1 30) (Int32.toNatClampNeg ws2) o1) := ⟨_, rfl⟩
                                                  have hP : va_P D vwCl (mwd y ad zw (tI (sI (tI (sI (sI (sI σ 32 op) 2 n_15) 29 cd2) 27 fc2) 31 ws2) 30 f_88)) H := by rw [ef_88]; exact x_trP hP mwd_s21
                                                  have hD : va_D A (mwd y ad zw (tI (sI (tI (sI (sI (sI σ 32 op) 2 n_15) 29 cd2) 27 fc2) 31 ws2) 30 f_88)) := by rw [ef_88]; exact x_trD hD mwd_s21
                                                  rw [x_cl (n := ws2.toInt.toNat) (by omega)] at ef_88
                                                  refine lv_aload_n hx hb dX12_goesOn_289 rfl (lv_at hl 1 rfl) ?_
                                                  refine lv_dup hx hb dX12_goesOn_290 rfl ?_
                                                  refine va_get (D := D) (ci := 11) (v := .int ws2) (C := RX12) (T := TX12) (N := 85) hx hb hts inX12 hown hK hP 0 mwd_o0 rfl 31 (by decide) fl263 (fun _ h9 => h9) rfl dX12_goesOn_291 ?_
                                                  refine lv_iconst (v := 1) hx hb dX12_goesOn_294 (by decide) ?_
                                                  refine lv_iadd hx hb dX12_goesOn_295 ?_
                                                  refine lv_topi (fun i_89 ei_89 => ?_)
                                                  have vi_89 : i_89.toInt = ws2.toInt + 1 := by have h9 := x_add ei_89 (by omega) (by omega); omega
                                                  refine va_put (D := D) (ci := 11) (v := .int i_89) (ty := .int) (C := RX12) (T := TX12) (N := 85) hx hb hts inX12 tyX12 tyX12_ok nmX12 hown hK hP hD hS 0 mwd_o0 rfl 31 (by decide) fl263 (fun _ h9 => h9) rfl (by decide +kernel) rfl rfl (Nat.le_of_ble_eq_true rfl) dX12_goesOn_296 (fun H locs hP hD hS => ?_)
                                                  have hP : va_P D vwCl (mwd y ad zw (sI (tI (sI (tI (sI (sI (sI σ 32 op) 2 n_15) 29 cd2) 27 fc2) 31 ws2) 30 f_88) 31 i_89)) H := x_trP hP mwd_p0_31
                                                  have hD : va_D A (mwd y ad zw (sI (tI (sI (tI (sI (sI (sI σ 32 op) 2 n_15) 29 cd2) 27 fc2) 31 ws2) 30 f_88) 31 i_89)) := x_trD hD mwd_p0_31
                                                  refine lv_iconst (v := 1) hx hb dX12_goesOn_299 (by decide) ?_
                                                  have hP : va_P D vwCl (mwd y ad zw (sI (tI (sI (tI (sI (sI (sI (sI σ 2 n_15) 5 (σ.1 5)) 6 (σ.1 6)) 29 cd2) 27 fc2) 32 op) 30 f_88) 31 i_89)) H := hP
                                                  have hD : va_D A (mwd y ad zw (sI (tI (sI (tI (sI (sI (sI (sI σ 2 n_15) 5 (σ.1 5)) 6 (σ.1 6)) 29 cd2) 27 fc2) 32 op) 30 f_88) 31 i_89)) := hD
                                                  exact x_zretW (v := 1) (u := (n_15, (σ.1 5), (σ.1 6), cd2, fc2, op, f_88, i_89)) hx hb hr hQ rfl (by (try dsimp only); exact ⟨by omega, by omega, by omega, by omega, by omega, by omega, by omega, by omega, fun h9 => ⟨fun _ => ⟨by omega, by rw [ef_88, show i_89.toInt.toNat = ws2.toInt.toNat + 1 by omega]; exact ES_op hE2 ⟨by first | omega | decide, by first | omega | decide⟩⟩, fun h8 => absurd h8 (by omega)⟩⟩) hP hD hK hS dX12_goesOn_300 hlocks
                                                · have kc_87 : r_86.toInt ≠ 0 := by have h9 := c_87; simp only [ge_iff_le, gt_iff_lt, x_lt, x_le, x_eq, ne_eq, Int32.not_lt, Int32.not_le] at h9; simp only [Int32.reduceToInt] at h9; omega
                                                  exfalso
                                                  omega
                                              · have hbn := ES_on hE2 hlo (by omega) (by omega)
                                                refine lv_if_eq (tgt := 279) hx hb dX12_goesOn_269 (by decide) (fun c_90 => ?_) (fun c_90 => ?_)
                                                · have kc_90 : r_86.toInt = 0 := by have h9 := c_90; simp only [ge_iff_le, gt_iff_lt, x_lt, x_le, x_eq, ne_eq, Int32.not_lt, Int32.not_le] at h9; simp only [Int32.reduceToInt] at h9; omega
                                                  exfalso
                                                  omega
                                                · have kc_90 : r_86.toInt ≠ 0 := by have h9 := c_90; simp only [ge_iff_le, gt_iff_lt, x_lt, x_le, x_eq, ne_eq, Int32.not_lt, Int32.not_le] at h9; simp only [Int32.reduceToInt] at h9; omega
                                                  refine lv_aload_n hx hb dX12_goesOn_272 rfl (lv_at hl 1 rfl) ?_
                                                  refine x_callvW (va_runV (As := []) (rest := []) ⟨hx, hb, hml, hown, hts⟩ (q_drops l D y H.size ad zw (sI (tI (sI (sI (sI σ 32 op) 2 n_15) 29 cd2) 27 fc2) 31 ws2) (show 1 ≤ (ws2).toInt from by first | omega | decide) (show (ws2).toInt ≤ 800 from by first | omega | decide) (show 0 ≤ (cd2).toInt from by first | omega | decide) (show (cd2).toInt < 1200 from by first | omega | decide)) (cwV 0 hts g_q_goesOn_7 rfl rfl rfl (by decide +kernel) ⟨Nat.le_of_ble_eq_true rfl, Nat.le_of_ble_eq_true rfl⟩) (x_preV (q := (RX12, TX12, 85)) hK hP hD (ci := 11) (q0 := 0) rfl mwd_o0) rfl rfl hl.1 rfl (lv_room (Nat.le_of_ble_eq_true rfl)) dX12_goesOn_273 ⟨Nat.le_of_ble_eq_true rfl, Nat.le_of_ble_eq_true rfl⟩) hP hD hS hA (fun u H locs hw hP hD hS => ?_)
                                                  obtain ⟨n_91, n_92, f_93⟩ := u
                                                  try dsimp only at hw
                                                  have hP : va_P D vwCl (mwd y ad zw (tI (sI (sI (sI (tI (sI (sI (sI σ 32 op) 2 n_15) 29 cd2) 27 fc2) 31 ws2) 31 n_91) 29 n_92) 27 f_93)) H := hP
                                                  have hD : va_D A (mwd y ad zw (tI (sI (sI (sI (tI (sI (sI (sI σ 32 op) 2 n_15) 29 cd2) 27 fc2) 31 ws2) 31 n_91) 29 n_92) 27 f_93)) := hD
                                                  replace hw : n_91.toInt = (ws2).toInt - 1 ∧ n_92.toInt = (cd2).toInt + 1 ∧ f_93 = upd (fc2) (cd2).toInt.toNat (((σ.2.2.1 30)) ((ws2).toInt.toNat - 1)) := hw
                                                  refine lv_goto (tgt := 240) hx hb dX12_goesOn_276 (by decide) ?_
                                                  have hP : va_P D vwCl (mwd y ad zw (sI (tI (sI (sI (sI σ 32 op) 2 n_15) 29 n_92) 27 f_93) 31 n_91)) H := hP
                                                  have hD : va_D A (mwd y ad zw (sI (tI (sI (sI (sI σ 32 op) 2 n_15) 29 n_92) 27 f_93) 31 n_91)) := hD
                                                  exact ih_loop3 o1 n_92 f_93 n_91 H locs ls (by omega) (by omega) (by omega) (by omega) (by omega) (by obtain ⟨h7, h6, h5⟩ := hw; rw [h5, show n_92.toInt.toNat = cd2.toInt.toNat + 1 by omega, show n_91.toInt.toNat = ws2.toInt.toNat - 1 by omega]; exact ES_drop hE2 hbn (by omega) (by omega)) (by omega) hP hD hS (lv_sub hl [0, 1] rfl)
                                          · have hbn := ES_on hE2 hlo (by omega) (by omega)
                                            refine lv_if_ne (tgt := 272) hx hb dX12_goesOn_261 (by decide) (fun c_94 => ?_) (fun c_94 => ?_)
                                            · have kc_94 : r_84.toInt ≠ 0 := by have h9 := c_94; simp only [ge_iff_le, gt_iff_lt, x_lt, x_le, x_eq, ne_eq, Int32.not_lt, Int32.not_le] at h9; simp only [Int32.reduceToInt] at h9; omega
                                              refine lv_aload_n hx hb dX12_goesOn_272 rfl (lv_at hl 1 rfl) ?_
                                              refine x_callvW (va_runV (As := []) (rest := []) ⟨hx, hb, hml, hown, hts⟩ (q_drops l D y H.size ad zw (sI (tI (sI (sI (sI σ 32 op) 2 n_15) 29 cd2) 27 fc2) 31 ws2) (show 1 ≤ (ws2).toInt from by first | omega | decide) (show (ws2).toInt ≤ 800 from by first | omega | decide) (show 0 ≤ (cd2).toInt from by first | omega | decide) (show (cd2).toInt < 1200 from by first | omega | decide)) (cwV 0 hts g_q_goesOn_7 rfl rfl rfl (by decide +kernel) ⟨Nat.le_of_ble_eq_true rfl, Nat.le_of_ble_eq_true rfl⟩) (x_preV (q := (RX12, TX12, 85)) hK hP hD (ci := 11) (q0 := 0) rfl mwd_o0) rfl rfl hl.1 rfl (lv_room (Nat.le_of_ble_eq_true rfl)) dX12_goesOn_273 ⟨Nat.le_of_ble_eq_true rfl, Nat.le_of_ble_eq_true rfl⟩) hP hD hS hA (fun u H locs hw hP hD hS => ?_)
                                              obtain ⟨n_95, n_96, f_97⟩ := u
                                              try dsimp only at hw
                                              have hP : va_P D vwCl (mwd y ad zw (tI (sI (sI (sI (tI (sI (sI (sI σ 32 op) 2 n_15) 29 cd2) 27 fc2) 31 ws2) 31 n_95) 29 n_96) 27 f_97)) H := hP
                                              have hD : va_D A (mwd y ad zw (tI (sI (sI (sI (tI (sI (sI (sI σ 32 op) 2 n_15) 29 cd2) 27 fc2) 31 ws2) 31 n_95) 29 n_96) 27 f_97)) := hD
                                              replace hw : n_95.toInt = (ws2).toInt - 1 ∧ n_96.toInt = (cd2).toInt + 1 ∧ f_97 = upd (fc2) (cd2).toInt.toNat (((σ.2.2.1 30)) ((ws2).toInt.toNat - 1)) := hw
                                              refine lv_goto (tgt := 240) hx hb dX12_goesOn_276 (by decide) ?_
                                              have hP : va_P D vwCl (mwd y ad zw (sI (tI (sI (sI (sI σ 32 op) 2 n_15) 29 n_96) 27 f_97) 31 n_95)) H := hP
                                              have hD : va_D A (mwd y ad zw (sI (tI (sI (sI (sI σ 32 op) 2 n_15) 29 n_96) 27 f_97) 31 n_95)) := hD
                                              exact ih_loop3 o1 n_96 f_97 n_95 H locs ls (by omega) (by omega) (by omega) (by omega) (by omega) (by obtain ⟨h7, h6, h5⟩ := hw; rw [h5, show n_96.toInt.toNat = cd2.toInt.toNat + 1 by omega, show n_95.toInt.toNat = ws2.toInt.toNat - 1 by omega]; exact ES_drop hE2 hbn (by omega) (by omega)) (by omega) hP hD hS (lv_sub hl [0, 1] rfl)
                                            · have kc_94 : r_84.toInt = 0 := by have h9 := c_94; simp only [ge_iff_le, gt_iff_lt, x_lt, x_le, x_eq, ne_eq, Int32.not_lt, Int32.not_le] at h9; simp only [Int32.reduceToInt] at h9; omega
                                              exfalso
                                              omega
                                      · have hbn := ES_on hE2 hlo (by omega) (by omega)
                                        refine lv_if_ne (tgt := 272) hx hb dX12_goesOn_253 (by decide) (fun c_98 => ?_) (fun c_98 => ?_)
                                        · have kc_98 : r_82.toInt ≠ 0 := by have h9 := c_98; simp only [ge_iff_le, gt_iff_lt, x_lt, x_le, x_eq, ne_eq, Int32.not_lt, Int32.not_le] at h9; simp only [Int32.reduceToInt] at h9; omega
                                          refine lv_aload_n hx hb dX12_goesOn_272 rfl (lv_at hl 1 rfl) ?_
                                          refine x_callvW (va_runV (As := []) (rest := []) ⟨hx, hb, hml, hown, hts⟩ (q_drops l D y H.size ad zw (sI (tI (sI (sI (sI σ 32 op) 2 n_15) 29 cd2) 27 fc2) 31 ws2) (show 1 ≤ (ws2).toInt from by first | omega | decide) (show (ws2).toInt ≤ 800 from by first | omega | decide) (show 0 ≤ (cd2).toInt from by first | omega | decide) (show (cd2).toInt < 1200 from by first | omega | decide)) (cwV 0 hts g_q_goesOn_7 rfl rfl rfl (by decide +kernel) ⟨Nat.le_of_ble_eq_true rfl, Nat.le_of_ble_eq_true rfl⟩) (x_preV (q := (RX12, TX12, 85)) hK hP hD (ci := 11) (q0 := 0) rfl mwd_o0) rfl rfl hl.1 rfl (lv_room (Nat.le_of_ble_eq_true rfl)) dX12_goesOn_273 ⟨Nat.le_of_ble_eq_true rfl, Nat.le_of_ble_eq_true rfl⟩) hP hD hS hA (fun u H locs hw hP hD hS => ?_)
                                          obtain ⟨n_99, n_100, f_101⟩ := u
                                          try dsimp only at hw
                                          have hP : va_P D vwCl (mwd y ad zw (tI (sI (sI (sI (tI (sI (sI (sI σ 32 op) 2 n_15) 29 cd2) 27 fc2) 31 ws2) 31 n_99) 29 n_100) 27 f_101)) H := hP
                                          have hD : va_D A (mwd y ad zw (tI (sI (sI (sI (tI (sI (sI (sI σ 32 op) 2 n_15) 29 cd2) 27 fc2) 31 ws2) 31 n_99) 29 n_100) 27 f_101)) := hD
                                          replace hw : n_99.toInt = (ws2).toInt - 1 ∧ n_100.toInt = (cd2).toInt + 1 ∧ f_101 = upd (fc2) (cd2).toInt.toNat (((σ.2.2.1 30)) ((ws2).toInt.toNat - 1)) := hw
                                          refine lv_goto (tgt := 240) hx hb dX12_goesOn_276 (by decide) ?_
                                          have hP : va_P D vwCl (mwd y ad zw (sI (tI (sI (sI (sI σ 32 op) 2 n_15) 29 n_100) 27 f_101) 31 n_99)) H := hP
                                          have hD : va_D A (mwd y ad zw (sI (tI (sI (sI (sI σ 32 op) 2 n_15) 29 n_100) 27 f_101) 31 n_99)) := hD
                                          exact ih_loop3 o1 n_100 f_101 n_99 H locs ls (by omega) (by omega) (by omega) (by omega) (by omega) (by obtain ⟨h7, h6, h5⟩ := hw; rw [h5, show n_100.toInt.toNat = cd2.toInt.toNat + 1 by omega, show n_99.toInt.toNat = ws2.toInt.toNat - 1 by omega]; exact ES_drop hE2 hbn (by omega) (by omega)) (by omega) hP hD hS (lv_sub hl [0, 1] rfl)
                                        · have kc_98 : r_82.toInt = 0 := by have h9 := c_98; simp only [ge_iff_le, gt_iff_lt, x_lt, x_le, x_eq, ne_eq, Int32.not_lt, Int32.not_le] at h9; simp only [Int32.reduceToInt] at h9; omega
                                          exfalso
                                          omega
                                  · have hbn := ES_on hE2 hlo (by omega) (by omega)
                                    refine lv_if_ne (tgt := 272) hx hb dX12_goesOn_245 (by decide) (fun c_102 => ?_) (fun c_102 => ?_)
                                    · have kc_102 : r_80.toInt ≠ 0 := by have h9 := c_102; simp only [ge_iff_le, gt_iff_lt, x_lt, x_le, x_eq, ne_eq, Int32.not_lt, Int32.not_le] at h9; simp only [Int32.reduceToInt] at h9; omega
                                      refine lv_aload_n hx hb dX12_goesOn_272 rfl (lv_at hl 1 rfl) ?_
                                      refine x_callvW (va_runV (As := []) (rest := []) ⟨hx, hb, hml, hown, hts⟩ (q_drops l D y H.size ad zw (sI (tI (sI (sI (sI σ 32 op) 2 n_15) 29 cd2) 27 fc2) 31 ws2) (show 1 ≤ (ws2).toInt from by first | omega | decide) (show (ws2).toInt ≤ 800 from by first | omega | decide) (show 0 ≤ (cd2).toInt from by first | omega | decide) (show (cd2).toInt < 1200 from by first | omega | decide)) (cwV 0 hts g_q_goesOn_7 rfl rfl rfl (by decide +kernel) ⟨Nat.le_of_ble_eq_true rfl, Nat.le_of_ble_eq_true rfl⟩) (x_preV (q := (RX12, TX12, 85)) hK hP hD (ci := 11) (q0 := 0) rfl mwd_o0) rfl rfl hl.1 rfl (lv_room (Nat.le_of_ble_eq_true rfl)) dX12_goesOn_273 ⟨Nat.le_of_ble_eq_true rfl, Nat.le_of_ble_eq_true rfl⟩) hP hD hS hA (fun u H locs hw hP hD hS => ?_)
                                      obtain ⟨n_103, n_104, f_105⟩ := u
                                      try dsimp only at hw
                                      have hP : va_P D vwCl (mwd y ad zw (tI (sI (sI (sI (tI (sI (sI (sI σ 32 op) 2 n_15) 29 cd2) 27 fc2) 31 ws2) 31 n_103) 29 n_104) 27 f_105)) H := hP
                                      have hD : va_D A (mwd y ad zw (tI (sI (sI (sI (tI (sI (sI (sI σ 32 op) 2 n_15) 29 cd2) 27 fc2) 31 ws2) 31 n_103) 29 n_104) 27 f_105)) := hD
                                      replace hw : n_103.toInt = (ws2).toInt - 1 ∧ n_104.toInt = (cd2).toInt + 1 ∧ f_105 = upd (fc2) (cd2).toInt.toNat (((σ.2.2.1 30)) ((ws2).toInt.toNat - 1)) := hw
                                      refine lv_goto (tgt := 240) hx hb dX12_goesOn_276 (by decide) ?_
                                      have hP : va_P D vwCl (mwd y ad zw (sI (tI (sI (sI (sI σ 32 op) 2 n_15) 29 n_104) 27 f_105) 31 n_103)) H := hP
                                      have hD : va_D A (mwd y ad zw (sI (tI (sI (sI (sI σ 32 op) 2 n_15) 29 n_104) 27 f_105) 31 n_103)) := hD
                                      exact ih_loop3 o1 n_104 f_105 n_103 H locs ls (by omega) (by omega) (by omega) (by omega) (by omega) (by obtain ⟨h7, h6, h5⟩ := hw; rw [h5, show n_104.toInt.toNat = cd2.toInt.toNat + 1 by omega, show n_103.toInt.toNat = ws2.toInt.toNat - 1 by omega]; exact ES_drop hE2 hbn (by omega) (by omega)) (by omega) hP hD hS (lv_sub hl [0, 1] rfl)
                                    · have kc_102 : r_80.toInt = 0 := by have h9 := c_102; simp only [ge_iff_le, gt_iff_lt, x_lt, x_le, x_eq, ne_eq, Int32.not_lt, Int32.not_le] at h9; simp only [Int32.reduceToInt] at h9; omega
                                      exfalso
                                      omega
                              exact loop3 801 1 cd fc ws H locs ls (by decide) (by decide) (by omega) (by omega) (by omega) hE (by omega) hP hD hS (lv_sub hl [0, 1] rfl)
                    · skip
                      refine lv_if_ne (tgt := 218) hx hb dX12_goesOn_206 (by decide) (fun c_106 => ?_) (fun c_106 => ?_)
                      · have kc_106 : r_11.toInt ≠ 0 := by have h9 := c_106; simp only [ge_iff_le, gt_iff_lt, x_lt, x_le, x_eq, ne_eq, Int32.not_lt, Int32.not_le] at h9; simp only [Int32.reduceToInt] at h9; omega
                        refine lv_aload_n hx hb dX12_goesOn_218 rfl (lv_at hl 0 rfl) ?_
                        refine va_get (D := D) (ci := 11) (v := .ref (ad 0)) (C := RX12) (T := TX12) (N := 85) hx hb hts inX12 hown hK hP 0 mwd_o0 rfl 0 (by decide) fl7 (fun _ h9 => h9) rfl dX12_goesOn_219 ?_
                        refine lv_aload_n hx hb dX12_goesOn_222 rfl (lv_at hl 0 rfl) ?_
                        refine va_get (D := D) (ci := 11) (v := .int n_12) (C := RX12) (T := TX12) (N := 85) hx hb hts inX12 hown hK hP 0 mwd_o0 rfl 2 (by decide) fl197 (fun _ h9 => h9) rfl dX12_goesOn_223 ?_
                        refine lv_iconst (v := 1) hx hb dX12_goesOn_226 (by decide) ?_
                        refine lv_isub hx hb dX12_goesOn_227 ?_
                        refine lv_topi (fun i_107 ei_107 => ?_)
                        have vi_107 : i_107.toInt = n_12.toInt - 1 := by have h9 := x_sub ei_107 (by omega) (by omega); omega
                        refine va_iald hx hb hK hP 1 2 mwd_a1 rfl (x_in (by omega) (by omega)) dX12_goesOn_228 ?_
                        refine lv_topi (fun i_108 ei_108 => ?_)
                        have ei_108 : i_108 = (σ.2.2.1 0) (Int32.toNatClampNeg i_107) := ei_108
                        refine lv_bipush (v := 43) hx hb dX12_goesOn_229 (by decide) ?_
                        refine lv_icmp_ne (tgt := 238) hx hb dX12_goesOn_231 (by decide) (fun c_109 => ?_) (fun c_109 => ?_)
                        · have kc_109 : i_108.toInt ≠ 43 := by have h9 := c_109; simp only [ge_iff_le, gt_iff_lt, x_lt, x_le, x_eq, ne_eq, Int32.not_lt, Int32.not_le] at h9; simp only [Int32.reduceToInt] at h9; omega
                          refine lv_iconst (v := 2) hx hb dX12_goesOn_238 (by decide) ?_
                          refine lv_istore_n (lv' := [(1, .int 2), (0, .ref (ad 1))]) hx hb dX12_goesOn_239 rfl hl (by decide) rfl (fun ls hl => ?_)
                          have hP : va_P D vwCl (mwd y ad zw (sI (tI (sI (sI (sI σ 32 op) 2 n_12) 29 cd) 27 fc) 31 ws)) H := hP
                          have hD : va_D A (mwd y ad zw (sI (tI (sI (sI (sI σ 32 op) 2 n_12) 29 cd) 27 fc) 31 ws)) := hD
                          have loop3 : ∀ (fu : Nat) (o1 : Int32) (cd2 : Int32) (fc2 : Nat → Int32) (ws2 : Int32) (H : Heap) (locs : List Loc) (ls : Array Slot), (1 ≤ o1.toInt) → (o1.toInt ≤ 4) → ((b : Int) ≤ ws2.toInt) → ((σ.1 29).toInt ≤ cd2.toInt) → (cd2.toInt + ws2.toInt = cd.toInt + ws.toInt) → (ES f0 fc2 w0 (σ.2.2.1 30) c0 cd2.toInt.toNat b ws2.toInt.toNat 1 X op.toInt o0) → (ws2.toInt < (fu : Int)) → va_P D vwCl (mwd y ad zw (sI (tI (sI (sI (sI σ 32 op) 2 n_12) 29 cd2) 27 fc2) 31 ws2)) H → va_D A (mwd y ad zw (sI (tI (sI (sI (sI σ 32 op) 2 n_12) 29 cd2) 27 fc2) 31 ws2)) → va_S A s.heap H locs → lv_has ls 2 [(1, .int o1), (0, .ref (ad 1))] → W p l e ({ frames := 3, cells := 0, slots := 0, locals := 64 } : Room) s m ([.ref (ad 1)] : List Value).toArray below meth c H locs 0 0 Q (F0 m 240 ls []) := by
                            intro fu
                            induction fu with
                            | zero =>
                              intro o1 cd2 fc2 ws2 H locs ls hV1 hV2 hW2 hC2 hp2 hE2 hm
                              exact absurd hm (by omega)
                            | succ fu ih_loop3 =>
                              intro o1 cd2 fc2 ws2 H locs ls hV1 hV2 hW2 hC2 hp2 hE2 hm hP hD hS hl
                              refine lv_aload_n hx hb dX12_goesOn_240 rfl (lv_at hl 1 rfl) ?_
                              refine lv_iconst (v := 3) hx hb dX12_goesOn_241 (by decide) ?_
                              refine x_calliW (va_runV (As := [.int 3]) (rest := []) ⟨hx, hb, hml, hown, hts⟩ (q_isOn l D y H.size ad zw (sI (tI (sI (sI (sI σ 32 op) 2 n_12) 29 cd2) 27 fc2) 31 ws2) 3 (show 0 ≤ (ws2).toInt from by first | omega | decide) (show (ws2).toInt ≤ 800 from by first | omega | decide)) (cwV 1 hts g_q_goesOn_6 rfl rfl rfl (by decide +kernel) ⟨Nat.le_of_ble_eq_true rfl, Nat.le_of_ble_eq_true rfl⟩) (x_preV (q := (RX12, TX12, 85)) hK hP hD (ci := 11) (q0 := 0) rfl mwd_o0) rfl rfl hl.1 rfl (lv_room (Nat.le_of_ble_eq_true rfl)) dX12_goesOn_242 ⟨Nat.le_of_ble_eq_true rfl, Nat.le_of_ble_eq_true rfl⟩) hP hD hS hA (fun r_110 u H locs hw hP hD hS => ?_)
                              try dsimp only at hw
                              have hP : va_P D vwCl (mwd y ad zw (sI (tI (sI (sI (sI σ 32 op) 2 n_12) 29 cd2) 27 fc2) 31 ws2)) H := hP
                              have hD : va_D A (mwd y ad zw (sI (tI (sI (sI (sI σ 32 op) 2 n_12) 29 cd2) 27 fc2) 31 ws2)) := hD
                              replace hw : (r_110.toInt = 0 ∧ ((ws2).toInt ≤ 0 ∨ (((σ.2.2.1 30)) ((ws2).toInt.toNat - 1)).toInt ≠ (3 : Int32).toInt)) ∨ (r_110.toInt = 1 ∧ 1 ≤ (ws2).toInt ∧ (((σ.2.2.1 30)) ((ws2).toInt.toNat - 1)).toInt = (3 : Int32).toInt) := hw
                              rcases hw with ⟨hi1, hi2⟩ | ⟨hi1, hi2, hi3⟩
                              · clear hi2
                                refine lv_if_ne (tgt := 272) hx hb dX12_goesOn_245 (by decide) (fun c_111 => ?_) (fun c_111 => ?_)
                                · have kc_111 : r_110.toInt ≠ 0 := by have h9 := c_111; simp only [ge_iff_le, gt_iff_lt, x_lt, x_le, x_eq, ne_eq, Int32.not_lt, Int32.not_le] at h9; simp only [Int32.reduceToInt] at h9; omega
                                  exfalso
                                  omega
                                · have kc_111 : r_110.toInt = 0 := by have h9 := c_111; simp only [ge_iff_le, gt_iff_lt, x_lt, x_le, x_eq, ne_eq, Int32.not_lt, Int32.not_le] at h9; simp only [Int32.reduceToInt] at h9; omega
                                  refine lv_aload_n hx hb dX12_goesOn_248 rfl (lv_at hl 1 rfl) ?_
                                  refine lv_iconst (v := 4) hx hb dX12_goesOn_249 (by decide) ?_
                                  refine x_calliW (va_runV (As := [.int 4]) (rest := []) ⟨hx, hb, hml, hown, hts⟩ (q_isOn l D y H.size ad zw (sI (tI (sI (sI (sI σ 32 op) 2 n_12) 29 cd2) 27 fc2) 31 ws2) 4 (show 0 ≤ (ws2).toInt from by first | omega | decide) (show (ws2).toInt ≤ 800 from by first | omega | decide)) (cwV 1 hts g_q_goesOn_6 rfl rfl rfl (by decide +kernel) ⟨Nat.le_of_ble_eq_true rfl, Nat.le_of_ble_eq_true rfl⟩) (x_preV (q := (RX12, TX12, 85)) hK hP hD (ci := 11) (q0 := 0) rfl mwd_o0) rfl rfl hl.1 rfl (lv_room (Nat.le_of_ble_eq_true rfl)) dX12_goesOn_250 ⟨Nat.le_of_ble_eq_true rfl, Nat.le_of_ble_eq_true rfl⟩) hP hD hS hA (fun r_112 u H locs hw hP hD hS => ?_)
                                  try dsimp only at hw
                                  have hP : va_P D vwCl (mwd y ad zw (sI (tI (sI (sI (sI σ 32 op) 2 n_12) 29 cd2) 27 fc2) 31 ws2)) H := hP
                                  have hD : va_D A (mwd y ad zw (sI (tI (sI (sI (sI σ 32 op) 2 n_12) 29 cd2) 27 fc2) 31 ws2)) := hD
                                  replace hw : (r_112.toInt = 0 ∧ ((ws2).toInt ≤ 0 ∨ (((σ.2.2.1 30)) ((ws2).toInt.toNat - 1)).toInt ≠ (4 : Int32).toInt)) ∨ (r_112.toInt = 1 ∧ 1 ≤ (ws2).toInt ∧ (((σ.2.2.1 30)) ((ws2).toInt.toNat - 1)).toInt = (4 : Int32).toInt) := hw
                                  rcases hw with ⟨hi1, hi2⟩ | ⟨hi1, hi2, hi3⟩
                                  · clear hi2
                                    refine lv_if_ne (tgt := 272) hx hb dX12_goesOn_253 (by decide) (fun c_113 => ?_) (fun c_113 => ?_)
                                    · have kc_113 : r_112.toInt ≠ 0 := by have h9 := c_113; simp only [ge_iff_le, gt_iff_lt, x_lt, x_le, x_eq, ne_eq, Int32.not_lt, Int32.not_le] at h9; simp only [Int32.reduceToInt] at h9; omega
                                      exfalso
                                      omega
                                    · have kc_113 : r_112.toInt = 0 := by have h9 := c_113; simp only [ge_iff_le, gt_iff_lt, x_lt, x_le, x_eq, ne_eq, Int32.not_lt, Int32.not_le] at h9; simp only [Int32.reduceToInt] at h9; omega
                                      refine lv_aload_n hx hb dX12_goesOn_256 rfl (lv_at hl 1 rfl) ?_
                                      refine lv_iconst (v := 1) hx hb dX12_goesOn_257 (by decide) ?_
                                      refine x_calliW (va_runV (As := [.int 1]) (rest := []) ⟨hx, hb, hml, hown, hts⟩ (q_isOn l D y H.size ad zw (sI (tI (sI (sI (sI σ 32 op) 2 n_12) 29 cd2) 27 fc2) 31 ws2) 1 (show 0 ≤ (ws2).toInt from by first | omega | decide) (show (ws2).toInt ≤ 800 from by first | omega | decide)) (cwV 1 hts g_q_goesOn_6 rfl rfl rfl (by decide +kernel) ⟨Nat.le_of_ble_eq_true rfl, Nat.le_of_ble_eq_true rfl⟩) (x_preV (q := (RX12, TX12, 85)) hK hP hD (ci := 11) (q0 := 0) rfl mwd_o0) rfl rfl hl.1 rfl (lv_room (Nat.le_of_ble_eq_true rfl)) dX12_goesOn_258 ⟨Nat.le_of_ble_eq_true rfl, Nat.le_of_ble_eq_true rfl⟩) hP hD hS hA (fun r_114 u H locs hw hP hD hS => ?_)
                                      try dsimp only at hw
                                      have hP : va_P D vwCl (mwd y ad zw (sI (tI (sI (sI (sI σ 32 op) 2 n_12) 29 cd2) 27 fc2) 31 ws2)) H := hP
                                      have hD : va_D A (mwd y ad zw (sI (tI (sI (sI (sI σ 32 op) 2 n_12) 29 cd2) 27 fc2) 31 ws2)) := hD
                                      replace hw : (r_114.toInt = 0 ∧ ((ws2).toInt ≤ 0 ∨ (((σ.2.2.1 30)) ((ws2).toInt.toNat - 1)).toInt ≠ (1 : Int32).toInt)) ∨ (r_114.toInt = 1 ∧ 1 ≤ (ws2).toInt ∧ (((σ.2.2.1 30)) ((ws2).toInt.toNat - 1)).toInt = (1 : Int32).toInt) := hw
                                      rcases hw with ⟨hi1, hi2⟩ | ⟨hi1, hi2, hi3⟩
                                      · clear hi2
                                        refine lv_if_ne (tgt := 272) hx hb dX12_goesOn_261 (by decide) (fun c_115 => ?_) (fun c_115 => ?_)
                                        · have kc_115 : r_114.toInt ≠ 0 := by have h9 := c_115; simp only [ge_iff_le, gt_iff_lt, x_lt, x_le, x_eq, ne_eq, Int32.not_lt, Int32.not_le] at h9; simp only [Int32.reduceToInt] at h9; omega
                                          exfalso
                                          omega
                                        · have kc_115 : r_114.toInt = 0 := by have h9 := c_115; simp only [ge_iff_le, gt_iff_lt, x_lt, x_le, x_eq, ne_eq, Int32.not_lt, Int32.not_le] at h9; simp only [Int32.reduceToInt] at h9; omega
                                          refine lv_aload_n hx hb dX12_goesOn_264 rfl (lv_at hl 1 rfl) ?_
                                          refine lv_iconst (v := 2) hx hb dX12_goesOn_265 (by decide) ?_
                                          refine x_calliW (va_runV (As := [.int 2]) (rest := []) ⟨hx, hb, hml, hown, hts⟩ (q_isOn l D y H.size ad zw (sI (tI (sI (sI (sI σ 32 op) 2 n_12) 29 cd2) 27 fc2) 31 ws2) 2 (show 0 ≤ (ws2).toInt from by first | omega | decide) (show (ws2).toInt ≤ 800 from by first | omega | decide)) (cwV 1 hts g_q_goesOn_6 rfl rfl rfl (by decide +kernel) ⟨Nat.le_of_ble_eq_true rfl, Nat.le_of_ble_eq_true rfl⟩) (x_preV (q := (RX12, TX12, 85)) hK hP hD (ci := 11) (q0 := 0) rfl mwd_o0) rfl rfl hl.1 rfl (lv_room (Nat.le_of_ble_eq_true rfl)) dX12_goesOn_266 ⟨Nat.le_of_ble_eq_true rfl, Nat.le_of_ble_eq_true rfl⟩) hP hD hS hA (fun r_116 u H locs hw hP hD hS => ?_)
                                          try dsimp only at hw
                                          have hP : va_P D vwCl (mwd y ad zw (sI (tI (sI (sI (sI σ 32 op) 2 n_12) 29 cd2) 27 fc2) 31 ws2)) H := hP
                                          have hD : va_D A (mwd y ad zw (sI (tI (sI (sI (sI σ 32 op) 2 n_12) 29 cd2) 27 fc2) 31 ws2)) := hD
                                          replace hw : (r_116.toInt = 0 ∧ ((ws2).toInt ≤ 0 ∨ (((σ.2.2.1 30)) ((ws2).toInt.toNat - 1)).toInt ≠ (2 : Int32).toInt)) ∨ (r_116.toInt = 1 ∧ 1 ≤ (ws2).toInt ∧ (((σ.2.2.1 30)) ((ws2).toInt.toNat - 1)).toInt = (2 : Int32).toInt) := hw
                                          rcases hw with ⟨hi1, hi2⟩ | ⟨hi1, hi2, hi3⟩
                                          · clear hi2
                                            refine lv_if_eq (tgt := 279) hx hb dX12_goesOn_269 (by decide) (fun c_117 => ?_) (fun c_117 => ?_)
                                            · have kc_117 : r_116.toInt = 0 := by have h9 := c_117; simp only [ge_iff_le, gt_iff_lt, x_lt, x_le, x_eq, ne_eq, Int32.not_lt, Int32.not_le] at h9; simp only [Int32.reduceToInt] at h9; omega
                                              refine lv_aload_n hx hb dX12_goesOn_279 rfl (lv_at hl 1 rfl) ?_
                                              refine va_get (D := D) (ci := 11) (v := .ref (ad 30)) (C := RX12) (T := TX12) (N := 85) hx hb hts inX12 hown hK hP 0 mwd_o0 rfl 30 (by decide) fl75 (fun _ h9 => h9) rfl dX12_goesOn_280 ?_
                                              refine lv_aload_n hx hb dX12_goesOn_283 rfl (lv_at hl 1 rfl) ?_
                                              refine va_get (D := D) (ci := 11) (v := .int ws2) (C := RX12) (T := TX12) (N := 85) hx hb hts inX12 hown hK hP 0 mwd_o0 rfl 31 (by decide) fl263 (fun _ h9 => h9) rfl dX12_goesOn_284 ?_
                                              refine lv_iload_n hx hb dX12_goesOn_287 rfl (lv_at hl 0 rfl) ?_
                                              refine va_iast hx hb hK hP hD hS 21 2 mwd_a21 rfl (x_in (by omega) (by omega)) dX12_goesOn_288 (fun H locs hP hD hS => ?_)
                                              obtain ⟨f_118, ef_118⟩ : ∃ z9 : Nat → Int32, z9 = (upd (σ.2.2.1 30) (Int32.toNatClampNeg ws2) o1) := ⟨_, rfl⟩
                                              have hP : va_P D vwCl (mwd y ad zw (tI (sI (tI (sI (sI (sI σ 32 op) 2 n_12) 29 cd2) 27 fc2) 31 ws2) 30 f_118)) H := by rw [ef_118]; exact x_trP hP mwd_s21
                                              have hD : va_D A (mwd y ad zw (tI (sI (tI (sI (sI (sI σ 32 op) 2 n_12) 29 cd2) 27 fc2) 31 ws2) 30 f_118)) := by rw [ef_118]; exact x_trD hD mwd_s21
                                              rw [x_cl (n := ws2.toInt.toNat) (by omega)] at ef_118
                                              refine lv_aload_n hx hb dX12_goesOn_289 rfl (lv_at hl 1 rfl) ?_
                                              refine lv_dup hx hb dX12_goesOn_290 rfl ?_
                                              refine va_get (D := D) (ci := 11) (v := .int ws2) (C := RX12) (T := TX12) (N := 85) hx hb hts inX12 hown hK hP 0 mwd_o0 rfl 31 (by decide) fl263 (fun _ h9 => h9) rfl dX12_goesOn_291 ?_
                                              refine lv_iconst (v := 1) hx hb dX12_goesOn_294 (by decide) ?_
                                              refine lv_iadd hx hb dX12_goesOn_295 ?_
                                              refine lv_topi (fun i_119 ei_119 => ?_)
                                              have vi_119 : i_119.toInt = ws2.toInt + 1 := by have h9 := x_add ei_119 (by omega) (by omega); omega
                                              refine va_put (D := D) (ci := 11) (v := .int i_119) (ty := .int) (C := RX12) (T := TX12) (N := 85) hx hb hts inX12 tyX12 tyX12_ok nmX12 hown hK hP hD hS 0 mwd_o0 rfl 31 (by decide) fl263 (fun _ h9 => h9) rfl (by decide +kernel) rfl rfl (Nat.le_of_ble_eq_true rfl) dX12_goesOn_296 (fun H locs hP hD hS => ?_)
                                              have hP : va_P D vwCl (mwd y ad zw (sI (tI (sI (tI (sI (sI (sI σ 32 op) 2 n_12) 29 cd2) 27 fc2) 31 ws2) 30 f_118) 31 i_119)) H := x_trP hP mwd_p0_31
                                              have hD : va_D A (mwd y ad zw (sI (tI (sI (tI (sI (sI (sI σ 32 op) 2 n_12) 29 cd2) 27 fc2) 31 ws2) 30 f_118) 31 i_119)) := x_trD hD mwd_p0_31
                                              refine lv_iconst (v := 1) hx hb dX12_goesOn_299 (by decide) ?_
                                              have hP : va_P D vwCl (mwd y ad zw (sI (tI (sI (tI (sI (sI (sI (sI σ 2 n_12) 5 (σ.1 5)) 6 (σ.1 6)) 29 cd2) 27 fc2) 32 op) 30 f_118) 31 i_119)) H := hP
                                              have hD : va_D A (mwd y ad zw (sI (tI (sI (tI (sI (sI (sI (sI σ 2 n_12) 5 (σ.1 5)) 6 (σ.1 6)) 29 cd2) 27 fc2) 32 op) 30 f_118) 31 i_119)) := hD
                                              exact x_zretW (v := 1) (u := (n_12, (σ.1 5), (σ.1 6), cd2, fc2, op, f_118, i_119)) hx hb hr hQ rfl (by (try dsimp only); exact ⟨by omega, by omega, by omega, by omega, by omega, by omega, by omega, by omega, fun h9 => ⟨fun _ => ⟨by omega, by rw [ef_118, show i_119.toInt.toNat = ws2.toInt.toNat + 1 by omega]; exact ES_op hE2 ⟨by first | omega | decide, by first | omega | decide⟩⟩, fun h8 => absurd h8 (by omega)⟩⟩) hP hD hK hS dX12_goesOn_300 hlocks
                                            · have kc_117 : r_116.toInt ≠ 0 := by have h9 := c_117; simp only [ge_iff_le, gt_iff_lt, x_lt, x_le, x_eq, ne_eq, Int32.not_lt, Int32.not_le] at h9; simp only [Int32.reduceToInt] at h9; omega
                                              exfalso
                                              omega
                                          · have hbn := ES_on hE2 hlo (by omega) (by omega)
                                            refine lv_if_eq (tgt := 279) hx hb dX12_goesOn_269 (by decide) (fun c_120 => ?_) (fun c_120 => ?_)
                                            · have kc_120 : r_116.toInt = 0 := by have h9 := c_120; simp only [ge_iff_le, gt_iff_lt, x_lt, x_le, x_eq, ne_eq, Int32.not_lt, Int32.not_le] at h9; simp only [Int32.reduceToInt] at h9; omega
                                              exfalso
                                              omega
                                            · have kc_120 : r_116.toInt ≠ 0 := by have h9 := c_120; simp only [ge_iff_le, gt_iff_lt, x_lt, x_le, x_eq, ne_eq, Int32.not_lt, Int32.not_le] at h9; simp only [Int32.reduceToInt] at h9; omega
                                              refine lv_aload_n hx hb dX12_goesOn_272 rfl (lv_at hl 1 rfl) ?_
                                              refine x_callvW (va_runV (As := []) (rest := []) ⟨hx, hb, hml, hown, hts⟩ (q_drops l D y H.size ad zw (sI (tI (sI (sI (sI σ 32 op) 2 n_12) 29 cd2) 27 fc2) 31 ws2) (show 1 ≤ (ws2).toInt from by first | omega | decide) (show (ws2).toInt ≤ 800 from by first | omega | decide) (show 0 ≤ (cd2).toInt from by first | omega | decide) (show (cd2).toInt < 1200 from by first | omega | decide)) (cwV 0 hts g_q_goesOn_7 rfl rfl rfl (by decide +kernel) ⟨Nat.le_of_ble_eq_true rfl, Nat.le_of_ble_eq_true rfl⟩) (x_preV (q := (RX12, TX12, 85)) hK hP hD (ci := 11) (q0 := 0) rfl mwd_o0) rfl rfl hl.1 rfl (lv_room (Nat.le_of_ble_eq_true rfl)) dX12_goesOn_273 ⟨Nat.le_of_ble_eq_true rfl, Nat.le_of_ble_eq_true rfl⟩) hP hD hS hA (fun u H locs hw hP hD hS => ?_)
                                              obtain ⟨n_121, n_122, f_123⟩ := u
                                              try dsimp only at hw
                                              have hP : va_P D vwCl (mwd y ad zw (tI (sI (sI (sI (tI (sI (sI (sI σ 32 op) 2 n_12) 29 cd2) 27 fc2) 31 ws2) 31 n_121) 29 n_122) 27 f_123)) H := hP
                                              have hD : va_D A (mwd y ad zw (tI (sI (sI (sI (tI (sI (sI (sI σ 32 op) 2 n_12) 29 cd2) 27 fc2) 31 ws2) 31 n_121) 29 n_122) 27 f_123)) := hD
                                              replace hw : n_121.toInt = (ws2).toInt - 1 ∧ n_122.toInt = (cd2).toInt + 1 ∧ f_123 = upd (fc2) (cd2).toInt.toNat (((σ.2.2.1 30)) ((ws2).toInt.toNat - 1)) := hw
                                              refine lv_goto (tgt := 240) hx hb dX12_goesOn_276 (by decide) ?_
                                              have hP : va_P D vwCl (mwd y ad zw (sI (tI (sI (sI (sI σ 32 op) 2 n_12) 29 n_122) 27 f_123) 31 n_121)) H := hP
                                              have hD : va_D A (mwd y ad zw (sI (tI (sI (sI (sI σ 32 op) 2 n_12) 29 n_122) 27 f_123) 31 n_121)) := hD
                                              exact ih_loop3 o1 n_122 f_123 n_121 H locs ls (by omega) (by omega) (by omega) (by omega) (by omega) (by obtain ⟨h7, h6, h5⟩ := hw; rw [h5, show n_122.toInt.toNat = cd2.toInt.toNat + 1 by omega, show n_121.toInt.toNat = ws2.toInt.toNat - 1 by omega]; exact ES_drop hE2 hbn (by omega) (by omega)) (by omega) hP hD hS (lv_sub hl [0, 1] rfl)
                                      · have hbn := ES_on hE2 hlo (by omega) (by omega)
                                        refine lv_if_ne (tgt := 272) hx hb dX12_goesOn_261 (by decide) (fun c_124 => ?_) (fun c_124 => ?_)
                                        · have kc_124 : r_114.toInt ≠ 0 := by have h9 := c_124; simp only [ge_iff_le, gt_iff_lt, x_lt, x_le, x_eq, ne_eq, Int32.not_lt, Int32.not_le] at h9; simp only [Int32.reduceToInt] at h9; omega
                                          refine lv_aload_n hx hb dX12_goesOn_272 rfl (lv_at hl 1 rfl) ?_
                                          refine x_callvW (va_runV (As := []) (rest := []) ⟨hx, hb, hml, hown, hts⟩ (q_drops l D y H.size ad zw (sI (tI (sI (sI (sI σ 32 op) 2 n_12) 29 cd2) 27 fc2) 31 ws2) (show 1 ≤ (ws2).toInt from by first | omega | decide) (show (ws2).toInt ≤ 800 from by first | omega | decide) (show 0 ≤ (cd2).toInt from by first | omega | decide) (show (cd2).toInt < 1200 from by first | omega | decide)) (cwV 0 hts g_q_goesOn_7 rfl rfl rfl (by decide +kernel) ⟨Nat.le_of_ble_eq_true rfl, Nat.le_of_ble_eq_true rfl⟩) (x_preV (q := (RX12, TX12, 85)) hK hP hD (ci := 11) (q0 := 0) rfl mwd_o0) rfl rfl hl.1 rfl (lv_room (Nat.le_of_ble_eq_true rfl)) dX12_goesOn_273 ⟨Nat.le_of_ble_eq_true rfl, Nat.le_of_ble_eq_true rfl⟩) hP hD hS hA (fun u H locs hw hP hD hS => ?_)
                                          obtain ⟨n_125, n_126, f_127⟩ := u
                                          try dsimp only at hw
                                          have hP : va_P D vwCl (mwd y ad zw (tI (sI (sI (sI (tI (sI (sI (sI σ 32 op) 2 n_12) 29 cd2) 27 fc2) 31 ws2) 31 n_125) 29 n_126) 27 f_127)) H := hP
                                          have hD : va_D A (mwd y ad zw (tI (sI (sI (sI (tI (sI (sI (sI σ 32 op) 2 n_12) 29 cd2) 27 fc2) 31 ws2) 31 n_125) 29 n_126) 27 f_127)) := hD
                                          replace hw : n_125.toInt = (ws2).toInt - 1 ∧ n_126.toInt = (cd2).toInt + 1 ∧ f_127 = upd (fc2) (cd2).toInt.toNat (((σ.2.2.1 30)) ((ws2).toInt.toNat - 1)) := hw
                                          refine lv_goto (tgt := 240) hx hb dX12_goesOn_276 (by decide) ?_
                                          have hP : va_P D vwCl (mwd y ad zw (sI (tI (sI (sI (sI σ 32 op) 2 n_12) 29 n_126) 27 f_127) 31 n_125)) H := hP
                                          have hD : va_D A (mwd y ad zw (sI (tI (sI (sI (sI σ 32 op) 2 n_12) 29 n_126) 27 f_127) 31 n_125)) := hD
                                          exact ih_loop3 o1 n_126 f_127 n_125 H locs ls (by omega) (by omega) (by omega) (by omega) (by omega) (by obtain ⟨h7, h6, h5⟩ := hw; rw [h5, show n_126.toInt.toNat = cd2.toInt.toNat + 1 by omega, show n_125.toInt.toNat = ws2.toInt.toNat - 1 by omega]; exact ES_drop hE2 hbn (by omega) (by omega)) (by omega) hP hD hS (lv_sub hl [0, 1] rfl)
                                        · have kc_124 : r_114.toInt = 0 := by have h9 := c_124; simp only [ge_iff_le, gt_iff_lt, x_lt, x_le, x_eq, ne_eq, Int32.not_lt, Int32.not_le] at h9; simp only [Int32.reduceToInt] at h9; omega
                                          exfalso
                                          omega
                                  · have hbn := ES_on hE2 hlo (by omega) (by omega)
                                    refine lv_if_ne (tgt := 272) hx hb dX12_goesOn_253 (by decide) (fun c_128 => ?_) (fun c_128 => ?_)
                                    · have kc_128 : r_112.toInt ≠ 0 := by have h9 := c_128; simp only [ge_iff_le, gt_iff_lt, x_lt, x_le, x_eq, ne_eq, Int32.not_lt, Int32.not_le] at h9; simp only [Int32.reduceToInt] at h9; omega
                                      refine lv_aload_n hx hb dX12_goesOn_272 rfl (lv_at hl 1 rfl) ?_
                                      refine x_callvW (va_runV (As := []) (rest := []) ⟨hx, hb, hml, hown, hts⟩ (q_drops l D y H.size ad zw (sI (tI (sI (sI (sI σ 32 op) 2 n_12) 29 cd2) 27 fc2) 31 ws2) (show 1 ≤ (ws2).toInt from by first | omega | decide) (show (ws2).toInt ≤ 800 from by first | omega | decide) (show 0 ≤ (cd2).toInt from by first | omega | decide) (show (cd2).toInt < 1200 from by first | omega | decide)) (cwV 0 hts g_q_goesOn_7 rfl rfl rfl (by decide +kernel) ⟨Nat.le_of_ble_eq_true rfl, Nat.le_of_ble_eq_true rfl⟩) (x_preV (q := (RX12, TX12, 85)) hK hP hD (ci := 11) (q0 := 0) rfl mwd_o0) rfl rfl hl.1 rfl (lv_room (Nat.le_of_ble_eq_true rfl)) dX12_goesOn_273 ⟨Nat.le_of_ble_eq_true rfl, Nat.le_of_ble_eq_true rfl⟩) hP hD hS hA (fun u H locs hw hP hD hS => ?_)
                                      obtain ⟨n_129, n_130, f_131⟩ := u
                                      try dsimp only at hw
                                      have hP : va_P D vwCl (mwd y ad zw (tI (sI (sI (sI (tI (sI (sI (sI σ 32 op) 2 n_12) 29 cd2) 27 fc2) 31 ws2) 31 n_129) 29 n_130) 27 f_131)) H := hP
                                      have hD : va_D A (mwd y ad zw (tI (sI (sI (sI (tI (sI (sI (sI σ 32 op) 2 n_12) 29 cd2) 27 fc2) 31 ws2) 31 n_129) 29 n_130) 27 f_131)) := hD
                                      replace hw : n_129.toInt = (ws2).toInt - 1 ∧ n_130.toInt = (cd2).toInt + 1 ∧ f_131 = upd (fc2) (cd2).toInt.toNat (((σ.2.2.1 30)) ((ws2).toInt.toNat - 1)) := hw
                                      refine lv_goto (tgt := 240) hx hb dX12_goesOn_276 (by decide) ?_
                                      have hP : va_P D vwCl (mwd y ad zw (sI (tI (sI (sI (sI σ 32 op) 2 n_12) 29 n_130) 27 f_131) 31 n_129)) H := hP
                                      have hD : va_D A (mwd y ad zw (sI (tI (sI (sI (sI σ 32 op) 2 n_12) 29 n_130) 27 f_131) 31 n_129)) := hD
                                      exact ih_loop3 o1 n_130 f_131 n_129 H locs ls (by omega) (by omega) (by omega) (by omega) (by omega) (by obtain ⟨h7, h6, h5⟩ := hw; rw [h5, show n_130.toInt.toNat = cd2.toInt.toNat + 1 by omega, show n_129.toInt.toNat = ws2.toInt.toNat - 1 by omega]; exact ES_drop hE2 hbn (by omega) (by omega)) (by omega) hP hD hS (lv_sub hl [0, 1] rfl)
                                    · have kc_128 : r_112.toInt = 0 := by have h9 := c_128; simp only [ge_iff_le, gt_iff_lt, x_lt, x_le, x_eq, ne_eq, Int32.not_lt, Int32.not_le] at h9; simp only [Int32.reduceToInt] at h9; omega
                                      exfalso
                                      omega
                              · have hbn := ES_on hE2 hlo (by omega) (by omega)
                                refine lv_if_ne (tgt := 272) hx hb dX12_goesOn_245 (by decide) (fun c_132 => ?_) (fun c_132 => ?_)
                                · have kc_132 : r_110.toInt ≠ 0 := by have h9 := c_132; simp only [ge_iff_le, gt_iff_lt, x_lt, x_le, x_eq, ne_eq, Int32.not_lt, Int32.not_le] at h9; simp only [Int32.reduceToInt] at h9; omega
                                  refine lv_aload_n hx hb dX12_goesOn_272 rfl (lv_at hl 1 rfl) ?_
                                  refine x_callvW (va_runV (As := []) (rest := []) ⟨hx, hb, hml, hown, hts⟩ (q_drops l D y H.size ad zw (sI (tI (sI (sI (sI σ 32 op) 2 n_12) 29 cd2) 27 fc2) 31 ws2) (show 1 ≤ (ws2).toInt from by first | omega | decide) (show (ws2).toInt ≤ 800 from by first | omega | decide) (show 0 ≤ (cd2).toInt from by first | omega | decide) (show (cd2).toInt < 1200 from by first | omega | decide)) (cwV 0 hts g_q_goesOn_7 rfl rfl rfl (by decide +kernel) ⟨Nat.le_of_ble_eq_true rfl, Nat.le_of_ble_eq_true rfl⟩) (x_preV (q := (RX12, TX12, 85)) hK hP hD (ci := 11) (q0 := 0) rfl mwd_o0) rfl rfl hl.1 rfl (lv_room (Nat.le_of_ble_eq_true rfl)) dX12_goesOn_273 ⟨Nat.le_of_ble_eq_true rfl, Nat.le_of_ble_eq_true rfl⟩) hP hD hS hA (fun u H locs hw hP hD hS => ?_)
                                  obtain ⟨n_133, n_134, f_135⟩ := u
                                  try dsimp only at hw
                                  have hP : va_P D vwCl (mwd y ad zw (tI (sI (sI (sI (tI (sI (sI (sI σ 32 op) 2 n_12) 29 cd2) 27 fc2) 31 ws2) 31 n_133) 29 n_134) 27 f_135)) H := hP
                                  have hD : va_D A (mwd y ad zw (tI (sI (sI (sI (tI (sI (sI (sI σ 32 op) 2 n_12) 29 cd2) 27 fc2) 31 ws2) 31 n_133) 29 n_134) 27 f_135)) := hD
                                  replace hw : n_133.toInt = (ws2).toInt - 1 ∧ n_134.toInt = (cd2).toInt + 1 ∧ f_135 = upd (fc2) (cd2).toInt.toNat (((σ.2.2.1 30)) ((ws2).toInt.toNat - 1)) := hw
                                  refine lv_goto (tgt := 240) hx hb dX12_goesOn_276 (by decide) ?_
                                  have hP : va_P D vwCl (mwd y ad zw (sI (tI (sI (sI (sI σ 32 op) 2 n_12) 29 n_134) 27 f_135) 31 n_133)) H := hP
                                  have hD : va_D A (mwd y ad zw (sI (tI (sI (sI (sI σ 32 op) 2 n_12) 29 n_134) 27 f_135) 31 n_133)) := hD
                                  exact ih_loop3 o1 n_134 f_135 n_133 H locs ls (by omega) (by omega) (by omega) (by omega) (by omega) (by obtain ⟨h7, h6, h5⟩ := hw; rw [h5, show n_134.toInt.toNat = cd2.toInt.toNat + 1 by omega, show n_133.toInt.toNat = ws2.toInt.toNat - 1 by omega]; exact ES_drop hE2 hbn (by omega) (by omega)) (by omega) hP hD hS (lv_sub hl [0, 1] rfl)
                                · have kc_132 : r_110.toInt = 0 := by have h9 := c_132; simp only [ge_iff_le, gt_iff_lt, x_lt, x_le, x_eq, ne_eq, Int32.not_lt, Int32.not_le] at h9; simp only [Int32.reduceToInt] at h9; omega
                                  exfalso
                                  omega
                          exact loop3 801 2 cd fc ws H locs ls (by decide) (by decide) (by omega) (by omega) (by omega) hE (by omega) hP hD hS (lv_sub hl [0, 1] rfl)
                        · have kc_109 : i_108.toInt = 43 := by have h9 := c_109; simp only [ge_iff_le, gt_iff_lt, x_lt, x_le, x_eq, ne_eq, Int32.not_lt, Int32.not_le] at h9; simp only [Int32.reduceToInt] at h9; omega
                          refine lv_iconst (v := 1) hx hb dX12_goesOn_234 (by decide) ?_
                          refine lv_goto (tgt := 239) hx hb dX12_goesOn_235 (by decide) ?_
                          refine lv_istore_n (lv' := [(1, .int 1), (0, .ref (ad 1))]) hx hb dX12_goesOn_239 rfl hl (by decide) rfl (fun ls hl => ?_)
                          have hP : va_P D vwCl (mwd y ad zw (sI (tI (sI (sI (sI σ 32 op) 2 n_12) 29 cd) 27 fc) 31 ws)) H := hP
                          have hD : va_D A (mwd y ad zw (sI (tI (sI (sI (sI σ 32 op) 2 n_12) 29 cd) 27 fc) 31 ws)) := hD
                          have loop3 : ∀ (fu : Nat) (o1 : Int32) (cd2 : Int32) (fc2 : Nat → Int32) (ws2 : Int32) (H : Heap) (locs : List Loc) (ls : Array Slot), (1 ≤ o1.toInt) → (o1.toInt ≤ 4) → ((b : Int) ≤ ws2.toInt) → ((σ.1 29).toInt ≤ cd2.toInt) → (cd2.toInt + ws2.toInt = cd.toInt + ws.toInt) → (ES f0 fc2 w0 (σ.2.2.1 30) c0 cd2.toInt.toNat b ws2.toInt.toNat 1 X op.toInt o0) → (ws2.toInt < (fu : Int)) → va_P D vwCl (mwd y ad zw (sI (tI (sI (sI (sI σ 32 op) 2 n_12) 29 cd2) 27 fc2) 31 ws2)) H → va_D A (mwd y ad zw (sI (tI (sI (sI (sI σ 32 op) 2 n_12) 29 cd2) 27 fc2) 31 ws2)) → va_S A s.heap H locs → lv_has ls 2 [(1, .int o1), (0, .ref (ad 1))] → W p l e ({ frames := 3, cells := 0, slots := 0, locals := 64 } : Room) s m ([.ref (ad 1)] : List Value).toArray below meth c H locs 0 0 Q (F0 m 240 ls []) := by
                            intro fu
                            induction fu with
                            | zero =>
                              intro o1 cd2 fc2 ws2 H locs ls hV1 hV2 hW2 hC2 hp2 hE2 hm
                              exact absurd hm (by omega)
                            | succ fu ih_loop3 =>
                              intro o1 cd2 fc2 ws2 H locs ls hV1 hV2 hW2 hC2 hp2 hE2 hm hP hD hS hl
                              refine lv_aload_n hx hb dX12_goesOn_240 rfl (lv_at hl 1 rfl) ?_
                              refine lv_iconst (v := 3) hx hb dX12_goesOn_241 (by decide) ?_
                              refine x_calliW (va_runV (As := [.int 3]) (rest := []) ⟨hx, hb, hml, hown, hts⟩ (q_isOn l D y H.size ad zw (sI (tI (sI (sI (sI σ 32 op) 2 n_12) 29 cd2) 27 fc2) 31 ws2) 3 (show 0 ≤ (ws2).toInt from by first | omega | decide) (show (ws2).toInt ≤ 800 from by first | omega | decide)) (cwV 1 hts g_q_goesOn_6 rfl rfl rfl (by decide +kernel) ⟨Nat.le_of_ble_eq_true rfl, Nat.le_of_ble_eq_true rfl⟩) (x_preV (q := (RX12, TX12, 85)) hK hP hD (ci := 11) (q0 := 0) rfl mwd_o0) rfl rfl hl.1 rfl (lv_room (Nat.le_of_ble_eq_true rfl)) dX12_goesOn_242 ⟨Nat.le_of_ble_eq_true rfl, Nat.le_of_ble_eq_true rfl⟩) hP hD hS hA (fun r_136 u H locs hw hP hD hS => ?_)
                              try dsimp only at hw
                              have hP : va_P D vwCl (mwd y ad zw (sI (tI (sI (sI (sI σ 32 op) 2 n_12) 29 cd2) 27 fc2) 31 ws2)) H := hP
                              have hD : va_D A (mwd y ad zw (sI (tI (sI (sI (sI σ 32 op) 2 n_12) 29 cd2) 27 fc2) 31 ws2)) := hD
                              replace hw : (r_136.toInt = 0 ∧ ((ws2).toInt ≤ 0 ∨ (((σ.2.2.1 30)) ((ws2).toInt.toNat - 1)).toInt ≠ (3 : Int32).toInt)) ∨ (r_136.toInt = 1 ∧ 1 ≤ (ws2).toInt ∧ (((σ.2.2.1 30)) ((ws2).toInt.toNat - 1)).toInt = (3 : Int32).toInt) := hw
                              rcases hw with ⟨hi1, hi2⟩ | ⟨hi1, hi2, hi3⟩
                              · clear hi2
                                refine lv_if_ne (tgt := 272) hx hb dX12_goesOn_245 (by decide) (fun c_137 => ?_) (fun c_137 => ?_)
                                · have kc_137 : r_136.toInt ≠ 0 := by have h9 := c_137; simp only [ge_iff_le, gt_iff_lt, x_lt, x_le, x_eq, ne_eq, Int32.not_lt, Int32.not_le] at h9; simp only [Int32.reduceToInt] at h9; omega
                                  exfalso
                                  omega
                                · have kc_137 : r_136.toInt = 0 := by have h9 := c_137; simp only [ge_iff_le, gt_iff_lt, x_lt, x_le, x_eq, ne_eq, Int32.not_lt, Int32.not_le] at h9; simp only [Int32.reduceToInt] at h9; omega
                                  refine lv_aload_n hx hb dX12_goesOn_248 rfl (lv_at hl 1 rfl) ?_
                                  refine lv_iconst (v := 4) hx hb dX12_goesOn_249 (by decide) ?_
                                  refine x_calliW (va_runV (As := [.int 4]) (rest := []) ⟨hx, hb, hml, hown, hts⟩ (q_isOn l D y H.size ad zw (sI (tI (sI (sI (sI σ 32 op) 2 n_12) 29 cd2) 27 fc2) 31 ws2) 4 (show 0 ≤ (ws2).toInt from by first | omega | decide) (show (ws2).toInt ≤ 800 from by first | omega | decide)) (cwV 1 hts g_q_goesOn_6 rfl rfl rfl (by decide +kernel) ⟨Nat.le_of_ble_eq_true rfl, Nat.le_of_ble_eq_true rfl⟩) (x_preV (q := (RX12, TX12, 85)) hK hP hD (ci := 11) (q0 := 0) rfl mwd_o0) rfl rfl hl.1 rfl (lv_room (Nat.le_of_ble_eq_true rfl)) dX12_goesOn_250 ⟨Nat.le_of_ble_eq_true rfl, Nat.le_of_ble_eq_true rfl⟩) hP hD hS hA (fun r_138 u H locs hw hP hD hS => ?_)
                                  try dsimp only at hw
                                  have hP : va_P D vwCl (mwd y ad zw (sI (tI (sI (sI (sI σ 32 op) 2 n_12) 29 cd2) 27 fc2) 31 ws2)) H := hP
                                  have hD : va_D A (mwd y ad zw (sI (tI (sI (sI (sI σ 32 op) 2 n_12) 29 cd2) 27 fc2) 31 ws2)) := hD
                                  replace hw : (r_138.toInt = 0 ∧ ((ws2).toInt ≤ 0 ∨ (((σ.2.2.1 30)) ((ws2).toInt.toNat - 1)).toInt ≠ (4 : Int32).toInt)) ∨ (r_138.toInt = 1 ∧ 1 ≤ (ws2).toInt ∧ (((σ.2.2.1 30)) ((ws2).toInt.toNat - 1)).toInt = (4 : Int32).toInt) := hw
                                  rcases hw with ⟨hi1, hi2⟩ | ⟨hi1, hi2, hi3⟩
                                  · clear hi2
                                    refine lv_if_ne (tgt := 272) hx hb dX12_goesOn_253 (by decide) (fun c_139 => ?_) (fun c_139 => ?_)
                                    · have kc_139 : r_138.toInt ≠ 0 := by have h9 := c_139; simp only [ge_iff_le, gt_iff_lt, x_lt, x_le, x_eq, ne_eq, Int32.not_lt, Int32.not_le] at h9; simp only [Int32.reduceToInt] at h9; omega
                                      exfalso
                                      omega
                                    · have kc_139 : r_138.toInt = 0 := by have h9 := c_139; simp only [ge_iff_le, gt_iff_lt, x_lt, x_le, x_eq, ne_eq, Int32.not_lt, Int32.not_le] at h9; simp only [Int32.reduceToInt] at h9; omega
                                      refine lv_aload_n hx hb dX12_goesOn_256 rfl (lv_at hl 1 rfl) ?_
                                      refine lv_iconst (v := 1) hx hb dX12_goesOn_257 (by decide) ?_
                                      refine x_calliW (va_runV (As := [.int 1]) (rest := []) ⟨hx, hb, hml, hown, hts⟩ (q_isOn l D y H.size ad zw (sI (tI (sI (sI (sI σ 32 op) 2 n_12) 29 cd2) 27 fc2) 31 ws2) 1 (show 0 ≤ (ws2).toInt from by first | omega | decide) (show (ws2).toInt ≤ 800 from by first | omega | decide)) (cwV 1 hts g_q_goesOn_6 rfl rfl rfl (by decide +kernel) ⟨Nat.le_of_ble_eq_true rfl, Nat.le_of_ble_eq_true rfl⟩) (x_preV (q := (RX12, TX12, 85)) hK hP hD (ci := 11) (q0 := 0) rfl mwd_o0) rfl rfl hl.1 rfl (lv_room (Nat.le_of_ble_eq_true rfl)) dX12_goesOn_258 ⟨Nat.le_of_ble_eq_true rfl, Nat.le_of_ble_eq_true rfl⟩) hP hD hS hA (fun r_140 u H locs hw hP hD hS => ?_)
                                      try dsimp only at hw
                                      have hP : va_P D vwCl (mwd y ad zw (sI (tI (sI (sI (sI σ 32 op) 2 n_12) 29 cd2) 27 fc2) 31 ws2)) H := hP
                                      have hD : va_D A (mwd y ad zw (sI (tI (sI (sI (sI σ 32 op) 2 n_12) 29 cd2) 27 fc2) 31 ws2)) := hD
                                      replace hw : (r_140.toInt = 0 ∧ ((ws2).toInt ≤ 0 ∨ (((σ.2.2.1 30)) ((ws2).toInt.toNat - 1)).toInt ≠ (1 : Int32).toInt)) ∨ (r_140.toInt = 1 ∧ 1 ≤ (ws2).toInt ∧ (((σ.2.2.1 30)) ((ws2).toInt.toNat - 1)).toInt = (1 : Int32).toInt) := hw
                                      rcases hw with ⟨hi1, hi2⟩ | ⟨hi1, hi2, hi3⟩
                                      · clear hi2
                                        refine lv_if_ne (tgt := 272) hx hb dX12_goesOn_261 (by decide) (fun c_141 => ?_) (fun c_141 => ?_)
                                        · have kc_141 : r_140.toInt ≠ 0 := by have h9 := c_141; simp only [ge_iff_le, gt_iff_lt, x_lt, x_le, x_eq, ne_eq, Int32.not_lt, Int32.not_le] at h9; simp only [Int32.reduceToInt] at h9; omega
                                          exfalso
                                          omega
                                        · have kc_141 : r_140.toInt = 0 := by have h9 := c_141; simp only [ge_iff_le, gt_iff_lt, x_lt, x_le, x_eq, ne_eq, Int32.not_lt, Int32.not_le] at h9; simp only [Int32.reduceToInt] at h9; omega
                                          refine lv_aload_n hx hb dX12_goesOn_264 rfl (lv_at hl 1 rfl) ?_
                                          refine lv_iconst (v := 2) hx hb dX12_goesOn_265 (by decide) ?_
                                          refine x_calliW (va_runV (As := [.int 2]) (rest := []) ⟨hx, hb, hml, hown, hts⟩ (q_isOn l D y H.size ad zw (sI (tI (sI (sI (sI σ 32 op) 2 n_12) 29 cd2) 27 fc2) 31 ws2) 2 (show 0 ≤ (ws2).toInt from by first | omega | decide) (show (ws2).toInt ≤ 800 from by first | omega | decide)) (cwV 1 hts g_q_goesOn_6 rfl rfl rfl (by decide +kernel) ⟨Nat.le_of_ble_eq_true rfl, Nat.le_of_ble_eq_true rfl⟩) (x_preV (q := (RX12, TX12, 85)) hK hP hD (ci := 11) (q0 := 0) rfl mwd_o0) rfl rfl hl.1 rfl (lv_room (Nat.le_of_ble_eq_true rfl)) dX12_goesOn_266 ⟨Nat.le_of_ble_eq_true rfl, Nat.le_of_ble_eq_true rfl⟩) hP hD hS hA (fun r_142 u H locs hw hP hD hS => ?_)
                                          try dsimp only at hw
                                          have hP : va_P D vwCl (mwd y ad zw (sI (tI (sI (sI (sI σ 32 op) 2 n_12) 29 cd2) 27 fc2) 31 ws2)) H := hP
                                          have hD : va_D A (mwd y ad zw (sI (tI (sI (sI (sI σ 32 op) 2 n_12) 29 cd2) 27 fc2) 31 ws2)) := hD
                                          replace hw : (r_142.toInt = 0 ∧ ((ws2).toInt ≤ 0 ∨ (((σ.2.2.1 30)) ((ws2).toInt.toNat - 1)).toInt ≠ (2 : Int32).toInt)) ∨ (r_142.toInt = 1 ∧ 1 ≤ (ws2).toInt ∧ (((σ.2.2.1 30)) ((ws2).toInt.toNat - 1)).toInt = (2 : Int32).toInt) := hw
                                          rcases hw with ⟨hi1, hi2⟩ | ⟨hi1, hi2, hi3⟩
                                          · clear hi2
                                            refine lv_if_eq (tgt := 279) hx hb dX12_goesOn_269 (by decide) (fun c_143 => ?_) (fun c_143 => ?_)
                                            · have kc_143 : r_142.toInt = 0 := by have h9 := c_143; simp only [ge_iff_le, gt_iff_lt, x_lt, x_le, x_eq, ne_eq, Int32.not_lt, Int32.not_le] at h9; simp only [Int32.reduceToInt] at h9; omega
                                              refine lv_aload_n hx hb dX12_goesOn_279 rfl (lv_at hl 1 rfl) ?_
                                              refine va_get (D := D) (ci := 11) (v := .ref (ad 30)) (C := RX12) (T := TX12) (N := 85) hx hb hts inX12 hown hK hP 0 mwd_o0 rfl 30 (by decide) fl75 (fun _ h9 => h9) rfl dX12_goesOn_280 ?_
                                              refine lv_aload_n hx hb dX12_goesOn_283 rfl (lv_at hl 1 rfl) ?_
                                              refine va_get (D := D) (ci := 11) (v := .int ws2) (C := RX12) (T := TX12) (N := 85) hx hb hts inX12 hown hK hP 0 mwd_o0 rfl 31 (by decide) fl263 (fun _ h9 => h9) rfl dX12_goesOn_284 ?_
                                              refine lv_iload_n hx hb dX12_goesOn_287 rfl (lv_at hl 0 rfl) ?_
                                              refine va_iast hx hb hK hP hD hS 21 2 mwd_a21 rfl (x_in (by omega) (by omega)) dX12_goesOn_288 (fun H locs hP hD hS => ?_)
                                              obtain ⟨f_144, ef_144⟩ : ∃ z9 : Nat → Int32, z9 = (upd (σ.2.2.1 30) (Int32.toNatClampNeg ws2) o1) := ⟨_, rfl⟩
                                              have hP : va_P D vwCl (mwd y ad zw (tI (sI (tI (sI (sI (sI σ 32 op) 2 n_12) 29 cd2) 27 fc2) 31 ws2) 30 f_144)) H := by rw [ef_144]; exact x_trP hP mwd_s21
                                              have hD : va_D A (mwd y ad zw (tI (sI (tI (sI (sI (sI σ 32 op) 2 n_12) 29 cd2) 27 fc2) 31 ws2) 30 f_144)) := by rw [ef_144]; exact x_trD hD mwd_s21
                                              rw [x_cl (n := ws2.toInt.toNat) (by omega)] at ef_144
                                              refine lv_aload_n hx hb dX12_goesOn_289 rfl (lv_at hl 1 rfl) ?_
                                              refine lv_dup hx hb dX12_goesOn_290 rfl ?_
                                              refine va_get (D := D) (ci := 11) (v := .int ws2) (C := RX12) (T := TX12) (N := 85) hx hb hts inX12 hown hK hP 0 mwd_o0 rfl 31 (by decide) fl263 (fun _ h9 => h9) rfl dX12_goesOn_291 ?_
                                              refine lv_iconst (v := 1) hx hb dX12_goesOn_294 (by decide) ?_
                                              refine lv_iadd hx hb dX12_goesOn_295 ?_
                                              refine lv_topi (fun i_145 ei_145 => ?_)
                                              have vi_145 : i_145.toInt = ws2.toInt + 1 := by have h9 := x_add ei_145 (by omega) (by omega); omega
                                              refine va_put (D := D) (ci := 11) (v := .int i_145) (ty := .int) (C := RX12) (T := TX12) (N := 85) hx hb hts inX12 tyX12 tyX12_ok nmX12 hown hK hP hD hS 0 mwd_o0 rfl 31 (by decide) fl263 (fun _ h9 => h9) rfl (by decide +kernel) rfl rfl (Nat.le_of_ble_eq_true rfl) dX12_goesOn_296 (fun H locs hP hD hS => ?_)
                                              have hP : va_P D vwCl (mwd y ad zw (sI (tI (sI (tI (sI (sI (sI σ 32 op) 2 n_12) 29 cd2) 27 fc2) 31 ws2) 30 f_144) 31 i_145)) H := x_trP hP mwd_p0_31
                                              have hD : va_D A (mwd y ad zw (sI (tI (sI (tI (sI (sI (sI σ 32 op) 2 n_12) 29 cd2) 27 fc2) 31 ws2) 30 f_144) 31 i_145)) := x_trD hD mwd_p0_31
                                              refine lv_iconst (v := 1) hx hb dX12_goesOn_299 (by decide) ?_
                                              have hP : va_P D vwCl (mwd y ad zw (sI (tI (sI (tI (sI (sI (sI (sI σ 2 n_12) 5 (σ.1 5)) 6 (σ.1 6)) 29 cd2) 27 fc2) 32 op) 30 f_144) 31 i_145)) H := hP
                                              have hD : va_D A (mwd y ad zw (sI (tI (sI (tI (sI (sI (sI (sI σ 2 n_12) 5 (σ.1 5)) 6 (σ.1 6)) 29 cd2) 27 fc2) 32 op) 30 f_144) 31 i_145)) := hD
                                              exact x_zretW (v := 1) (u := (n_12, (σ.1 5), (σ.1 6), cd2, fc2, op, f_144, i_145)) hx hb hr hQ rfl (by (try dsimp only); exact ⟨by omega, by omega, by omega, by omega, by omega, by omega, by omega, by omega, fun h9 => ⟨fun _ => ⟨by omega, by rw [ef_144, show i_145.toInt.toNat = ws2.toInt.toNat + 1 by omega]; exact ES_op hE2 ⟨by first | omega | decide, by first | omega | decide⟩⟩, fun h8 => absurd h8 (by omega)⟩⟩) hP hD hK hS dX12_goesOn_300 hlocks
                                            · have kc_143 : r_142.toInt ≠ 0 := by have h9 := c_143; simp only [ge_iff_le, gt_iff_lt, x_lt, x_le, x_eq, ne_eq, Int32.not_lt, Int32.not_le] at h9; simp only [Int32.reduceToInt] at h9; omega
                                              exfalso
                                              omega
                                          · have hbn := ES_on hE2 hlo (by omega) (by omega)
                                            refine lv_if_eq (tgt := 279) hx hb dX12_goesOn_269 (by decide) (fun c_146 => ?_) (fun c_146 => ?_)
                                            · have kc_146 : r_142.toInt = 0 := by have h9 := c_146; simp only [ge_iff_le, gt_iff_lt, x_lt, x_le, x_eq, ne_eq, Int32.not_lt, Int32.not_le] at h9; simp only [Int32.reduceToInt] at h9; omega
                                              exfalso
                                              omega
                                            · have kc_146 : r_142.toInt ≠ 0 := by have h9 := c_146; simp only [ge_iff_le, gt_iff_lt, x_lt, x_le, x_eq, ne_eq, Int32.not_lt, Int32.not_le] at h9; simp only [Int32.reduceToInt] at h9; omega
                                              refine lv_aload_n hx hb dX12_goesOn_272 rfl (lv_at hl 1 rfl) ?_
                                              refine x_callvW (va_runV (As := []) (rest := []) ⟨hx, hb, hml, hown, hts⟩ (q_drops l D y H.size ad zw (sI (tI (sI (sI (sI σ 32 op) 2 n_12) 29 cd2) 27 fc2) 31 ws2) (show 1 ≤ (ws2).toInt from by first | omega | decide) (show (ws2).toInt ≤ 800 from by first | omega | decide) (show 0 ≤ (cd2).toInt from by first | omega | decide) (show (cd2).toInt < 1200 from by first | omega | decide)) (cwV 0 hts g_q_goesOn_7 rfl rfl rfl (by decide +kernel) ⟨Nat.le_of_ble_eq_true rfl, Nat.le_of_ble_eq_true rfl⟩) (x_preV (q := (RX12, TX12, 85)) hK hP hD (ci := 11) (q0 := 0) rfl mwd_o0) rfl rfl hl.1 rfl (lv_room (Nat.le_of_ble_eq_true rfl)) dX12_goesOn_273 ⟨Nat.le_of_ble_eq_true rfl, Nat.le_of_ble_eq_true rfl⟩) hP hD hS hA (fun u H locs hw hP hD hS => ?_)
                                              obtain ⟨n_147, n_148, f_149⟩ := u
                                              try dsimp only at hw
                                              have hP : va_P D vwCl (mwd y ad zw (tI (sI (sI (sI (tI (sI (sI (sI σ 32 op) 2 n_12) 29 cd2) 27 fc2) 31 ws2) 31 n_147) 29 n_148) 27 f_149)) H := hP
                                              have hD : va_D A (mwd y ad zw (tI (sI (sI (sI (tI (sI (sI (sI σ 32 op) 2 n_12) 29 cd2) 27 fc2) 31 ws2) 31 n_147) 29 n_148) 27 f_149)) := hD
                                              replace hw : n_147.toInt = (ws2).toInt - 1 ∧ n_148.toInt = (cd2).toInt + 1 ∧ f_149 = upd (fc2) (cd2).toInt.toNat (((σ.2.2.1 30)) ((ws2).toInt.toNat - 1)) := hw
                                              refine lv_goto (tgt := 240) hx hb dX12_goesOn_276 (by decide) ?_
                                              have hP : va_P D vwCl (mwd y ad zw (sI (tI (sI (sI (sI σ 32 op) 2 n_12) 29 n_148) 27 f_149) 31 n_147)) H := hP
                                              have hD : va_D A (mwd y ad zw (sI (tI (sI (sI (sI σ 32 op) 2 n_12) 29 n_148) 27 f_149) 31 n_147)) := hD
                                              exact ih_loop3 o1 n_148 f_149 n_147 H locs ls (by omega) (by omega) (by omega) (by omega) (by omega) (by obtain ⟨h7, h6, h5⟩ := hw; rw [h5, show n_148.toInt.toNat = cd2.toInt.toNat + 1 by omega, show n_147.toInt.toNat = ws2.toInt.toNat - 1 by omega]; exact ES_drop hE2 hbn (by omega) (by omega)) (by omega) hP hD hS (lv_sub hl [0, 1] rfl)
                                      · have hbn := ES_on hE2 hlo (by omega) (by omega)
                                        refine lv_if_ne (tgt := 272) hx hb dX12_goesOn_261 (by decide) (fun c_150 => ?_) (fun c_150 => ?_)
                                        · have kc_150 : r_140.toInt ≠ 0 := by have h9 := c_150; simp only [ge_iff_le, gt_iff_lt, x_lt, x_le, x_eq, ne_eq, Int32.not_lt, Int32.not_le] at h9; simp only [Int32.reduceToInt] at h9; omega
                                          refine lv_aload_n hx hb dX12_goesOn_272 rfl (lv_at hl 1 rfl) ?_
                                          refine x_callvW (va_runV (As := []) (rest := []) ⟨hx, hb, hml, hown, hts⟩ (q_drops l D y H.size ad zw (sI (tI (sI (sI (sI σ 32 op) 2 n_12) 29 cd2) 27 fc2) 31 ws2) (show 1 ≤ (ws2).toInt from by first | omega | decide) (show (ws2).toInt ≤ 800 from by first | omega | decide) (show 0 ≤ (cd2).toInt from by first | omega | decide) (show (cd2).toInt < 1200 from by first | omega | decide)) (cwV 0 hts g_q_goesOn_7 rfl rfl rfl (by decide +kernel) ⟨Nat.le_of_ble_eq_true rfl, Nat.le_of_ble_eq_true rfl⟩) (x_preV (q := (RX12, TX12, 85)) hK hP hD (ci := 11) (q0 := 0) rfl mwd_o0) rfl rfl hl.1 rfl (lv_room (Nat.le_of_ble_eq_true rfl)) dX12_goesOn_273 ⟨Nat.le_of_ble_eq_true rfl, Nat.le_of_ble_eq_true rfl⟩) hP hD hS hA (fun u H locs hw hP hD hS => ?_)
                                          obtain ⟨n_151, n_152, f_153⟩ := u
                                          try dsimp only at hw
                                          have hP : va_P D vwCl (mwd y ad zw (tI (sI (sI (sI (tI (sI (sI (sI σ 32 op) 2 n_12) 29 cd2) 27 fc2) 31 ws2) 31 n_151) 29 n_152) 27 f_153)) H := hP
                                          have hD : va_D A (mwd y ad zw (tI (sI (sI (sI (tI (sI (sI (sI σ 32 op) 2 n_12) 29 cd2) 27 fc2) 31 ws2) 31 n_151) 29 n_152) 27 f_153)) := hD
                                          replace hw : n_151.toInt = (ws2).toInt - 1 ∧ n_152.toInt = (cd2).toInt + 1 ∧ f_153 = upd (fc2) (cd2).toInt.toNat (((σ.2.2.1 30)) ((ws2).toInt.toNat - 1)) := hw
                                          refine lv_goto (tgt := 240) hx hb dX12_goesOn_276 (by decide) ?_
                                          have hP : va_P D vwCl (mwd y ad zw (sI (tI (sI (sI (sI σ 32 op) 2 n_12) 29 n_152) 27 f_153) 31 n_151)) H := hP
                                          have hD : va_D A (mwd y ad zw (sI (tI (sI (sI (sI σ 32 op) 2 n_12) 29 n_152) 27 f_153) 31 n_151)) := hD
                                          exact ih_loop3 o1 n_152 f_153 n_151 H locs ls (by omega) (by omega) (by omega) (by omega) (by omega) (by obtain ⟨h7, h6, h5⟩ := hw; rw [h5, show n_152.toInt.toNat = cd2.toInt.toNat + 1 by omega, show n_151.toInt.toNat = ws2.toInt.toNat - 1 by omega]; exact ES_drop hE2 hbn (by omega) (by omega)) (by omega) hP hD hS (lv_sub hl [0, 1] rfl)
                                        · have kc_150 : r_140.toInt = 0 := by have h9 := c_150; simp only [ge_iff_le, gt_iff_lt, x_lt, x_le, x_eq, ne_eq, Int32.not_lt, Int32.not_le] at h9; simp only [Int32.reduceToInt] at h9; omega
                                          exfalso
                                          omega
                                  · have hbn := ES_on hE2 hlo (by omega) (by omega)
                                    refine lv_if_ne (tgt := 272) hx hb dX12_goesOn_253 (by decide) (fun c_154 => ?_) (fun c_154 => ?_)
                                    · have kc_154 : r_138.toInt ≠ 0 := by have h9 := c_154; simp only [ge_iff_le, gt_iff_lt, x_lt, x_le, x_eq, ne_eq, Int32.not_lt, Int32.not_le] at h9; simp only [Int32.reduceToInt] at h9; omega
                                      refine lv_aload_n hx hb dX12_goesOn_272 rfl (lv_at hl 1 rfl) ?_
                                      refine x_callvW (va_runV (As := []) (rest := []) ⟨hx, hb, hml, hown, hts⟩ (q_drops l D y H.size ad zw (sI (tI (sI (sI (sI σ 32 op) 2 n_12) 29 cd2) 27 fc2) 31 ws2) (show 1 ≤ (ws2).toInt from by first | omega | decide) (show (ws2).toInt ≤ 800 from by first | omega | decide) (show 0 ≤ (cd2).toInt from by first | omega | decide) (show (cd2).toInt < 1200 from by first | omega | decide)) (cwV 0 hts g_q_goesOn_7 rfl rfl rfl (by decide +kernel) ⟨Nat.le_of_ble_eq_true rfl, Nat.le_of_ble_eq_true rfl⟩) (x_preV (q := (RX12, TX12, 85)) hK hP hD (ci := 11) (q0 := 0) rfl mwd_o0) rfl rfl hl.1 rfl (lv_room (Nat.le_of_ble_eq_true rfl)) dX12_goesOn_273 ⟨Nat.le_of_ble_eq_true rfl, Nat.le_of_ble_eq_true rfl⟩) hP hD hS hA (fun u H locs hw hP hD hS => ?_)
                                      obtain ⟨n_155, n_156, f_157⟩ := u
                                      try dsimp only at hw
                                      have hP : va_P D vwCl (mwd y ad zw (tI (sI (sI (sI (tI (sI (sI (sI σ 32 op) 2 n_12) 29 cd2) 27 fc2) 31 ws2) 31 n_155) 29 n_156) 27 f_157)) H := hP
                                      have hD : va_D A (mwd y ad zw (tI (sI (sI (sI (tI (sI (sI (sI σ 32 op) 2 n_12) 29 cd2) 27 fc2) 31 ws2) 31 n_155) 29 n_156) 27 f_157)) := hD
                                      replace hw : n_155.toInt = (ws2).toInt - 1 ∧ n_156.toInt = (cd2).toInt + 1 ∧ f_157 = upd (fc2) (cd2).toInt.toNat (((σ.2.2.1 30)) ((ws2).toInt.toNat - 1)) := hw
                                      refine lv_goto (tgt := 240) hx hb dX12_goesOn_276 (by decide) ?_
                                      have hP : va_P D vwCl (mwd y ad zw (sI (tI (sI (sI (sI σ 32 op) 2 n_12) 29 n_156) 27 f_157) 31 n_155)) H := hP
                                      have hD : va_D A (mwd y ad zw (sI (tI (sI (sI (sI σ 32 op) 2 n_12) 29 n_156) 27 f_157) 31 n_155)) := hD
                                      exact ih_loop3 o1 n_156 f_157 n_155 H locs ls (by omega) (by omega) (by omega) (by omega) (by omega) (by obtain ⟨h7, h6, h5⟩ := hw; rw [h5, show n_156.toInt.toNat = cd2.toInt.toNat + 1 by omega, show n_155.toInt.toNat = ws2.toInt.toNat - 1 by omega]; exact ES_drop hE2 hbn (by omega) (by omega)) (by omega) hP hD hS (lv_sub hl [0, 1] rfl)
                                    · have kc_154 : r_138.toInt = 0 := by have h9 := c_154; simp only [ge_iff_le, gt_iff_lt, x_lt, x_le, x_eq, ne_eq, Int32.not_lt, Int32.not_le] at h9; simp only [Int32.reduceToInt] at h9; omega
                                      exfalso
                                      omega
                              · have hbn := ES_on hE2 hlo (by omega) (by omega)
                                refine lv_if_ne (tgt := 272) hx hb dX12_goesOn_245 (by decide) (fun c_158 => ?_) (fun c_158 => ?_)
                                · have kc_158 : r_136.toInt ≠ 0 := by have h9 := c_158; simp only [ge_iff_le, gt_iff_lt, x_lt, x_le, x_eq, ne_eq, Int32.not_lt, Int32.not_le] at h9; simp only [Int32.reduceToInt] at h9; omega
                                  refine lv_aload_n hx hb dX12_goesOn_272 rfl (lv_at hl 1 rfl) ?_
                                  refine x_callvW (va_runV (As := []) (rest := []) ⟨hx, hb, hml, hown, hts⟩ (q_drops l D y H.size ad zw (sI (tI (sI (sI (sI σ 32 op) 2 n_12) 29 cd2) 27 fc2) 31 ws2) (show 1 ≤ (ws2).toInt from by first | omega | decide) (show (ws2).toInt ≤ 800 from by first | omega | decide) (show 0 ≤ (cd2).toInt from by first | omega | decide) (show (cd2).toInt < 1200 from by first | omega | decide)) (cwV 0 hts g_q_goesOn_7 rfl rfl rfl (by decide +kernel) ⟨Nat.le_of_ble_eq_true rfl, Nat.le_of_ble_eq_true rfl⟩) (x_preV (q := (RX12, TX12, 85)) hK hP hD (ci := 11) (q0 := 0) rfl mwd_o0) rfl rfl hl.1 rfl (lv_room (Nat.le_of_ble_eq_true rfl)) dX12_goesOn_273 ⟨Nat.le_of_ble_eq_true rfl, Nat.le_of_ble_eq_true rfl⟩) hP hD hS hA (fun u H locs hw hP hD hS => ?_)
                                  obtain ⟨n_159, n_160, f_161⟩ := u
                                  try dsimp only at hw
                                  have hP : va_P D vwCl (mwd y ad zw (tI (sI (sI (sI (tI (sI (sI (sI σ 32 op) 2 n_12) 29 cd2) 27 fc2) 31 ws2) 31 n_159) 29 n_160) 27 f_161)) H := hP
                                  have hD : va_D A (mwd y ad zw (tI (sI (sI (sI (tI (sI (sI (sI σ 32 op) 2 n_12) 29 cd2) 27 fc2) 31 ws2) 31 n_159) 29 n_160) 27 f_161)) := hD
                                  replace hw : n_159.toInt = (ws2).toInt - 1 ∧ n_160.toInt = (cd2).toInt + 1 ∧ f_161 = upd (fc2) (cd2).toInt.toNat (((σ.2.2.1 30)) ((ws2).toInt.toNat - 1)) := hw
                                  refine lv_goto (tgt := 240) hx hb dX12_goesOn_276 (by decide) ?_
                                  have hP : va_P D vwCl (mwd y ad zw (sI (tI (sI (sI (sI σ 32 op) 2 n_12) 29 n_160) 27 f_161) 31 n_159)) H := hP
                                  have hD : va_D A (mwd y ad zw (sI (tI (sI (sI (sI σ 32 op) 2 n_12) 29 n_160) 27 f_161) 31 n_159)) := hD
                                  exact ih_loop3 o1 n_160 f_161 n_159 H locs ls (by omega) (by omega) (by omega) (by omega) (by omega) (by obtain ⟨h7, h6, h5⟩ := hw; rw [h5, show n_160.toInt.toNat = cd2.toInt.toNat + 1 by omega, show n_159.toInt.toNat = ws2.toInt.toNat - 1 by omega]; exact ES_drop hE2 hbn (by omega) (by omega)) (by omega) hP hD hS (lv_sub hl [0, 1] rfl)
                                · have kc_158 : r_136.toInt = 0 := by have h9 := c_158; simp only [ge_iff_le, gt_iff_lt, x_lt, x_le, x_eq, ne_eq, Int32.not_lt, Int32.not_le] at h9; simp only [Int32.reduceToInt] at h9; omega
                                  exfalso
                                  omega
                          exact loop3 801 1 cd fc ws H locs ls (by decide) (by decide) (by omega) (by omega) (by omega) hE (by omega) hP hD hS (lv_sub hl [0, 1] rfl)
                      · have kc_106 : r_11.toInt = 0 := by have h9 := c_106; simp only [ge_iff_le, gt_iff_lt, x_lt, x_le, x_eq, ne_eq, Int32.not_lt, Int32.not_le] at h9; simp only [Int32.reduceToInt] at h9; omega
                        exfalso
                        omega
                  · have kc_10 : r_8.toInt ≠ 0 := by have h9 := c_10; simp only [ge_iff_le, gt_iff_lt, x_lt, x_le, x_eq, ne_eq, Int32.not_lt, Int32.not_le] at h9; simp only [Int32.reduceToInt] at h9; omega
                    exfalso
                    omega
                · skip
                  refine lv_if_eq (tgt := 200) hx hb dX12_goesOn_130 (by decide) (fun c_162 => ?_) (fun c_162 => ?_)
                  · have kc_162 : r_8.toInt = 0 := by have h9 := c_162; simp only [ge_iff_le, gt_iff_lt, x_lt, x_le, x_eq, ne_eq, Int32.not_lt, Int32.not_le] at h9; simp only [Int32.reduceToInt] at h9; omega
                    exfalso
                    omega
                  · have kc_162 : r_8.toInt ≠ 0 := by have h9 := c_162; simp only [ge_iff_le, gt_iff_lt, x_lt, x_le, x_eq, ne_eq, Int32.not_lt, Int32.not_le] at h9; simp only [Int32.reduceToInt] at h9; omega
                    refine lv_aload_n hx hb dX12_goesOn_133 rfl (lv_at hl 0 rfl) ?_
                    refine va_get (D := D) (ci := 11) (v := .ref (ad 0)) (C := RX12) (T := TX12) (N := 85) hx hb hts inX12 hown hK hP 0 mwd_o0 rfl 0 (by decide) fl7 (fun _ h9 => h9) rfl dX12_goesOn_134 ?_
                    refine lv_aload_n hx hb dX12_goesOn_137 rfl (lv_at hl 0 rfl) ?_
                    refine va_get (D := D) (ci := 11) (v := .int n_9) (C := RX12) (T := TX12) (N := 85) hx hb hts inX12 hown hK hP 0 mwd_o0 rfl 2 (by decide) fl197 (fun _ h9 => h9) rfl dX12_goesOn_138 ?_
                    refine lv_iconst (v := 1) hx hb dX12_goesOn_141 (by decide) ?_
                    refine lv_isub hx hb dX12_goesOn_142 ?_
                    refine lv_topi (fun i_163 ei_163 => ?_)
                    have vi_163 : i_163.toInt = n_9.toInt - 1 := by have h9 := x_sub ei_163 (by omega) (by omega); omega
                    refine va_iald hx hb hK hP 1 2 mwd_a1 rfl (x_in (by omega) (by omega)) dX12_goesOn_143 ?_
                    refine lv_topi (fun i_164 ei_164 => ?_)
                    have ei_164 : i_164 = (σ.2.2.1 0) (Int32.toNatClampNeg i_163) := ei_164
                    refine lv_bipush (v := 42) hx hb dX12_goesOn_144 (by decide) ?_
                    refine lv_icmp_ne (tgt := 153) hx hb dX12_goesOn_146 (by decide) (fun c_165 => ?_) (fun c_165 => ?_)
                    · have kc_165 : i_164.toInt ≠ 42 := by have h9 := c_165; simp only [ge_iff_le, gt_iff_lt, x_lt, x_le, x_eq, ne_eq, Int32.not_lt, Int32.not_le] at h9; simp only [Int32.reduceToInt] at h9; omega
                      refine lv_iconst (v := 4) hx hb dX12_goesOn_153 (by decide) ?_
                      refine lv_istore_n (lv' := [(1, .int 4), (0, .ref (ad 1))]) hx hb dX12_goesOn_154 rfl hl (by decide) rfl (fun ls hl => ?_)
                      have hP : va_P D vwCl (mwd y ad zw (sI (tI (sI (sI (sI σ 32 op) 2 n_9) 29 cd) 27 fc) 31 ws)) H := hP
                      have hD : va_D A (mwd y ad zw (sI (tI (sI (sI (sI σ 32 op) 2 n_9) 29 cd) 27 fc) 31 ws)) := hD
                      have loop2 : ∀ (fu : Nat) (o1 : Int32) (cd2 : Int32) (fc2 : Nat → Int32) (ws2 : Int32) (H : Heap) (locs : List Loc) (ls : Array Slot), (1 ≤ o1.toInt) → (o1.toInt ≤ 4) → ((b : Int) ≤ ws2.toInt) → ((σ.1 29).toInt ≤ cd2.toInt) → (cd2.toInt + ws2.toInt = cd.toInt + ws.toInt) → (ES f0 fc2 w0 (σ.2.2.1 30) c0 cd2.toInt.toNat b ws2.toInt.toNat 1 X op.toInt o0) → (ws2.toInt < (fu : Int)) → va_P D vwCl (mwd y ad zw (sI (tI (sI (sI (sI σ 32 op) 2 n_9) 29 cd2) 27 fc2) 31 ws2)) H → va_D A (mwd y ad zw (sI (tI (sI (sI (sI σ 32 op) 2 n_9) 29 cd2) 27 fc2) 31 ws2)) → va_S A s.heap H locs → lv_has ls 2 [(1, .int o1), (0, .ref (ad 1))] → W p l e ({ frames := 3, cells := 0, slots := 0, locals := 64 } : Room) s m ([.ref (ad 1)] : List Value).toArray below meth c H locs 0 0 Q (F0 m 155 ls []) := by
                        intro fu
                        induction fu with
                        | zero =>
                          intro o1 cd2 fc2 ws2 H locs ls hV1 hV2 hW2 hC2 hp2 hE2 hm
                          exact absurd hm (by omega)
                        | succ fu ih_loop2 =>
                          intro o1 cd2 fc2 ws2 H locs ls hV1 hV2 hW2 hC2 hp2 hE2 hm hP hD hS hl
                          refine lv_aload_n hx hb dX12_goesOn_155 rfl (lv_at hl 1 rfl) ?_
                          refine lv_iconst (v := 3) hx hb dX12_goesOn_156 (by decide) ?_
                          refine x_calliW (va_runV (As := [.int 3]) (rest := []) ⟨hx, hb, hml, hown, hts⟩ (q_isOn l D y H.size ad zw (sI (tI (sI (sI (sI σ 32 op) 2 n_9) 29 cd2) 27 fc2) 31 ws2) 3 (show 0 ≤ (ws2).toInt from by first | omega | decide) (show (ws2).toInt ≤ 800 from by first | omega | decide)) (cwV 1 hts g_q_goesOn_6 rfl rfl rfl (by decide +kernel) ⟨Nat.le_of_ble_eq_true rfl, Nat.le_of_ble_eq_true rfl⟩) (x_preV (q := (RX12, TX12, 85)) hK hP hD (ci := 11) (q0 := 0) rfl mwd_o0) rfl rfl hl.1 rfl (lv_room (Nat.le_of_ble_eq_true rfl)) dX12_goesOn_157 ⟨Nat.le_of_ble_eq_true rfl, Nat.le_of_ble_eq_true rfl⟩) hP hD hS hA (fun r_166 u H locs hw hP hD hS => ?_)
                          try dsimp only at hw
                          have hP : va_P D vwCl (mwd y ad zw (sI (tI (sI (sI (sI σ 32 op) 2 n_9) 29 cd2) 27 fc2) 31 ws2)) H := hP
                          have hD : va_D A (mwd y ad zw (sI (tI (sI (sI (sI σ 32 op) 2 n_9) 29 cd2) 27 fc2) 31 ws2)) := hD
                          replace hw : (r_166.toInt = 0 ∧ ((ws2).toInt ≤ 0 ∨ (((σ.2.2.1 30)) ((ws2).toInt.toNat - 1)).toInt ≠ (3 : Int32).toInt)) ∨ (r_166.toInt = 1 ∧ 1 ≤ (ws2).toInt ∧ (((σ.2.2.1 30)) ((ws2).toInt.toNat - 1)).toInt = (3 : Int32).toInt) := hw
                          rcases hw with ⟨hi1, hi2⟩ | ⟨hi1, hi2, hi3⟩
                          · clear hi2
                            refine lv_if_ne (tgt := 171) hx hb dX12_goesOn_160 (by decide) (fun c_167 => ?_) (fun c_167 => ?_)
                            · have kc_167 : r_166.toInt ≠ 0 := by have h9 := c_167; simp only [ge_iff_le, gt_iff_lt, x_lt, x_le, x_eq, ne_eq, Int32.not_lt, Int32.not_le] at h9; simp only [Int32.reduceToInt] at h9; omega
                              exfalso
                              omega
                            · have kc_167 : r_166.toInt = 0 := by have h9 := c_167; simp only [ge_iff_le, gt_iff_lt, x_lt, x_le, x_eq, ne_eq, Int32.not_lt, Int32.not_le] at h9; simp only [Int32.reduceToInt] at h9; omega
                              refine lv_aload_n hx hb dX12_goesOn_163 rfl (lv_at hl 1 rfl) ?_
                              refine lv_iconst (v := 4) hx hb dX12_goesOn_164 (by decide) ?_
                              refine x_calliW (va_runV (As := [.int 4]) (rest := []) ⟨hx, hb, hml, hown, hts⟩ (q_isOn l D y H.size ad zw (sI (tI (sI (sI (sI σ 32 op) 2 n_9) 29 cd2) 27 fc2) 31 ws2) 4 (show 0 ≤ (ws2).toInt from by first | omega | decide) (show (ws2).toInt ≤ 800 from by first | omega | decide)) (cwV 1 hts g_q_goesOn_6 rfl rfl rfl (by decide +kernel) ⟨Nat.le_of_ble_eq_true rfl, Nat.le_of_ble_eq_true rfl⟩) (x_preV (q := (RX12, TX12, 85)) hK hP hD (ci := 11) (q0 := 0) rfl mwd_o0) rfl rfl hl.1 rfl (lv_room (Nat.le_of_ble_eq_true rfl)) dX12_goesOn_165 ⟨Nat.le_of_ble_eq_true rfl, Nat.le_of_ble_eq_true rfl⟩) hP hD hS hA (fun r_168 u H locs hw hP hD hS => ?_)
                              try dsimp only at hw
                              have hP : va_P D vwCl (mwd y ad zw (sI (tI (sI (sI (sI σ 32 op) 2 n_9) 29 cd2) 27 fc2) 31 ws2)) H := hP
                              have hD : va_D A (mwd y ad zw (sI (tI (sI (sI (sI σ 32 op) 2 n_9) 29 cd2) 27 fc2) 31 ws2)) := hD
                              replace hw : (r_168.toInt = 0 ∧ ((ws2).toInt ≤ 0 ∨ (((σ.2.2.1 30)) ((ws2).toInt.toNat - 1)).toInt ≠ (4 : Int32).toInt)) ∨ (r_168.toInt = 1 ∧ 1 ≤ (ws2).toInt ∧ (((σ.2.2.1 30)) ((ws2).toInt.toNat - 1)).toInt = (4 : Int32).toInt) := hw
                              rcases hw with ⟨hi1, hi2⟩ | ⟨hi1, hi2, hi3⟩
                              · clear hi2
                                refine lv_if_eq (tgt := 178) hx hb dX12_goesOn_168 (by decide) (fun c_169 => ?_) (fun c_169 => ?_)
                                · have kc_169 : r_168.toInt = 0 := by have h9 := c_169; simp only [ge_iff_le, gt_iff_lt, x_lt, x_le, x_eq, ne_eq, Int32.not_lt, Int32.not_le] at h9; simp only [Int32.reduceToInt] at h9; omega
                                  refine lv_aload_n hx hb dX12_goesOn_178 rfl (lv_at hl 1 rfl) ?_
                                  refine va_get (D := D) (ci := 11) (v := .ref (ad 30)) (C := RX12) (T := TX12) (N := 85) hx hb hts inX12 hown hK hP 0 mwd_o0 rfl 30 (by decide) fl75 (fun _ h9 => h9) rfl dX12_goesOn_179 ?_
                                  refine lv_aload_n hx hb dX12_goesOn_182 rfl (lv_at hl 1 rfl) ?_
                                  refine va_get (D := D) (ci := 11) (v := .int ws2) (C := RX12) (T := TX12) (N := 85) hx hb hts inX12 hown hK hP 0 mwd_o0 rfl 31 (by decide) fl263 (fun _ h9 => h9) rfl dX12_goesOn_183 ?_
                                  refine lv_iload_n hx hb dX12_goesOn_186 rfl (lv_at hl 0 rfl) ?_
                                  refine va_iast hx hb hK hP hD hS 21 2 mwd_a21 rfl (x_in (by omega) (by omega)) dX12_goesOn_187 (fun H locs hP hD hS => ?_)
                                  obtain ⟨f_170, ef_170⟩ : ∃ z9 : Nat → Int32, z9 = (upd (σ.2.2.1 30) (Int32.toNatClampNeg ws2) o1) := ⟨_, rfl⟩
                                  have hP : va_P D vwCl (mwd y ad zw (tI (sI (tI (sI (sI (sI σ 32 op) 2 n_9) 29 cd2) 27 fc2) 31 ws2) 30 f_170)) H := by rw [ef_170]; exact x_trP hP mwd_s21
                                  have hD : va_D A (mwd y ad zw (tI (sI (tI (sI (sI (sI σ 32 op) 2 n_9) 29 cd2) 27 fc2) 31 ws2) 30 f_170)) := by rw [ef_170]; exact x_trD hD mwd_s21
                                  rw [x_cl (n := ws2.toInt.toNat) (by omega)] at ef_170
                                  refine lv_aload_n hx hb dX12_goesOn_188 rfl (lv_at hl 1 rfl) ?_
                                  refine lv_dup hx hb dX12_goesOn_189 rfl ?_
                                  refine va_get (D := D) (ci := 11) (v := .int ws2) (C := RX12) (T := TX12) (N := 85) hx hb hts inX12 hown hK hP 0 mwd_o0 rfl 31 (by decide) fl263 (fun _ h9 => h9) rfl dX12_goesOn_190 ?_
                                  refine lv_iconst (v := 1) hx hb dX12_goesOn_193 (by decide) ?_
                                  refine lv_iadd hx hb dX12_goesOn_194 ?_
                                  refine lv_topi (fun i_171 ei_171 => ?_)
                                  have vi_171 : i_171.toInt = ws2.toInt + 1 := by have h9 := x_add ei_171 (by omega) (by omega); omega
                                  refine va_put (D := D) (ci := 11) (v := .int i_171) (ty := .int) (C := RX12) (T := TX12) (N := 85) hx hb hts inX12 tyX12 tyX12_ok nmX12 hown hK hP hD hS 0 mwd_o0 rfl 31 (by decide) fl263 (fun _ h9 => h9) rfl (by decide +kernel) rfl rfl (Nat.le_of_ble_eq_true rfl) dX12_goesOn_195 (fun H locs hP hD hS => ?_)
                                  have hP : va_P D vwCl (mwd y ad zw (sI (tI (sI (tI (sI (sI (sI σ 32 op) 2 n_9) 29 cd2) 27 fc2) 31 ws2) 30 f_170) 31 i_171)) H := x_trP hP mwd_p0_31
                                  have hD : va_D A (mwd y ad zw (sI (tI (sI (tI (sI (sI (sI σ 32 op) 2 n_9) 29 cd2) 27 fc2) 31 ws2) 30 f_170) 31 i_171)) := x_trD hD mwd_p0_31
                                  refine lv_iconst (v := 1) hx hb dX12_goesOn_198 (by decide) ?_
                                  have hP : va_P D vwCl (mwd y ad zw (sI (tI (sI (tI (sI (sI (sI (sI σ 2 n_9) 5 (σ.1 5)) 6 (σ.1 6)) 29 cd2) 27 fc2) 32 op) 30 f_170) 31 i_171)) H := hP
                                  have hD : va_D A (mwd y ad zw (sI (tI (sI (tI (sI (sI (sI (sI σ 2 n_9) 5 (σ.1 5)) 6 (σ.1 6)) 29 cd2) 27 fc2) 32 op) 30 f_170) 31 i_171)) := hD
                                  exact x_zretW (v := 1) (u := (n_9, (σ.1 5), (σ.1 6), cd2, fc2, op, f_170, i_171)) hx hb hr hQ rfl (by (try dsimp only); exact ⟨by omega, by omega, by omega, by omega, by omega, by omega, by omega, by omega, fun h9 => ⟨fun _ => ⟨by omega, by rw [ef_170, show i_171.toInt.toNat = ws2.toInt.toNat + 1 by omega]; exact ES_op hE2 ⟨by first | omega | decide, by first | omega | decide⟩⟩, fun h8 => absurd h8 (by omega)⟩⟩) hP hD hK hS dX12_goesOn_199 hlocks
                                · have kc_169 : r_168.toInt ≠ 0 := by have h9 := c_169; simp only [ge_iff_le, gt_iff_lt, x_lt, x_le, x_eq, ne_eq, Int32.not_lt, Int32.not_le] at h9; simp only [Int32.reduceToInt] at h9; omega
                                  exfalso
                                  omega
                              · have hbn := ES_on hE2 hlo (by omega) (by omega)
                                refine lv_if_eq (tgt := 178) hx hb dX12_goesOn_168 (by decide) (fun c_172 => ?_) (fun c_172 => ?_)
                                · have kc_172 : r_168.toInt = 0 := by have h9 := c_172; simp only [ge_iff_le, gt_iff_lt, x_lt, x_le, x_eq, ne_eq, Int32.not_lt, Int32.not_le] at h9; simp only [Int32.reduceToInt] at h9; omega
                                  exfalso
                                  omega
                                · have kc_172 : r_168.toInt ≠ 0 := by have h9 := c_172; simp only [ge_iff_le, gt_iff_lt, x_lt, x_le, x_eq, ne_eq, Int32.not_lt, Int32.not_le] at h9; simp only [Int32.reduceToInt] at h9; omega
                                  refine lv_aload_n hx hb dX12_goesOn_171 rfl (lv_at hl 1 rfl) ?_
                                  refine x_callvW (va_runV (As := []) (rest := []) ⟨hx, hb, hml, hown, hts⟩ (q_drops l D y H.size ad zw (sI (tI (sI (sI (sI σ 32 op) 2 n_9) 29 cd2) 27 fc2) 31 ws2) (show 1 ≤ (ws2).toInt from by first | omega | decide) (show (ws2).toInt ≤ 800 from by first | omega | decide) (show 0 ≤ (cd2).toInt from by first | omega | decide) (show (cd2).toInt < 1200 from by first | omega | decide)) (cwV 0 hts g_q_goesOn_7 rfl rfl rfl (by decide +kernel) ⟨Nat.le_of_ble_eq_true rfl, Nat.le_of_ble_eq_true rfl⟩) (x_preV (q := (RX12, TX12, 85)) hK hP hD (ci := 11) (q0 := 0) rfl mwd_o0) rfl rfl hl.1 rfl (lv_room (Nat.le_of_ble_eq_true rfl)) dX12_goesOn_172 ⟨Nat.le_of_ble_eq_true rfl, Nat.le_of_ble_eq_true rfl⟩) hP hD hS hA (fun u H locs hw hP hD hS => ?_)
                                  obtain ⟨n_173, n_174, f_175⟩ := u
                                  try dsimp only at hw
                                  have hP : va_P D vwCl (mwd y ad zw (tI (sI (sI (sI (tI (sI (sI (sI σ 32 op) 2 n_9) 29 cd2) 27 fc2) 31 ws2) 31 n_173) 29 n_174) 27 f_175)) H := hP
                                  have hD : va_D A (mwd y ad zw (tI (sI (sI (sI (tI (sI (sI (sI σ 32 op) 2 n_9) 29 cd2) 27 fc2) 31 ws2) 31 n_173) 29 n_174) 27 f_175)) := hD
                                  replace hw : n_173.toInt = (ws2).toInt - 1 ∧ n_174.toInt = (cd2).toInt + 1 ∧ f_175 = upd (fc2) (cd2).toInt.toNat (((σ.2.2.1 30)) ((ws2).toInt.toNat - 1)) := hw
                                  refine lv_goto (tgt := 155) hx hb dX12_goesOn_175 (by decide) ?_
                                  have hP : va_P D vwCl (mwd y ad zw (sI (tI (sI (sI (sI σ 32 op) 2 n_9) 29 n_174) 27 f_175) 31 n_173)) H := hP
                                  have hD : va_D A (mwd y ad zw (sI (tI (sI (sI (sI σ 32 op) 2 n_9) 29 n_174) 27 f_175) 31 n_173)) := hD
                                  exact ih_loop2 o1 n_174 f_175 n_173 H locs ls (by omega) (by omega) (by omega) (by omega) (by omega) (by obtain ⟨h7, h6, h5⟩ := hw; rw [h5, show n_174.toInt.toNat = cd2.toInt.toNat + 1 by omega, show n_173.toInt.toNat = ws2.toInt.toNat - 1 by omega]; exact ES_drop hE2 hbn (by omega) (by omega)) (by omega) hP hD hS (lv_sub hl [0, 1] rfl)
                          · have hbn := ES_on hE2 hlo (by omega) (by omega)
                            refine lv_if_ne (tgt := 171) hx hb dX12_goesOn_160 (by decide) (fun c_176 => ?_) (fun c_176 => ?_)
                            · have kc_176 : r_166.toInt ≠ 0 := by have h9 := c_176; simp only [ge_iff_le, gt_iff_lt, x_lt, x_le, x_eq, ne_eq, Int32.not_lt, Int32.not_le] at h9; simp only [Int32.reduceToInt] at h9; omega
                              refine lv_aload_n hx hb dX12_goesOn_171 rfl (lv_at hl 1 rfl) ?_
                              refine x_callvW (va_runV (As := []) (rest := []) ⟨hx, hb, hml, hown, hts⟩ (q_drops l D y H.size ad zw (sI (tI (sI (sI (sI σ 32 op) 2 n_9) 29 cd2) 27 fc2) 31 ws2) (show 1 ≤ (ws2).toInt from by first | omega | decide) (show (ws2).toInt ≤ 800 from by first | omega | decide) (show 0 ≤ (cd2).toInt from by first | omega | decide) (show (cd2).toInt < 1200 from by first | omega | decide)) (cwV 0 hts g_q_goesOn_7 rfl rfl rfl (by decide +kernel) ⟨Nat.le_of_ble_eq_true rfl, Nat.le_of_ble_eq_true rfl⟩) (x_preV (q := (RX12, TX12, 85)) hK hP hD (ci := 11) (q0 := 0) rfl mwd_o0) rfl rfl hl.1 rfl (lv_room (Nat.le_of_ble_eq_true rfl)) dX12_goesOn_172 ⟨Nat.le_of_ble_eq_true rfl, Nat.le_of_ble_eq_true rfl⟩) hP hD hS hA (fun u H locs hw hP hD hS => ?_)
                              obtain ⟨n_177, n_178, f_179⟩ := u
                              try dsimp only at hw
                              have hP : va_P D vwCl (mwd y ad zw (tI (sI (sI (sI (tI (sI (sI (sI σ 32 op) 2 n_9) 29 cd2) 27 fc2) 31 ws2) 31 n_177) 29 n_178) 27 f_179)) H := hP
                              have hD : va_D A (mwd y ad zw (tI (sI (sI (sI (tI (sI (sI (sI σ 32 op) 2 n_9) 29 cd2) 27 fc2) 31 ws2) 31 n_177) 29 n_178) 27 f_179)) := hD
                              replace hw : n_177.toInt = (ws2).toInt - 1 ∧ n_178.toInt = (cd2).toInt + 1 ∧ f_179 = upd (fc2) (cd2).toInt.toNat (((σ.2.2.1 30)) ((ws2).toInt.toNat - 1)) := hw
                              refine lv_goto (tgt := 155) hx hb dX12_goesOn_175 (by decide) ?_
                              have hP : va_P D vwCl (mwd y ad zw (sI (tI (sI (sI (sI σ 32 op) 2 n_9) 29 n_178) 27 f_179) 31 n_177)) H := hP
                              have hD : va_D A (mwd y ad zw (sI (tI (sI (sI (sI σ 32 op) 2 n_9) 29 n_178) 27 f_179) 31 n_177)) := hD
                              exact ih_loop2 o1 n_178 f_179 n_177 H locs ls (by omega) (by omega) (by omega) (by omega) (by omega) (by obtain ⟨h7, h6, h5⟩ := hw; rw [h5, show n_178.toInt.toNat = cd2.toInt.toNat + 1 by omega, show n_177.toInt.toNat = ws2.toInt.toNat - 1 by omega]; exact ES_drop hE2 hbn (by omega) (by omega)) (by omega) hP hD hS (lv_sub hl [0, 1] rfl)
                            · have kc_176 : r_166.toInt = 0 := by have h9 := c_176; simp only [ge_iff_le, gt_iff_lt, x_lt, x_le, x_eq, ne_eq, Int32.not_lt, Int32.not_le] at h9; simp only [Int32.reduceToInt] at h9; omega
                              exfalso
                              omega
                      exact loop2 801 4 cd fc ws H locs ls (by decide) (by decide) (by omega) (by omega) (by omega) hE (by omega) hP hD hS (lv_sub hl [0, 1] rfl)
                    · have kc_165 : i_164.toInt = 42 := by have h9 := c_165; simp only [ge_iff_le, gt_iff_lt, x_lt, x_le, x_eq, ne_eq, Int32.not_lt, Int32.not_le] at h9; simp only [Int32.reduceToInt] at h9; omega
                      refine lv_iconst (v := 3) hx hb dX12_goesOn_149 (by decide) ?_
                      refine lv_goto (tgt := 154) hx hb dX12_goesOn_150 (by decide) ?_
                      refine lv_istore_n (lv' := [(1, .int 3), (0, .ref (ad 1))]) hx hb dX12_goesOn_154 rfl hl (by decide) rfl (fun ls hl => ?_)
                      have hP : va_P D vwCl (mwd y ad zw (sI (tI (sI (sI (sI σ 32 op) 2 n_9) 29 cd) 27 fc) 31 ws)) H := hP
                      have hD : va_D A (mwd y ad zw (sI (tI (sI (sI (sI σ 32 op) 2 n_9) 29 cd) 27 fc) 31 ws)) := hD
                      have loop2 : ∀ (fu : Nat) (o1 : Int32) (cd2 : Int32) (fc2 : Nat → Int32) (ws2 : Int32) (H : Heap) (locs : List Loc) (ls : Array Slot), (1 ≤ o1.toInt) → (o1.toInt ≤ 4) → ((b : Int) ≤ ws2.toInt) → ((σ.1 29).toInt ≤ cd2.toInt) → (cd2.toInt + ws2.toInt = cd.toInt + ws.toInt) → (ES f0 fc2 w0 (σ.2.2.1 30) c0 cd2.toInt.toNat b ws2.toInt.toNat 1 X op.toInt o0) → (ws2.toInt < (fu : Int)) → va_P D vwCl (mwd y ad zw (sI (tI (sI (sI (sI σ 32 op) 2 n_9) 29 cd2) 27 fc2) 31 ws2)) H → va_D A (mwd y ad zw (sI (tI (sI (sI (sI σ 32 op) 2 n_9) 29 cd2) 27 fc2) 31 ws2)) → va_S A s.heap H locs → lv_has ls 2 [(1, .int o1), (0, .ref (ad 1))] → W p l e ({ frames := 3, cells := 0, slots := 0, locals := 64 } : Room) s m ([.ref (ad 1)] : List Value).toArray below meth c H locs 0 0 Q (F0 m 155 ls []) := by
                        intro fu
                        induction fu with
                        | zero =>
                          intro o1 cd2 fc2 ws2 H locs ls hV1 hV2 hW2 hC2 hp2 hE2 hm
                          exact absurd hm (by omega)
                        | succ fu ih_loop2 =>
                          intro o1 cd2 fc2 ws2 H locs ls hV1 hV2 hW2 hC2 hp2 hE2 hm hP hD hS hl
                          refine lv_aload_n hx hb dX12_goesOn_155 rfl (lv_at hl 1 rfl) ?_
                          refine lv_iconst (v := 3) hx hb dX12_goesOn_156 (by decide) ?_
                          refine x_calliW (va_runV (As := [.int 3]) (rest := []) ⟨hx, hb, hml, hown, hts⟩ (q_isOn l D y H.size ad zw (sI (tI (sI (sI (sI σ 32 op) 2 n_9) 29 cd2) 27 fc2) 31 ws2) 3 (show 0 ≤ (ws2).toInt from by first | omega | decide) (show (ws2).toInt ≤ 800 from by first | omega | decide)) (cwV 1 hts g_q_goesOn_6 rfl rfl rfl (by decide +kernel) ⟨Nat.le_of_ble_eq_true rfl, Nat.le_of_ble_eq_true rfl⟩) (x_preV (q := (RX12, TX12, 85)) hK hP hD (ci := 11) (q0 := 0) rfl mwd_o0) rfl rfl hl.1 rfl (lv_room (Nat.le_of_ble_eq_true rfl)) dX12_goesOn_157 ⟨Nat.le_of_ble_eq_true rfl, Nat.le_of_ble_eq_true rfl⟩) hP hD hS hA (fun r_180 u H locs hw hP hD hS => ?_)
                          try dsimp only at hw
                          have hP : va_P D vwCl (mwd y ad zw (sI (tI (sI (sI (sI σ 32 op) 2 n_9) 29 cd2) 27 fc2) 31 ws2)) H := hP
                          have hD : va_D A (mwd y ad zw (sI (tI (sI (sI (sI σ 32 op) 2 n_9) 29 cd2) 27 fc2) 31 ws2)) := hD
                          replace hw : (r_180.toInt = 0 ∧ ((ws2).toInt ≤ 0 ∨ (((σ.2.2.1 30)) ((ws2).toInt.toNat - 1)).toInt ≠ (3 : Int32).toInt)) ∨ (r_180.toInt = 1 ∧ 1 ≤ (ws2).toInt ∧ (((σ.2.2.1 30)) ((ws2).toInt.toNat - 1)).toInt = (3 : Int32).toInt) := hw
                          rcases hw with ⟨hi1, hi2⟩ | ⟨hi1, hi2, hi3⟩
                          · clear hi2
                            refine lv_if_ne (tgt := 171) hx hb dX12_goesOn_160 (by decide) (fun c_181 => ?_) (fun c_181 => ?_)
                            · have kc_181 : r_180.toInt ≠ 0 := by have h9 := c_181; simp only [ge_iff_le, gt_iff_lt, x_lt, x_le, x_eq, ne_eq, Int32.not_lt, Int32.not_le] at h9; simp only [Int32.reduceToInt] at h9; omega
                              exfalso
                              omega
                            · have kc_181 : r_180.toInt = 0 := by have h9 := c_181; simp only [ge_iff_le, gt_iff_lt, x_lt, x_le, x_eq, ne_eq, Int32.not_lt, Int32.not_le] at h9; simp only [Int32.reduceToInt] at h9; omega
                              refine lv_aload_n hx hb dX12_goesOn_163 rfl (lv_at hl 1 rfl) ?_
                              refine lv_iconst (v := 4) hx hb dX12_goesOn_164 (by decide) ?_
                              refine x_calliW (va_runV (As := [.int 4]) (rest := []) ⟨hx, hb, hml, hown, hts⟩ (q_isOn l D y H.size ad zw (sI (tI (sI (sI (sI σ 32 op) 2 n_9) 29 cd2) 27 fc2) 31 ws2) 4 (show 0 ≤ (ws2).toInt from by first | omega | decide) (show (ws2).toInt ≤ 800 from by first | omega | decide)) (cwV 1 hts g_q_goesOn_6 rfl rfl rfl (by decide +kernel) ⟨Nat.le_of_ble_eq_true rfl, Nat.le_of_ble_eq_true rfl⟩) (x_preV (q := (RX12, TX12, 85)) hK hP hD (ci := 11) (q0 := 0) rfl mwd_o0) rfl rfl hl.1 rfl (lv_room (Nat.le_of_ble_eq_true rfl)) dX12_goesOn_165 ⟨Nat.le_of_ble_eq_true rfl, Nat.le_of_ble_eq_true rfl⟩) hP hD hS hA (fun r_182 u H locs hw hP hD hS => ?_)
                              try dsimp only at hw
                              have hP : va_P D vwCl (mwd y ad zw (sI (tI (sI (sI (sI σ 32 op) 2 n_9) 29 cd2) 27 fc2) 31 ws2)) H := hP
                              have hD : va_D A (mwd y ad zw (sI (tI (sI (sI (sI σ 32 op) 2 n_9) 29 cd2) 27 fc2) 31 ws2)) := hD
                              replace hw : (r_182.toInt = 0 ∧ ((ws2).toInt ≤ 0 ∨ (((σ.2.2.1 30)) ((ws2).toInt.toNat - 1)).toInt ≠ (4 : Int32).toInt)) ∨ (r_182.toInt = 1 ∧ 1 ≤ (ws2).toInt ∧ (((σ.2.2.1 30)) ((ws2).toInt.toNat - 1)).toInt = (4 : Int32).toInt) := hw
                              rcases hw with ⟨hi1, hi2⟩ | ⟨hi1, hi2, hi3⟩
                              · clear hi2
                                refine lv_if_eq (tgt := 178) hx hb dX12_goesOn_168 (by decide) (fun c_183 => ?_) (fun c_183 => ?_)
                                · have kc_183 : r_182.toInt = 0 := by have h9 := c_183; simp only [ge_iff_le, gt_iff_lt, x_lt, x_le, x_eq, ne_eq, Int32.not_lt, Int32.not_le] at h9; simp only [Int32.reduceToInt] at h9; omega
                                  refine lv_aload_n hx hb dX12_goesOn_178 rfl (lv_at hl 1 rfl) ?_
                                  refine va_get (D := D) (ci := 11) (v := .ref (ad 30)) (C := RX12) (T := TX12) (N := 85) hx hb hts inX12 hown hK hP 0 mwd_o0 rfl 30 (by decide) fl75 (fun _ h9 => h9) rfl dX12_goesOn_179 ?_
                                  refine lv_aload_n hx hb dX12_goesOn_182 rfl (lv_at hl 1 rfl) ?_
                                  refine va_get (D := D) (ci := 11) (v := .int ws2) (C := RX12) (T := TX12) (N := 85) hx hb hts inX12 hown hK hP 0 mwd_o0 rfl 31 (by decide) fl263 (fun _ h9 => h9) rfl dX12_goesOn_183 ?_
                                  refine lv_iload_n hx hb dX12_goesOn_186 rfl (lv_at hl 0 rfl) ?_
                                  refine va_iast hx hb hK hP hD hS 21 2 mwd_a21 rfl (x_in (by omega) (by omega)) dX12_goesOn_187 (fun H locs hP hD hS => ?_)
                                  obtain ⟨f_184, ef_184⟩ : ∃ z9 : Nat → Int32, z9 = (upd (σ.2.2.1 30) (Int32.toNatClampNeg ws2) o1) := ⟨_, rfl⟩
                                  have hP : va_P D vwCl (mwd y ad zw (tI (sI (tI (sI (sI (sI σ 32 op) 2 n_9) 29 cd2) 27 fc2) 31 ws2) 30 f_184)) H := by rw [ef_184]; exact x_trP hP mwd_s21
                                  have hD : va_D A (mwd y ad zw (tI (sI (tI (sI (sI (sI σ 32 op) 2 n_9) 29 cd2) 27 fc2) 31 ws2) 30 f_184)) := by rw [ef_184]; exact x_trD hD mwd_s21
                                  rw [x_cl (n := ws2.toInt.toNat) (by omega)] at ef_184
                                  refine lv_aload_n hx hb dX12_goesOn_188 rfl (lv_at hl 1 rfl) ?_
                                  refine lv_dup hx hb dX12_goesOn_189 rfl ?_
                                  refine va_get (D := D) (ci := 11) (v := .int ws2) (C := RX12) (T := TX12) (N := 85) hx hb hts inX12 hown hK hP 0 mwd_o0 rfl 31 (by decide) fl263 (fun _ h9 => h9) rfl dX12_goesOn_190 ?_
                                  refine lv_iconst (v := 1) hx hb dX12_goesOn_193 (by decide) ?_
                                  refine lv_iadd hx hb dX12_goesOn_194 ?_
                                  refine lv_topi (fun i_185 ei_185 => ?_)
                                  have vi_185 : i_185.toInt = ws2.toInt + 1 := by have h9 := x_add ei_185 (by omega) (by omega); omega
                                  refine va_put (D := D) (ci := 11) (v := .int i_185) (ty := .int) (C := RX12) (T := TX12) (N := 85) hx hb hts inX12 tyX12 tyX12_ok nmX12 hown hK hP hD hS 0 mwd_o0 rfl 31 (by decide) fl263 (fun _ h9 => h9) rfl (by decide +kernel) rfl rfl (Nat.le_of_ble_eq_true rfl) dX12_goesOn_195 (fun H locs hP hD hS => ?_)
                                  have hP : va_P D vwCl (mwd y ad zw (sI (tI (sI (tI (sI (sI (sI σ 32 op) 2 n_9) 29 cd2) 27 fc2) 31 ws2) 30 f_184) 31 i_185)) H := x_trP hP mwd_p0_31
                                  have hD : va_D A (mwd y ad zw (sI (tI (sI (tI (sI (sI (sI σ 32 op) 2 n_9) 29 cd2) 27 fc2) 31 ws2) 30 f_184) 31 i_185)) := x_trD hD mwd_p0_31
                                  refine lv_iconst (v := 1) hx hb dX12_goesOn_198 (by decide) ?_
                                  have hP : va_P D vwCl (mwd y ad zw (sI (tI (sI (tI (sI (sI (sI (sI σ 2 n_9) 5 (σ.1 5)) 6 (σ.1 6)) 29 cd2) 27 fc2) 32 op) 30 f_184) 31 i_185)) H := hP
                                  have hD : va_D A (mwd y ad zw (sI (tI (sI (tI (sI (sI (sI (sI σ 2 n_9) 5 (σ.1 5)) 6 (σ.1 6)) 29 cd2) 27 fc2) 32 op) 30 f_184) 31 i_185)) := hD
                                  exact x_zretW (v := 1) (u := (n_9, (σ.1 5), (σ.1 6), cd2, fc2, op, f_184, i_185)) hx hb hr hQ rfl (by (try dsimp only); exact ⟨by omega, by omega, by omega, by omega, by omega, by omega, by omega, by omega, fun h9 => ⟨fun _ => ⟨by omega, by rw [ef_184, show i_185.toInt.toNat = ws2.toInt.toNat + 1 by omega]; exact ES_op hE2 ⟨by first | omega | decide, by first | omega | decide⟩⟩, fun h8 => absurd h8 (by omega)⟩⟩) hP hD hK hS dX12_goesOn_199 hlocks
                                · have kc_183 : r_182.toInt ≠ 0 := by have h9 := c_183; simp only [ge_iff_le, gt_iff_lt, x_lt, x_le, x_eq, ne_eq, Int32.not_lt, Int32.not_le] at h9; simp only [Int32.reduceToInt] at h9; omega
                                  exfalso
                                  omega
                              · have hbn := ES_on hE2 hlo (by omega) (by omega)
                                refine lv_if_eq (tgt := 178) hx hb dX12_goesOn_168 (by decide) (fun c_186 => ?_) (fun c_186 => ?_)
                                · have kc_186 : r_182.toInt = 0 := by have h9 := c_186; simp only [ge_iff_le, gt_iff_lt, x_lt, x_le, x_eq, ne_eq, Int32.not_lt, Int32.not_le] at h9; simp only [Int32.reduceToInt] at h9; omega
                                  exfalso
                                  omega
                                · have kc_186 : r_182.toInt ≠ 0 := by have h9 := c_186; simp only [ge_iff_le, gt_iff_lt, x_lt, x_le, x_eq, ne_eq, Int32.not_lt, Int32.not_le] at h9; simp only [Int32.reduceToInt] at h9; omega
                                  refine lv_aload_n hx hb dX12_goesOn_171 rfl (lv_at hl 1 rfl) ?_
                                  refine x_callvW (va_runV (As := []) (rest := []) ⟨hx, hb, hml, hown, hts⟩ (q_drops l D y H.size ad zw (sI (tI (sI (sI (sI σ 32 op) 2 n_9) 29 cd2) 27 fc2) 31 ws2) (show 1 ≤ (ws2).toInt from by first | omega | decide) (show (ws2).toInt ≤ 800 from by first | omega | decide) (show 0 ≤ (cd2).toInt from by first | omega | decide) (show (cd2).toInt < 1200 from by first | omega | decide)) (cwV 0 hts g_q_goesOn_7 rfl rfl rfl (by decide +kernel) ⟨Nat.le_of_ble_eq_true rfl, Nat.le_of_ble_eq_true rfl⟩) (x_preV (q := (RX12, TX12, 85)) hK hP hD (ci := 11) (q0 := 0) rfl mwd_o0) rfl rfl hl.1 rfl (lv_room (Nat.le_of_ble_eq_true rfl)) dX12_goesOn_172 ⟨Nat.le_of_ble_eq_true rfl, Nat.le_of_ble_eq_true rfl⟩) hP hD hS hA (fun u H locs hw hP hD hS => ?_)
                                  obtain ⟨n_187, n_188, f_189⟩ := u
                                  try dsimp only at hw
                                  have hP : va_P D vwCl (mwd y ad zw (tI (sI (sI (sI (tI (sI (sI (sI σ 32 op) 2 n_9) 29 cd2) 27 fc2) 31 ws2) 31 n_187) 29 n_188) 27 f_189)) H := hP
                                  have hD : va_D A (mwd y ad zw (tI (sI (sI (sI (tI (sI (sI (sI σ 32 op) 2 n_9) 29 cd2) 27 fc2) 31 ws2) 31 n_187) 29 n_188) 27 f_189)) := hD
                                  replace hw : n_187.toInt = (ws2).toInt - 1 ∧ n_188.toInt = (cd2).toInt + 1 ∧ f_189 = upd (fc2) (cd2).toInt.toNat (((σ.2.2.1 30)) ((ws2).toInt.toNat - 1)) := hw
                                  refine lv_goto (tgt := 155) hx hb dX12_goesOn_175 (by decide) ?_
                                  have hP : va_P D vwCl (mwd y ad zw (sI (tI (sI (sI (sI σ 32 op) 2 n_9) 29 n_188) 27 f_189) 31 n_187)) H := hP
                                  have hD : va_D A (mwd y ad zw (sI (tI (sI (sI (sI σ 32 op) 2 n_9) 29 n_188) 27 f_189) 31 n_187)) := hD
                                  exact ih_loop2 o1 n_188 f_189 n_187 H locs ls (by omega) (by omega) (by omega) (by omega) (by omega) (by obtain ⟨h7, h6, h5⟩ := hw; rw [h5, show n_188.toInt.toNat = cd2.toInt.toNat + 1 by omega, show n_187.toInt.toNat = ws2.toInt.toNat - 1 by omega]; exact ES_drop hE2 hbn (by omega) (by omega)) (by omega) hP hD hS (lv_sub hl [0, 1] rfl)
                          · have hbn := ES_on hE2 hlo (by omega) (by omega)
                            refine lv_if_ne (tgt := 171) hx hb dX12_goesOn_160 (by decide) (fun c_190 => ?_) (fun c_190 => ?_)
                            · have kc_190 : r_180.toInt ≠ 0 := by have h9 := c_190; simp only [ge_iff_le, gt_iff_lt, x_lt, x_le, x_eq, ne_eq, Int32.not_lt, Int32.not_le] at h9; simp only [Int32.reduceToInt] at h9; omega
                              refine lv_aload_n hx hb dX12_goesOn_171 rfl (lv_at hl 1 rfl) ?_
                              refine x_callvW (va_runV (As := []) (rest := []) ⟨hx, hb, hml, hown, hts⟩ (q_drops l D y H.size ad zw (sI (tI (sI (sI (sI σ 32 op) 2 n_9) 29 cd2) 27 fc2) 31 ws2) (show 1 ≤ (ws2).toInt from by first | omega | decide) (show (ws2).toInt ≤ 800 from by first | omega | decide) (show 0 ≤ (cd2).toInt from by first | omega | decide) (show (cd2).toInt < 1200 from by first | omega | decide)) (cwV 0 hts g_q_goesOn_7 rfl rfl rfl (by decide +kernel) ⟨Nat.le_of_ble_eq_true rfl, Nat.le_of_ble_eq_true rfl⟩) (x_preV (q := (RX12, TX12, 85)) hK hP hD (ci := 11) (q0 := 0) rfl mwd_o0) rfl rfl hl.1 rfl (lv_room (Nat.le_of_ble_eq_true rfl)) dX12_goesOn_172 ⟨Nat.le_of_ble_eq_true rfl, Nat.le_of_ble_eq_true rfl⟩) hP hD hS hA (fun u H locs hw hP hD hS => ?_)
                              obtain ⟨n_191, n_192, f_193⟩ := u
                              try dsimp only at hw
                              have hP : va_P D vwCl (mwd y ad zw (tI (sI (sI (sI (tI (sI (sI (sI σ 32 op) 2 n_9) 29 cd2) 27 fc2) 31 ws2) 31 n_191) 29 n_192) 27 f_193)) H := hP
                              have hD : va_D A (mwd y ad zw (tI (sI (sI (sI (tI (sI (sI (sI σ 32 op) 2 n_9) 29 cd2) 27 fc2) 31 ws2) 31 n_191) 29 n_192) 27 f_193)) := hD
                              replace hw : n_191.toInt = (ws2).toInt - 1 ∧ n_192.toInt = (cd2).toInt + 1 ∧ f_193 = upd (fc2) (cd2).toInt.toNat (((σ.2.2.1 30)) ((ws2).toInt.toNat - 1)) := hw
                              refine lv_goto (tgt := 155) hx hb dX12_goesOn_175 (by decide) ?_
                              have hP : va_P D vwCl (mwd y ad zw (sI (tI (sI (sI (sI σ 32 op) 2 n_9) 29 n_192) 27 f_193) 31 n_191)) H := hP
                              have hD : va_D A (mwd y ad zw (sI (tI (sI (sI (sI σ 32 op) 2 n_9) 29 n_192) 27 f_193) 31 n_191)) := hD
                              exact ih_loop2 o1 n_192 f_193 n_191 H locs ls (by omega) (by omega) (by omega) (by omega) (by omega) (by obtain ⟨h7, h6, h5⟩ := hw; rw [h5, show n_192.toInt.toNat = cd2.toInt.toNat + 1 by omega, show n_191.toInt.toNat = ws2.toInt.toNat - 1 by omega]; exact ES_drop hE2 hbn (by omega) (by omega)) (by omega) hP hD hS (lv_sub hl [0, 1] rfl)
                            · have kc_190 : r_180.toInt = 0 := by have h9 := c_190; simp only [ge_iff_le, gt_iff_lt, x_lt, x_le, x_eq, ne_eq, Int32.not_lt, Int32.not_le] at h9; simp only [Int32.reduceToInt] at h9; omega
                              exfalso
                              omega
                      exact loop2 801 3 cd fc ws H locs ls (by decide) (by decide) (by omega) (by omega) (by omega) hE (by omega) hP hD hS (lv_sub hl [0, 1] rfl)
            · skip
              refine lv_if_ne (tgt := 133) hx hb dX12_goesOn_121 (by decide) (fun c_194 => ?_) (fun c_194 => ?_)
              · have kc_194 : r_5.toInt ≠ 0 := by have h9 := c_194; simp only [ge_iff_le, gt_iff_lt, x_lt, x_le, x_eq, ne_eq, Int32.not_lt, Int32.not_le] at h9; simp only [Int32.reduceToInt] at h9; omega
                refine lv_aload_n hx hb dX12_goesOn_133 rfl (lv_at hl 0 rfl) ?_
                refine va_get (D := D) (ci := 11) (v := .ref (ad 0)) (C := RX12) (T := TX12) (N := 85) hx hb hts inX12 hown hK hP 0 mwd_o0 rfl 0 (by decide) fl7 (fun _ h9 => h9) rfl dX12_goesOn_134 ?_
                refine lv_aload_n hx hb dX12_goesOn_137 rfl (lv_at hl 0 rfl) ?_
                refine va_get (D := D) (ci := 11) (v := .int n_6) (C := RX12) (T := TX12) (N := 85) hx hb hts inX12 hown hK hP 0 mwd_o0 rfl 2 (by decide) fl197 (fun _ h9 => h9) rfl dX12_goesOn_138 ?_
                refine lv_iconst (v := 1) hx hb dX12_goesOn_141 (by decide) ?_
                refine lv_isub hx hb dX12_goesOn_142 ?_
                refine lv_topi (fun i_195 ei_195 => ?_)
                have vi_195 : i_195.toInt = n_6.toInt - 1 := by have h9 := x_sub ei_195 (by omega) (by omega); omega
                refine va_iald hx hb hK hP 1 2 mwd_a1 rfl (x_in (by omega) (by omega)) dX12_goesOn_143 ?_
                refine lv_topi (fun i_196 ei_196 => ?_)
                have ei_196 : i_196 = (σ.2.2.1 0) (Int32.toNatClampNeg i_195) := ei_196
                refine lv_bipush (v := 42) hx hb dX12_goesOn_144 (by decide) ?_
                refine lv_icmp_ne (tgt := 153) hx hb dX12_goesOn_146 (by decide) (fun c_197 => ?_) (fun c_197 => ?_)
                · have kc_197 : i_196.toInt ≠ 42 := by have h9 := c_197; simp only [ge_iff_le, gt_iff_lt, x_lt, x_le, x_eq, ne_eq, Int32.not_lt, Int32.not_le] at h9; simp only [Int32.reduceToInt] at h9; omega
                  refine lv_iconst (v := 4) hx hb dX12_goesOn_153 (by decide) ?_
                  refine lv_istore_n (lv' := [(1, .int 4), (0, .ref (ad 1))]) hx hb dX12_goesOn_154 rfl hl (by decide) rfl (fun ls hl => ?_)
                  have hP : va_P D vwCl (mwd y ad zw (sI (tI (sI (sI (sI σ 32 op) 2 n_6) 29 cd) 27 fc) 31 ws)) H := hP
                  have hD : va_D A (mwd y ad zw (sI (tI (sI (sI (sI σ 32 op) 2 n_6) 29 cd) 27 fc) 31 ws)) := hD
                  have loop2 : ∀ (fu : Nat) (o1 : Int32) (cd2 : Int32) (fc2 : Nat → Int32) (ws2 : Int32) (H : Heap) (locs : List Loc) (ls : Array Slot), (1 ≤ o1.toInt) → (o1.toInt ≤ 4) → ((b : Int) ≤ ws2.toInt) → ((σ.1 29).toInt ≤ cd2.toInt) → (cd2.toInt + ws2.toInt = cd.toInt + ws.toInt) → (ES f0 fc2 w0 (σ.2.2.1 30) c0 cd2.toInt.toNat b ws2.toInt.toNat 1 X op.toInt o0) → (ws2.toInt < (fu : Int)) → va_P D vwCl (mwd y ad zw (sI (tI (sI (sI (sI σ 32 op) 2 n_6) 29 cd2) 27 fc2) 31 ws2)) H → va_D A (mwd y ad zw (sI (tI (sI (sI (sI σ 32 op) 2 n_6) 29 cd2) 27 fc2) 31 ws2)) → va_S A s.heap H locs → lv_has ls 2 [(1, .int o1), (0, .ref (ad 1))] → W p l e ({ frames := 3, cells := 0, slots := 0, locals := 64 } : Room) s m ([.ref (ad 1)] : List Value).toArray below meth c H locs 0 0 Q (F0 m 155 ls []) := by
                    intro fu
                    induction fu with
                    | zero =>
                      intro o1 cd2 fc2 ws2 H locs ls hV1 hV2 hW2 hC2 hp2 hE2 hm
                      exact absurd hm (by omega)
                    | succ fu ih_loop2 =>
                      intro o1 cd2 fc2 ws2 H locs ls hV1 hV2 hW2 hC2 hp2 hE2 hm hP hD hS hl
                      refine lv_aload_n hx hb dX12_goesOn_155 rfl (lv_at hl 1 rfl) ?_
                      refine lv_iconst (v := 3) hx hb dX12_goesOn_156 (by decide) ?_
                      refine x_calliW (va_runV (As := [.int 3]) (rest := []) ⟨hx, hb, hml, hown, hts⟩ (q_isOn l D y H.size ad zw (sI (tI (sI (sI (sI σ 32 op) 2 n_6) 29 cd2) 27 fc2) 31 ws2) 3 (show 0 ≤ (ws2).toInt from by first | omega | decide) (show (ws2).toInt ≤ 800 from by first | omega | decide)) (cwV 1 hts g_q_goesOn_6 rfl rfl rfl (by decide +kernel) ⟨Nat.le_of_ble_eq_true rfl, Nat.le_of_ble_eq_true rfl⟩) (x_preV (q := (RX12, TX12, 85)) hK hP hD (ci := 11) (q0 := 0) rfl mwd_o0) rfl rfl hl.1 rfl (lv_room (Nat.le_of_ble_eq_true rfl)) dX12_goesOn_157 ⟨Nat.le_of_ble_eq_true rfl, Nat.le_of_ble_eq_true rfl⟩) hP hD hS hA (fun r_198 u H locs hw hP hD hS => ?_)
                      try dsimp only at hw
                      have hP : va_P D vwCl (mwd y ad zw (sI (tI (sI (sI (sI σ 32 op) 2 n_6) 29 cd2) 27 fc2) 31 ws2)) H := hP
                      have hD : va_D A (mwd y ad zw (sI (tI (sI (sI (sI σ 32 op) 2 n_6) 29 cd2) 27 fc2) 31 ws2)) := hD
                      replace hw : (r_198.toInt = 0 ∧ ((ws2).toInt ≤ 0 ∨ (((σ.2.2.1 30)) ((ws2).toInt.toNat - 1)).toInt ≠ (3 : Int32).toInt)) ∨ (r_198.toInt = 1 ∧ 1 ≤ (ws2).toInt ∧ (((σ.2.2.1 30)) ((ws2).toInt.toNat - 1)).toInt = (3 : Int32).toInt) := hw
                      rcases hw with ⟨hi1, hi2⟩ | ⟨hi1, hi2, hi3⟩
                      · clear hi2
                        refine lv_if_ne (tgt := 171) hx hb dX12_goesOn_160 (by decide) (fun c_199 => ?_) (fun c_199 => ?_)
                        · have kc_199 : r_198.toInt ≠ 0 := by have h9 := c_199; simp only [ge_iff_le, gt_iff_lt, x_lt, x_le, x_eq, ne_eq, Int32.not_lt, Int32.not_le] at h9; simp only [Int32.reduceToInt] at h9; omega
                          exfalso
                          omega
                        · have kc_199 : r_198.toInt = 0 := by have h9 := c_199; simp only [ge_iff_le, gt_iff_lt, x_lt, x_le, x_eq, ne_eq, Int32.not_lt, Int32.not_le] at h9; simp only [Int32.reduceToInt] at h9; omega
                          refine lv_aload_n hx hb dX12_goesOn_163 rfl (lv_at hl 1 rfl) ?_
                          refine lv_iconst (v := 4) hx hb dX12_goesOn_164 (by decide) ?_
                          refine x_calliW (va_runV (As := [.int 4]) (rest := []) ⟨hx, hb, hml, hown, hts⟩ (q_isOn l D y H.size ad zw (sI (tI (sI (sI (sI σ 32 op) 2 n_6) 29 cd2) 27 fc2) 31 ws2) 4 (show 0 ≤ (ws2).toInt from by first | omega | decide) (show (ws2).toInt ≤ 800 from by first | omega | decide)) (cwV 1 hts g_q_goesOn_6 rfl rfl rfl (by decide +kernel) ⟨Nat.le_of_ble_eq_true rfl, Nat.le_of_ble_eq_true rfl⟩) (x_preV (q := (RX12, TX12, 85)) hK hP hD (ci := 11) (q0 := 0) rfl mwd_o0) rfl rfl hl.1 rfl (lv_room (Nat.le_of_ble_eq_true rfl)) dX12_goesOn_165 ⟨Nat.le_of_ble_eq_true rfl, Nat.le_of_ble_eq_true rfl⟩) hP hD hS hA (fun r_200 u H locs hw hP hD hS => ?_)
                          try dsimp only at hw
                          have hP : va_P D vwCl (mwd y ad zw (sI (tI (sI (sI (sI σ 32 op) 2 n_6) 29 cd2) 27 fc2) 31 ws2)) H := hP
                          have hD : va_D A (mwd y ad zw (sI (tI (sI (sI (sI σ 32 op) 2 n_6) 29 cd2) 27 fc2) 31 ws2)) := hD
                          replace hw : (r_200.toInt = 0 ∧ ((ws2).toInt ≤ 0 ∨ (((σ.2.2.1 30)) ((ws2).toInt.toNat - 1)).toInt ≠ (4 : Int32).toInt)) ∨ (r_200.toInt = 1 ∧ 1 ≤ (ws2).toInt ∧ (((σ.2.2.1 30)) ((ws2).toInt.toNat - 1)).toInt = (4 : Int32).toInt) := hw
                          rcases hw with ⟨hi1, hi2⟩ | ⟨hi1, hi2, hi3⟩
                          · clear hi2
                            refine lv_if_eq (tgt := 178) hx hb dX12_goesOn_168 (by decide) (fun c_201 => ?_) (fun c_201 => ?_)
                            · have kc_201 : r_200.toInt = 0 := by have h9 := c_201; simp only [ge_iff_le, gt_iff_lt, x_lt, x_le, x_eq, ne_eq, Int32.not_lt, Int32.not_le] at h9; simp only [Int32.reduceToInt] at h9; omega
                              refine lv_aload_n hx hb dX12_goesOn_178 rfl (lv_at hl 1 rfl) ?_
                              refine va_get (D := D) (ci := 11) (v := .ref (ad 30)) (C := RX12) (T := TX12) (N := 85) hx hb hts inX12 hown hK hP 0 mwd_o0 rfl 30 (by decide) fl75 (fun _ h9 => h9) rfl dX12_goesOn_179 ?_
                              refine lv_aload_n hx hb dX12_goesOn_182 rfl (lv_at hl 1 rfl) ?_
                              refine va_get (D := D) (ci := 11) (v := .int ws2) (C := RX12) (T := TX12) (N := 85) hx hb hts inX12 hown hK hP 0 mwd_o0 rfl 31 (by decide) fl263 (fun _ h9 => h9) rfl dX12_goesOn_183 ?_
                              refine lv_iload_n hx hb dX12_goesOn_186 rfl (lv_at hl 0 rfl) ?_
                              refine va_iast hx hb hK hP hD hS 21 2 mwd_a21 rfl (x_in (by omega) (by omega)) dX12_goesOn_187 (fun H locs hP hD hS => ?_)
                              obtain ⟨f_202, ef_202⟩ : ∃ z9 : Nat → Int32, z9 = (upd (σ.2.2.1 30) (Int32.toNatClampNeg ws2) o1) := ⟨_, rfl⟩
                              have hP : va_P D vwCl (mwd y ad zw (tI (sI (tI (sI (sI (sI σ 32 op) 2 n_6) 29 cd2) 27 fc2) 31 ws2) 30 f_202)) H := by rw [ef_202]; exact x_trP hP mwd_s21
                              have hD : va_D A (mwd y ad zw (tI (sI (tI (sI (sI (sI σ 32 op) 2 n_6) 29 cd2) 27 fc2) 31 ws2) 30 f_202)) := by rw [ef_202]; exact x_trD hD mwd_s21
                              rw [x_cl (n := ws2.toInt.toNat) (by omega)] at ef_202
                              refine lv_aload_n hx hb dX12_goesOn_188 rfl (lv_at hl 1 rfl) ?_
                              refine lv_dup hx hb dX12_goesOn_189 rfl ?_
                              refine va_get (D := D) (ci := 11) (v := .int ws2) (C := RX12) (T := TX12) (N := 85) hx hb hts inX12 hown hK hP 0 mwd_o0 rfl 31 (by decide) fl263 (fun _ h9 => h9) rfl dX12_goesOn_190 ?_
                              refine lv_iconst (v := 1) hx hb dX12_goesOn_193 (by decide) ?_
                              refine lv_iadd hx hb dX12_goesOn_194 ?_
                              refine lv_topi (fun i_203 ei_203 => ?_)
                              have vi_203 : i_203.toInt = ws2.toInt + 1 := by have h9 := x_add ei_203 (by omega) (by omega); omega
                              refine va_put (D := D) (ci := 11) (v := .int i_203) (ty := .int) (C := RX12) (T := TX12) (N := 85) hx hb hts inX12 tyX12 tyX12_ok nmX12 hown hK hP hD hS 0 mwd_o0 rfl 31 (by decide) fl263 (fun _ h9 => h9) rfl (by decide +kernel) rfl rfl (Nat.le_of_ble_eq_true rfl) dX12_goesOn_195 (fun H locs hP hD hS => ?_)
                              have hP : va_P D vwCl (mwd y ad zw (sI (tI (sI (tI (sI (sI (sI σ 32 op) 2 n_6) 29 cd2) 27 fc2) 31 ws2) 30 f_202) 31 i_203)) H := x_trP hP mwd_p0_31
                              have hD : va_D A (mwd y ad zw (sI (tI (sI (tI (sI (sI (sI σ 32 op) 2 n_6) 29 cd2) 27 fc2) 31 ws2) 30 f_202) 31 i_203)) := x_trD hD mwd_p0_31
                              refine lv_iconst (v := 1) hx hb dX12_goesOn_198 (by decide) ?_
                              have hP : va_P D vwCl (mwd y ad zw (sI (tI (sI (tI (sI (sI (sI (sI σ 2 n_6) 5 (σ.1 5)) 6 (σ.1 6)) 29 cd2) 27 fc2) 32 op) 30 f_202) 31 i_203)) H := hP
                              have hD : va_D A (mwd y ad zw (sI (tI (sI (tI (sI (sI (sI (sI σ 2 n_6) 5 (σ.1 5)) 6 (σ.1 6)) 29 cd2) 27 fc2) 32 op) 30 f_202) 31 i_203)) := hD
                              exact x_zretW (v := 1) (u := (n_6, (σ.1 5), (σ.1 6), cd2, fc2, op, f_202, i_203)) hx hb hr hQ rfl (by (try dsimp only); exact ⟨by omega, by omega, by omega, by omega, by omega, by omega, by omega, by omega, fun h9 => ⟨fun _ => ⟨by omega, by rw [ef_202, show i_203.toInt.toNat = ws2.toInt.toNat + 1 by omega]; exact ES_op hE2 ⟨by first | omega | decide, by first | omega | decide⟩⟩, fun h8 => absurd h8 (by omega)⟩⟩) hP hD hK hS dX12_goesOn_199 hlocks
                            · have kc_201 : r_200.toInt ≠ 0 := by have h9 := c_201; simp only [ge_iff_le, gt_iff_lt, x_lt, x_le, x_eq, ne_eq, Int32.not_lt, Int32.not_le] at h9; simp only [Int32.reduceToInt] at h9; omega
                              exfalso
                              omega
                          · have hbn := ES_on hE2 hlo (by omega) (by omega)
                            refine lv_if_eq (tgt := 178) hx hb dX12_goesOn_168 (by decide) (fun c_204 => ?_) (fun c_204 => ?_)
                            · have kc_204 : r_200.toInt = 0 := by have h9 := c_204; simp only [ge_iff_le, gt_iff_lt, x_lt, x_le, x_eq, ne_eq, Int32.not_lt, Int32.not_le] at h9; simp only [Int32.reduceToInt] at h9; omega
                              exfalso
                              omega
                            · have kc_204 : r_200.toInt ≠ 0 := by have h9 := c_204; simp only [ge_iff_le, gt_iff_lt, x_lt, x_le, x_eq, ne_eq, Int32.not_lt, Int32.not_le] at h9; simp only [Int32.reduceToInt] at h9; omega
                              refine lv_aload_n hx hb dX12_goesOn_171 rfl (lv_at hl 1 rfl) ?_
                              refine x_callvW (va_runV (As := []) (rest := []) ⟨hx, hb, hml, hown, hts⟩ (q_drops l D y H.size ad zw (sI (tI (sI (sI (sI σ 32 op) 2 n_6) 29 cd2) 27 fc2) 31 ws2) (show 1 ≤ (ws2).toInt from by first | omega | decide) (show (ws2).toInt ≤ 800 from by first | omega | decide) (show 0 ≤ (cd2).toInt from by first | omega | decide) (show (cd2).toInt < 1200 from by first | omega | decide)) (cwV 0 hts g_q_goesOn_7 rfl rfl rfl (by decide +kernel) ⟨Nat.le_of_ble_eq_true rfl, Nat.le_of_ble_eq_true rfl⟩) (x_preV (q := (RX12, TX12, 85)) hK hP hD (ci := 11) (q0 := 0) rfl mwd_o0) rfl rfl hl.1 rfl (lv_room (Nat.le_of_ble_eq_true rfl)) dX12_goesOn_172 ⟨Nat.le_of_ble_eq_true rfl, Nat.le_of_ble_eq_true rfl⟩) hP hD hS hA (fun u H locs hw hP hD hS => ?_)
                              obtain ⟨n_205, n_206, f_207⟩ := u
                              try dsimp only at hw
                              have hP : va_P D vwCl (mwd y ad zw (tI (sI (sI (sI (tI (sI (sI (sI σ 32 op) 2 n_6) 29 cd2) 27 fc2) 31 ws2) 31 n_205) 29 n_206) 27 f_207)) H := hP
                              have hD : va_D A (mwd y ad zw (tI (sI (sI (sI (tI (sI (sI (sI σ 32 op) 2 n_6) 29 cd2) 27 fc2) 31 ws2) 31 n_205) 29 n_206) 27 f_207)) := hD
                              replace hw : n_205.toInt = (ws2).toInt - 1 ∧ n_206.toInt = (cd2).toInt + 1 ∧ f_207 = upd (fc2) (cd2).toInt.toNat (((σ.2.2.1 30)) ((ws2).toInt.toNat - 1)) := hw
                              refine lv_goto (tgt := 155) hx hb dX12_goesOn_175 (by decide) ?_
                              have hP : va_P D vwCl (mwd y ad zw (sI (tI (sI (sI (sI σ 32 op) 2 n_6) 29 n_206) 27 f_207) 31 n_205)) H := hP
                              have hD : va_D A (mwd y ad zw (sI (tI (sI (sI (sI σ 32 op) 2 n_6) 29 n_206) 27 f_207) 31 n_205)) := hD
                              exact ih_loop2 o1 n_206 f_207 n_205 H locs ls (by omega) (by omega) (by omega) (by omega) (by omega) (by obtain ⟨h7, h6, h5⟩ := hw; rw [h5, show n_206.toInt.toNat = cd2.toInt.toNat + 1 by omega, show n_205.toInt.toNat = ws2.toInt.toNat - 1 by omega]; exact ES_drop hE2 hbn (by omega) (by omega)) (by omega) hP hD hS (lv_sub hl [0, 1] rfl)
                      · have hbn := ES_on hE2 hlo (by omega) (by omega)
                        refine lv_if_ne (tgt := 171) hx hb dX12_goesOn_160 (by decide) (fun c_208 => ?_) (fun c_208 => ?_)
                        · have kc_208 : r_198.toInt ≠ 0 := by have h9 := c_208; simp only [ge_iff_le, gt_iff_lt, x_lt, x_le, x_eq, ne_eq, Int32.not_lt, Int32.not_le] at h9; simp only [Int32.reduceToInt] at h9; omega
                          refine lv_aload_n hx hb dX12_goesOn_171 rfl (lv_at hl 1 rfl) ?_
                          refine x_callvW (va_runV (As := []) (rest := []) ⟨hx, hb, hml, hown, hts⟩ (q_drops l D y H.size ad zw (sI (tI (sI (sI (sI σ 32 op) 2 n_6) 29 cd2) 27 fc2) 31 ws2) (show 1 ≤ (ws2).toInt from by first | omega | decide) (show (ws2).toInt ≤ 800 from by first | omega | decide) (show 0 ≤ (cd2).toInt from by first | omega | decide) (show (cd2).toInt < 1200 from by first | omega | decide)) (cwV 0 hts g_q_goesOn_7 rfl rfl rfl (by decide +kernel) ⟨Nat.le_of_ble_eq_true rfl, Nat.le_of_ble_eq_true rfl⟩) (x_preV (q := (RX12, TX12, 85)) hK hP hD (ci := 11) (q0 := 0) rfl mwd_o0) rfl rfl hl.1 rfl (lv_room (Nat.le_of_ble_eq_true rfl)) dX12_goesOn_172 ⟨Nat.le_of_ble_eq_true rfl, Nat.le_of_ble_eq_true rfl⟩) hP hD hS hA (fun u H locs hw hP hD hS => ?_)
                          obtain ⟨n_209, n_210, f_211⟩ := u
                          try dsimp only at hw
                          have hP : va_P D vwCl (mwd y ad zw (tI (sI (sI (sI (tI (sI (sI (sI σ 32 op) 2 n_6) 29 cd2) 27 fc2) 31 ws2) 31 n_209) 29 n_210) 27 f_211)) H := hP
                          have hD : va_D A (mwd y ad zw (tI (sI (sI (sI (tI (sI (sI (sI σ 32 op) 2 n_6) 29 cd2) 27 fc2) 31 ws2) 31 n_209) 29 n_210) 27 f_211)) := hD
                          replace hw : n_209.toInt = (ws2).toInt - 1 ∧ n_210.toInt = (cd2).toInt + 1 ∧ f_211 = upd (fc2) (cd2).toInt.toNat (((σ.2.2.1 30)) ((ws2).toInt.toNat - 1)) := hw
                          refine lv_goto (tgt := 155) hx hb dX12_goesOn_175 (by decide) ?_
                          have hP : va_P D vwCl (mwd y ad zw (sI (tI (sI (sI (sI σ 32 op) 2 n_6) 29 n_210) 27 f_211) 31 n_209)) H := hP
                          have hD : va_D A (mwd y ad zw (sI (tI (sI (sI (sI σ 32 op) 2 n_6) 29 n_210) 27 f_211) 31 n_209)) := hD
                          exact ih_loop2 o1 n_210 f_211 n_209 H locs ls (by omega) (by omega) (by omega) (by omega) (by omega) (by obtain ⟨h7, h6, h5⟩ := hw; rw [h5, show n_210.toInt.toNat = cd2.toInt.toNat + 1 by omega, show n_209.toInt.toNat = ws2.toInt.toNat - 1 by omega]; exact ES_drop hE2 hbn (by omega) (by omega)) (by omega) hP hD hS (lv_sub hl [0, 1] rfl)
                        · have kc_208 : r_198.toInt = 0 := by have h9 := c_208; simp only [ge_iff_le, gt_iff_lt, x_lt, x_le, x_eq, ne_eq, Int32.not_lt, Int32.not_le] at h9; simp only [Int32.reduceToInt] at h9; omega
                          exfalso
                          omega
                  exact loop2 801 4 cd fc ws H locs ls (by decide) (by decide) (by omega) (by omega) (by omega) hE (by omega) hP hD hS (lv_sub hl [0, 1] rfl)
                · have kc_197 : i_196.toInt = 42 := by have h9 := c_197; simp only [ge_iff_le, gt_iff_lt, x_lt, x_le, x_eq, ne_eq, Int32.not_lt, Int32.not_le] at h9; simp only [Int32.reduceToInt] at h9; omega
                  refine lv_iconst (v := 3) hx hb dX12_goesOn_149 (by decide) ?_
                  refine lv_goto (tgt := 154) hx hb dX12_goesOn_150 (by decide) ?_
                  refine lv_istore_n (lv' := [(1, .int 3), (0, .ref (ad 1))]) hx hb dX12_goesOn_154 rfl hl (by decide) rfl (fun ls hl => ?_)
                  have hP : va_P D vwCl (mwd y ad zw (sI (tI (sI (sI (sI σ 32 op) 2 n_6) 29 cd) 27 fc) 31 ws)) H := hP
                  have hD : va_D A (mwd y ad zw (sI (tI (sI (sI (sI σ 32 op) 2 n_6) 29 cd) 27 fc) 31 ws)) := hD
                  have loop2 : ∀ (fu : Nat) (o1 : Int32) (cd2 : Int32) (fc2 : Nat → Int32) (ws2 : Int32) (H : Heap) (locs : List Loc) (ls : Array Slot), (1 ≤ o1.toInt) → (o1.toInt ≤ 4) → ((b : Int) ≤ ws2.toInt) → ((σ.1 29).toInt ≤ cd2.toInt) → (cd2.toInt + ws2.toInt = cd.toInt + ws.toInt) → (ES f0 fc2 w0 (σ.2.2.1 30) c0 cd2.toInt.toNat b ws2.toInt.toNat 1 X op.toInt o0) → (ws2.toInt < (fu : Int)) → va_P D vwCl (mwd y ad zw (sI (tI (sI (sI (sI σ 32 op) 2 n_6) 29 cd2) 27 fc2) 31 ws2)) H → va_D A (mwd y ad zw (sI (tI (sI (sI (sI σ 32 op) 2 n_6) 29 cd2) 27 fc2) 31 ws2)) → va_S A s.heap H locs → lv_has ls 2 [(1, .int o1), (0, .ref (ad 1))] → W p l e ({ frames := 3, cells := 0, slots := 0, locals := 64 } : Room) s m ([.ref (ad 1)] : List Value).toArray below meth c H locs 0 0 Q (F0 m 155 ls []) := by
                    intro fu
                    induction fu with
                    | zero =>
                      intro o1 cd2 fc2 ws2 H locs ls hV1 hV2 hW2 hC2 hp2 hE2 hm
                      exact absurd hm (by omega)
                    | succ fu ih_loop2 =>
                      intro o1 cd2 fc2 ws2 H locs ls hV1 hV2 hW2 hC2 hp2 hE2 hm hP hD hS hl
                      refine lv_aload_n hx hb dX12_goesOn_155 rfl (lv_at hl 1 rfl) ?_
                      refine lv_iconst (v := 3) hx hb dX12_goesOn_156 (by decide) ?_
                      refine x_calliW (va_runV (As := [.int 3]) (rest := []) ⟨hx, hb, hml, hown, hts⟩ (q_isOn l D y H.size ad zw (sI (tI (sI (sI (sI σ 32 op) 2 n_6) 29 cd2) 27 fc2) 31 ws2) 3 (show 0 ≤ (ws2).toInt from by first | omega | decide) (show (ws2).toInt ≤ 800 from by first | omega | decide)) (cwV 1 hts g_q_goesOn_6 rfl rfl rfl (by decide +kernel) ⟨Nat.le_of_ble_eq_true rfl, Nat.le_of_ble_eq_true rfl⟩) (x_preV (q := (RX12, TX12, 85)) hK hP hD (ci := 11) (q0 := 0) rfl mwd_o0) rfl rfl hl.1 rfl (lv_room (Nat.le_of_ble_eq_true rfl)) dX12_goesOn_157 ⟨Nat.le_of_ble_eq_true rfl, Nat.le_of_ble_eq_true rfl⟩) hP hD hS hA (fun r_212 u H locs hw hP hD hS => ?_)
                      try dsimp only at hw
                      have hP : va_P D vwCl (mwd y ad zw (sI (tI (sI (sI (sI σ 32 op) 2 n_6) 29 cd2) 27 fc2) 31 ws2)) H := hP
                      have hD : va_D A (mwd y ad zw (sI (tI (sI (sI (sI σ 32 op) 2 n_6) 29 cd2) 27 fc2) 31 ws2)) := hD
                      replace hw : (r_212.toInt = 0 ∧ ((ws2).toInt ≤ 0 ∨ (((σ.2.2.1 30)) ((ws2).toInt.toNat - 1)).toInt ≠ (3 : Int32).toInt)) ∨ (r_212.toInt = 1 ∧ 1 ≤ (ws2).toInt ∧ (((σ.2.2.1 30)) ((ws2).toInt.toNat - 1)).toInt = (3 : Int32).toInt) := hw
                      rcases hw with ⟨hi1, hi2⟩ | ⟨hi1, hi2, hi3⟩
                      · clear hi2
                        refine lv_if_ne (tgt := 171) hx hb dX12_goesOn_160 (by decide) (fun c_213 => ?_) (fun c_213 => ?_)
                        · have kc_213 : r_212.toInt ≠ 0 := by have h9 := c_213; simp only [ge_iff_le, gt_iff_lt, x_lt, x_le, x_eq, ne_eq, Int32.not_lt, Int32.not_le] at h9; simp only [Int32.reduceToInt] at h9; omega
                          exfalso
                          omega
                        · have kc_213 : r_212.toInt = 0 := by have h9 := c_213; simp only [ge_iff_le, gt_iff_lt, x_lt, x_le, x_eq, ne_eq, Int32.not_lt, Int32.not_le] at h9; simp only [Int32.reduceToInt] at h9; omega
                          refine lv_aload_n hx hb dX12_goesOn_163 rfl (lv_at hl 1 rfl) ?_
                          refine lv_iconst (v := 4) hx hb dX12_goesOn_164 (by decide) ?_
                          refine x_calliW (va_runV (As := [.int 4]) (rest := []) ⟨hx, hb, hml, hown, hts⟩ (q_isOn l D y H.size ad zw (sI (tI (sI (sI (sI σ 32 op) 2 n_6) 29 cd2) 27 fc2) 31 ws2) 4 (show 0 ≤ (ws2).toInt from by first | omega | decide) (show (ws2).toInt ≤ 800 from by first | omega | decide)) (cwV 1 hts g_q_goesOn_6 rfl rfl rfl (by decide +kernel) ⟨Nat.le_of_ble_eq_true rfl, Nat.le_of_ble_eq_true rfl⟩) (x_preV (q := (RX12, TX12, 85)) hK hP hD (ci := 11) (q0 := 0) rfl mwd_o0) rfl rfl hl.1 rfl (lv_room (Nat.le_of_ble_eq_true rfl)) dX12_goesOn_165 ⟨Nat.le_of_ble_eq_true rfl, Nat.le_of_ble_eq_true rfl⟩) hP hD hS hA (fun r_214 u H locs hw hP hD hS => ?_)
                          try dsimp only at hw
                          have hP : va_P D vwCl (mwd y ad zw (sI (tI (sI (sI (sI σ 32 op) 2 n_6) 29 cd2) 27 fc2) 31 ws2)) H := hP
                          have hD : va_D A (mwd y ad zw (sI (tI (sI (sI (sI σ 32 op) 2 n_6) 29 cd2) 27 fc2) 31 ws2)) := hD
                          replace hw : (r_214.toInt = 0 ∧ ((ws2).toInt ≤ 0 ∨ (((σ.2.2.1 30)) ((ws2).toInt.toNat - 1)).toInt ≠ (4 : Int32).toInt)) ∨ (r_214.toInt = 1 ∧ 1 ≤ (ws2).toInt ∧ (((σ.2.2.1 30)) ((ws2).toInt.toNat - 1)).toInt = (4 : Int32).toInt) := hw
                          rcases hw with ⟨hi1, hi2⟩ | ⟨hi1, hi2, hi3⟩
                          · clear hi2
                            refine lv_if_eq (tgt := 178) hx hb dX12_goesOn_168 (by decide) (fun c_215 => ?_) (fun c_215 => ?_)
                            · have kc_215 : r_214.toInt = 0 := by have h9 := c_215; simp only [ge_iff_le, gt_iff_lt, x_lt, x_le, x_eq, ne_eq, Int32.not_lt, Int32.not_le] at h9; simp only [Int32.reduceToInt] at h9; omega
                              refine lv_aload_n hx hb dX12_goesOn_178 rfl (lv_at hl 1 rfl) ?_
                              refine va_get (D := D) (ci := 11) (v := .ref (ad 30)) (C := RX12) (T := TX12) (N := 85) hx hb hts inX12 hown hK hP 0 mwd_o0 rfl 30 (by decide) fl75 (fun _ h9 => h9) rfl dX12_goesOn_179 ?_
                              refine lv_aload_n hx hb dX12_goesOn_182 rfl (lv_at hl 1 rfl) ?_
                              refine va_get (D := D) (ci := 11) (v := .int ws2) (C := RX12) (T := TX12) (N := 85) hx hb hts inX12 hown hK hP 0 mwd_o0 rfl 31 (by decide) fl263 (fun _ h9 => h9) rfl dX12_goesOn_183 ?_
                              refine lv_iload_n hx hb dX12_goesOn_186 rfl (lv_at hl 0 rfl) ?_
                              refine va_iast hx hb hK hP hD hS 21 2 mwd_a21 rfl (x_in (by omega) (by omega)) dX12_goesOn_187 (fun H locs hP hD hS => ?_)
                              obtain ⟨f_216, ef_216⟩ : ∃ z9 : Nat → Int32, z9 = (upd (σ.2.2.1 30) (Int32.toNatClampNeg ws2) o1) := ⟨_, rfl⟩
                              have hP : va_P D vwCl (mwd y ad zw (tI (sI (tI (sI (sI (sI σ 32 op) 2 n_6) 29 cd2) 27 fc2) 31 ws2) 30 f_216)) H := by rw [ef_216]; exact x_trP hP mwd_s21
                              have hD : va_D A (mwd y ad zw (tI (sI (tI (sI (sI (sI σ 32 op) 2 n_6) 29 cd2) 27 fc2) 31 ws2) 30 f_216)) := by rw [ef_216]; exact x_trD hD mwd_s21
                              rw [x_cl (n := ws2.toInt.toNat) (by omega)] at ef_216
                              refine lv_aload_n hx hb dX12_goesOn_188 rfl (lv_at hl 1 rfl) ?_
                              refine lv_dup hx hb dX12_goesOn_189 rfl ?_
                              refine va_get (D := D) (ci := 11) (v := .int ws2) (C := RX12) (T := TX12) (N := 85) hx hb hts inX12 hown hK hP 0 mwd_o0 rfl 31 (by decide) fl263 (fun _ h9 => h9) rfl dX12_goesOn_190 ?_
                              refine lv_iconst (v := 1) hx hb dX12_goesOn_193 (by decide) ?_
                              refine lv_iadd hx hb dX12_goesOn_194 ?_
                              refine lv_topi (fun i_217 ei_217 => ?_)
                              have vi_217 : i_217.toInt = ws2.toInt + 1 := by have h9 := x_add ei_217 (by omega) (by omega); omega
                              refine va_put (D := D) (ci := 11) (v := .int i_217) (ty := .int) (C := RX12) (T := TX12) (N := 85) hx hb hts inX12 tyX12 tyX12_ok nmX12 hown hK hP hD hS 0 mwd_o0 rfl 31 (by decide) fl263 (fun _ h9 => h9) rfl (by decide +kernel) rfl rfl (Nat.le_of_ble_eq_true rfl) dX12_goesOn_195 (fun H locs hP hD hS => ?_)
                              have hP : va_P D vwCl (mwd y ad zw (sI (tI (sI (tI (sI (sI (sI σ 32 op) 2 n_6) 29 cd2) 27 fc2) 31 ws2) 30 f_216) 31 i_217)) H := x_trP hP mwd_p0_31
                              have hD : va_D A (mwd y ad zw (sI (tI (sI (tI (sI (sI (sI σ 32 op) 2 n_6) 29 cd2) 27 fc2) 31 ws2) 30 f_216) 31 i_217)) := x_trD hD mwd_p0_31
                              refine lv_iconst (v := 1) hx hb dX12_goesOn_198 (by decide) ?_
                              have hP : va_P D vwCl (mwd y ad zw (sI (tI (sI (tI (sI (sI (sI (sI σ 2 n_6) 5 (σ.1 5)) 6 (σ.1 6)) 29 cd2) 27 fc2) 32 op) 30 f_216) 31 i_217)) H := hP
                              have hD : va_D A (mwd y ad zw (sI (tI (sI (tI (sI (sI (sI (sI σ 2 n_6) 5 (σ.1 5)) 6 (σ.1 6)) 29 cd2) 27 fc2) 32 op) 30 f_216) 31 i_217)) := hD
                              exact x_zretW (v := 1) (u := (n_6, (σ.1 5), (σ.1 6), cd2, fc2, op, f_216, i_217)) hx hb hr hQ rfl (by (try dsimp only); exact ⟨by omega, by omega, by omega, by omega, by omega, by omega, by omega, by omega, fun h9 => ⟨fun _ => ⟨by omega, by rw [ef_216, show i_217.toInt.toNat = ws2.toInt.toNat + 1 by omega]; exact ES_op hE2 ⟨by first | omega | decide, by first | omega | decide⟩⟩, fun h8 => absurd h8 (by omega)⟩⟩) hP hD hK hS dX12_goesOn_199 hlocks
                            · have kc_215 : r_214.toInt ≠ 0 := by have h9 := c_215; simp only [ge_iff_le, gt_iff_lt, x_lt, x_le, x_eq, ne_eq, Int32.not_lt, Int32.not_le] at h9; simp only [Int32.reduceToInt] at h9; omega
                              exfalso
                              omega
                          · have hbn := ES_on hE2 hlo (by omega) (by omega)
                            refine lv_if_eq (tgt := 178) hx hb dX12_goesOn_168 (by decide) (fun c_218 => ?_) (fun c_218 => ?_)
                            · have kc_218 : r_214.toInt = 0 := by have h9 := c_218; simp only [ge_iff_le, gt_iff_lt, x_lt, x_le, x_eq, ne_eq, Int32.not_lt, Int32.not_le] at h9; simp only [Int32.reduceToInt] at h9; omega
                              exfalso
                              omega
                            · have kc_218 : r_214.toInt ≠ 0 := by have h9 := c_218; simp only [ge_iff_le, gt_iff_lt, x_lt, x_le, x_eq, ne_eq, Int32.not_lt, Int32.not_le] at h9; simp only [Int32.reduceToInt] at h9; omega
                              refine lv_aload_n hx hb dX12_goesOn_171 rfl (lv_at hl 1 rfl) ?_
                              refine x_callvW (va_runV (As := []) (rest := []) ⟨hx, hb, hml, hown, hts⟩ (q_drops l D y H.size ad zw (sI (tI (sI (sI (sI σ 32 op) 2 n_6) 29 cd2) 27 fc2) 31 ws2) (show 1 ≤ (ws2).toInt from by first | omega | decide) (show (ws2).toInt ≤ 800 from by first | omega | decide) (show 0 ≤ (cd2).toInt from by first | omega | decide) (show (cd2).toInt < 1200 from by first | omega | decide)) (cwV 0 hts g_q_goesOn_7 rfl rfl rfl (by decide +kernel) ⟨Nat.le_of_ble_eq_true rfl, Nat.le_of_ble_eq_true rfl⟩) (x_preV (q := (RX12, TX12, 85)) hK hP hD (ci := 11) (q0 := 0) rfl mwd_o0) rfl rfl hl.1 rfl (lv_room (Nat.le_of_ble_eq_true rfl)) dX12_goesOn_172 ⟨Nat.le_of_ble_eq_true rfl, Nat.le_of_ble_eq_true rfl⟩) hP hD hS hA (fun u H locs hw hP hD hS => ?_)
                              obtain ⟨n_219, n_220, f_221⟩ := u
                              try dsimp only at hw
                              have hP : va_P D vwCl (mwd y ad zw (tI (sI (sI (sI (tI (sI (sI (sI σ 32 op) 2 n_6) 29 cd2) 27 fc2) 31 ws2) 31 n_219) 29 n_220) 27 f_221)) H := hP
                              have hD : va_D A (mwd y ad zw (tI (sI (sI (sI (tI (sI (sI (sI σ 32 op) 2 n_6) 29 cd2) 27 fc2) 31 ws2) 31 n_219) 29 n_220) 27 f_221)) := hD
                              replace hw : n_219.toInt = (ws2).toInt - 1 ∧ n_220.toInt = (cd2).toInt + 1 ∧ f_221 = upd (fc2) (cd2).toInt.toNat (((σ.2.2.1 30)) ((ws2).toInt.toNat - 1)) := hw
                              refine lv_goto (tgt := 155) hx hb dX12_goesOn_175 (by decide) ?_
                              have hP : va_P D vwCl (mwd y ad zw (sI (tI (sI (sI (sI σ 32 op) 2 n_6) 29 n_220) 27 f_221) 31 n_219)) H := hP
                              have hD : va_D A (mwd y ad zw (sI (tI (sI (sI (sI σ 32 op) 2 n_6) 29 n_220) 27 f_221) 31 n_219)) := hD
                              exact ih_loop2 o1 n_220 f_221 n_219 H locs ls (by omega) (by omega) (by omega) (by omega) (by omega) (by obtain ⟨h7, h6, h5⟩ := hw; rw [h5, show n_220.toInt.toNat = cd2.toInt.toNat + 1 by omega, show n_219.toInt.toNat = ws2.toInt.toNat - 1 by omega]; exact ES_drop hE2 hbn (by omega) (by omega)) (by omega) hP hD hS (lv_sub hl [0, 1] rfl)
                      · have hbn := ES_on hE2 hlo (by omega) (by omega)
                        refine lv_if_ne (tgt := 171) hx hb dX12_goesOn_160 (by decide) (fun c_222 => ?_) (fun c_222 => ?_)
                        · have kc_222 : r_212.toInt ≠ 0 := by have h9 := c_222; simp only [ge_iff_le, gt_iff_lt, x_lt, x_le, x_eq, ne_eq, Int32.not_lt, Int32.not_le] at h9; simp only [Int32.reduceToInt] at h9; omega
                          refine lv_aload_n hx hb dX12_goesOn_171 rfl (lv_at hl 1 rfl) ?_
                          refine x_callvW (va_runV (As := []) (rest := []) ⟨hx, hb, hml, hown, hts⟩ (q_drops l D y H.size ad zw (sI (tI (sI (sI (sI σ 32 op) 2 n_6) 29 cd2) 27 fc2) 31 ws2) (show 1 ≤ (ws2).toInt from by first | omega | decide) (show (ws2).toInt ≤ 800 from by first | omega | decide) (show 0 ≤ (cd2).toInt from by first | omega | decide) (show (cd2).toInt < 1200 from by first | omega | decide)) (cwV 0 hts g_q_goesOn_7 rfl rfl rfl (by decide +kernel) ⟨Nat.le_of_ble_eq_true rfl, Nat.le_of_ble_eq_true rfl⟩) (x_preV (q := (RX12, TX12, 85)) hK hP hD (ci := 11) (q0 := 0) rfl mwd_o0) rfl rfl hl.1 rfl (lv_room (Nat.le_of_ble_eq_true rfl)) dX12_goesOn_172 ⟨Nat.le_of_ble_eq_true rfl, Nat.le_of_ble_eq_true rfl⟩) hP hD hS hA (fun u H locs hw hP hD hS => ?_)
                          obtain ⟨n_223, n_224, f_225⟩ := u
                          try dsimp only at hw
                          have hP : va_P D vwCl (mwd y ad zw (tI (sI (sI (sI (tI (sI (sI (sI σ 32 op) 2 n_6) 29 cd2) 27 fc2) 31 ws2) 31 n_223) 29 n_224) 27 f_225)) H := hP
                          have hD : va_D A (mwd y ad zw (tI (sI (sI (sI (tI (sI (sI (sI σ 32 op) 2 n_6) 29 cd2) 27 fc2) 31 ws2) 31 n_223) 29 n_224) 27 f_225)) := hD
                          replace hw : n_223.toInt = (ws2).toInt - 1 ∧ n_224.toInt = (cd2).toInt + 1 ∧ f_225 = upd (fc2) (cd2).toInt.toNat (((σ.2.2.1 30)) ((ws2).toInt.toNat - 1)) := hw
                          refine lv_goto (tgt := 155) hx hb dX12_goesOn_175 (by decide) ?_
                          have hP : va_P D vwCl (mwd y ad zw (sI (tI (sI (sI (sI σ 32 op) 2 n_6) 29 n_224) 27 f_225) 31 n_223)) H := hP
                          have hD : va_D A (mwd y ad zw (sI (tI (sI (sI (sI σ 32 op) 2 n_6) 29 n_224) 27 f_225) 31 n_223)) := hD
                          exact ih_loop2 o1 n_224 f_225 n_223 H locs ls (by omega) (by omega) (by omega) (by omega) (by omega) (by obtain ⟨h7, h6, h5⟩ := hw; rw [h5, show n_224.toInt.toNat = cd2.toInt.toNat + 1 by omega, show n_223.toInt.toNat = ws2.toInt.toNat - 1 by omega]; exact ES_drop hE2 hbn (by omega) (by omega)) (by omega) hP hD hS (lv_sub hl [0, 1] rfl)
                        · have kc_222 : r_212.toInt = 0 := by have h9 := c_222; simp only [ge_iff_le, gt_iff_lt, x_lt, x_le, x_eq, ne_eq, Int32.not_lt, Int32.not_le] at h9; simp only [Int32.reduceToInt] at h9; omega
                          exfalso
                          omega
                  exact loop2 801 3 cd fc ws H locs ls (by decide) (by decide) (by omega) (by omega) (by omega) hE (by omega) hP hD hS (lv_sub hl [0, 1] rfl)
              · have kc_194 : r_5.toInt = 0 := by have h9 := c_194; simp only [ge_iff_le, gt_iff_lt, x_lt, x_le, x_eq, ne_eq, Int32.not_lt, Int32.not_le] at h9; simp only [Int32.reduceToInt] at h9; omega
                exfalso
                omega
          · have kc_4 : r_2.toInt ≠ 0 := by have h9 := c_4; simp only [ge_iff_le, gt_iff_lt, x_lt, x_le, x_eq, ne_eq, Int32.not_lt, Int32.not_le] at h9; simp only [Int32.reduceToInt] at h9; omega
            exfalso
            omega
        · skip
          refine lv_if_eq (tgt := 115) hx hb dX12_goesOn_11 (by decide) (fun c_226 => ?_) (fun c_226 => ?_)
          · have kc_226 : r_2.toInt = 0 := by have h9 := c_226; simp only [ge_iff_le, gt_iff_lt, x_lt, x_le, x_eq, ne_eq, Int32.not_lt, Int32.not_le] at h9; simp only [Int32.reduceToInt] at h9; omega
            exfalso
            omega
          · have kc_226 : r_2.toInt ≠ 0 := by have h9 := c_226; simp only [ge_iff_le, gt_iff_lt, x_lt, x_le, x_eq, ne_eq, Int32.not_lt, Int32.not_le] at h9; simp only [Int32.reduceToInt] at h9; omega
            refine lv_aload_n hx hb dX12_goesOn_14 rfl (lv_at hl 0 rfl) ?_
            refine lv_dup hx hb dX12_goesOn_15 rfl ?_
            refine va_get (D := D) (ci := 11) (v := .int n_3) (C := RX12) (T := TX12) (N := 85) hx hb hts inX12 hown hK hP 0 mwd_o0 rfl 2 (by decide) fl197 (fun _ h9 => h9) rfl dX12_goesOn_16 ?_
            refine lv_iconst (v := 1) hx hb dX12_goesOn_19 (by decide) ?_
            refine lv_iadd hx hb dX12_goesOn_20 ?_
            refine lv_topi (fun i_227 ei_227 => ?_)
            have vi_227 : i_227.toInt = n_3.toInt + 1 := by have h9 := x_add ei_227 (by omega) (by omega); omega
            refine va_put (D := D) (ci := 11) (v := .int i_227) (ty := .int) (C := RX12) (T := TX12) (N := 85) hx hb hts inX12 tyX12 tyX12_ok nmX12 hown hK hP hD hS 0 mwd_o0 rfl 2 (by decide) fl197 (fun _ h9 => h9) rfl (by decide +kernel) rfl rfl (Nat.le_of_ble_eq_true rfl) dX12_goesOn_21 (fun H locs hP hD hS => ?_)
            have hP : va_P D vwCl (mwd y ad zw (sI (sI (sI (sI (tI (sI (sI σ 2 a) 29 cd) 27 fc) 32 op) 31 ws) 2 n_3) 2 i_227)) H := x_trP hP mwd_p0_2
            have hD : va_D A (mwd y ad zw (sI (sI (sI (sI (tI (sI (sI σ 2 a) 29 cd) 27 fc) 32 op) 31 ws) 2 n_3) 2 i_227)) := x_trD hD mwd_p0_2
            refine lv_aload_n hx hb dX12_goesOn_24 rfl (lv_at hl 0 rfl) ?_
            refine x_callvW (va_runV (As := []) (rest := []) ⟨hx, hb, hml, hown, hts⟩ (q_dropsToMark l D y H.size ad zw (sI (sI (sI (sI (tI (sI (sI σ 2 a) 29 cd) 27 fc) 32 op) 31 ws) 2 n_3) 2 i_227) f0 w0 c0 b X o0 hbs (show 0 ≤ (ws).toInt from by first | omega | decide) (show (ws).toInt ≤ 800 from by first | omega | decide) (show 0 ≤ (cd).toInt from by first | omega | decide) (show (cd).toInt + (ws).toInt < 1200 from by first | omega | decide) hX1 hE) (cwV 0 hts g_q_goesOn_4 rfl rfl rfl (by decide +kernel) ⟨Nat.le_of_ble_eq_true rfl, Nat.le_of_ble_eq_true rfl⟩) (x_preV (q := (RX12, TX12, 85)) hK hP hD (ci := 11) (q0 := 0) rfl mwd_o0) rfl rfl hl.1 rfl (lv_room (Nat.le_of_ble_eq_true rfl)) dX12_goesOn_25 ⟨Nat.le_of_ble_eq_true rfl, Nat.le_of_ble_eq_true rfl⟩) hP hD hS hA (fun u H locs hw hP hD hS => ?_)
            obtain ⟨n_228, n_229, f_230⟩ := u
            try dsimp only at hw
            have hP : va_P D vwCl (mwd y ad zw (tI (sI (sI (sI (sI (sI (sI (tI (sI (sI σ 2 a) 29 cd) 27 fc) 32 op) 31 ws) 2 n_3) 2 i_227) 31 n_228) 29 n_229) 27 f_230)) H := hP
            have hD : va_D A (mwd y ad zw (tI (sI (sI (sI (sI (sI (sI (tI (sI (sI σ 2 a) 29 cd) 27 fc) 32 op) 31 ws) 2 n_3) 2 i_227) 31 n_228) 29 n_229) 27 f_230)) := hD
            replace hw : ES f0 f_230 w0 ((σ.2.2.1 30)) c0 n_229.toInt.toNat b n_228.toInt.toNat 1 X (op).toInt o0 ∧ n_229.toInt + n_228.toInt = (cd).toInt + (ws).toInt ∧ n_228.toInt ≤ (ws).toInt ∧ (cd).toInt ≤ n_229.toInt ∧ (b : Int) ≤ n_228.toInt ∧ (n_228.toInt = (b : Int) ∨ (20 ≤ (((σ.2.2.1 30)) (n_228.toInt.toNat - 1)).toInt ∧ (((σ.2.2.1 30)) (n_228.toInt.toNat - 1)).toInt < 30)) ∧ ∀ j : Nat, n_228.toInt ≤ (j : Int) → (j : Int) < (ws).toInt → ¬ (20 ≤ (((σ.2.2.1 30)) j).toInt ∧ (((σ.2.2.1 30)) j).toInt < 30) := hw
            obtain ⟨hd1, hd2, hd3, hd4, hd5, hd6, hd7⟩ := hw
            obtain ⟨hm1, hm2⟩ := MK_top hw5 (by omega) (n' := n_228.toInt.toNat) (by omega) (by omega) (by rcases hd6 with h9 | h9 <;> first | exact Or.inl (by omega) | exact Or.inr h9) (fun j h1 h2 => hd7 j (by omega) (by omega))
            have hq9 : 20 ≤ q9 ∧ q9 < 30 := by rcases hw5 with ⟨h9, _⟩ | ⟨k9, h91, h92, h93, h94, h95, h96⟩ <;> first | exact ⟨h94, h95⟩ | exact absurd h9 (by omega)
            have hopn : 1 ≤ op.toInt := by have h9 := es_pop (n := n_228.toInt.toNat) (by omega) (by omega) hd1.2.2.2.2 rfl; omega
            clear hd6 hd7
            refine lv_aload_n hx hb dX12_goesOn_28 rfl (lv_at hl 0 rfl) ?_
            refine lv_dup hx hb dX12_goesOn_29 rfl ?_
            refine va_get (D := D) (ci := 11) (v := .int n_228) (C := RX12) (T := TX12) (N := 85) hx hb hts inX12 hown hK hP 0 mwd_o0 rfl 31 (by decide) fl263 (fun _ h9 => h9) rfl dX12_goesOn_30 ?_
            refine lv_iconst (v := 1) hx hb dX12_goesOn_33 (by decide) ?_
            refine lv_isub hx hb dX12_goesOn_34 ?_
            refine lv_topi (fun i_231 ei_231 => ?_)
            have vi_231 : i_231.toInt = n_228.toInt - 1 := by have h9 := x_sub ei_231 (by omega) (by omega); omega
            refine va_put (D := D) (ci := 11) (v := .int i_231) (ty := .int) (C := RX12) (T := TX12) (N := 85) hx hb hts inX12 tyX12 tyX12_ok nmX12 hown hK hP hD hS 0 mwd_o0 rfl 31 (by decide) fl263 (fun _ h9 => h9) rfl (by decide +kernel) rfl rfl (Nat.le_of_ble_eq_true rfl) dX12_goesOn_35 (fun H locs hP hD hS => ?_)
            have hP : va_P D vwCl (mwd y ad zw (sI (tI (sI (sI (sI (sI (sI (sI (tI (sI (sI σ 2 a) 29 cd) 27 fc) 32 op) 31 ws) 2 n_3) 2 i_227) 31 n_228) 29 n_229) 27 f_230) 31 i_231)) H := x_trP hP mwd_p0_31
            have hD : va_D A (mwd y ad zw (sI (tI (sI (sI (sI (sI (sI (sI (tI (sI (sI σ 2 a) 29 cd) 27 fc) 32 op) 31 ws) 2 n_3) 2 i_227) 31 n_228) 29 n_229) 27 f_230) 31 i_231)) := x_trD hD mwd_p0_31
            refine lv_aload_n hx hb dX12_goesOn_38 rfl (lv_at hl 0 rfl) ?_
            refine lv_dup hx hb dX12_goesOn_39 rfl ?_
            refine va_get (D := D) (ci := 11) (v := .int op) (C := RX12) (T := TX12) (N := 85) hx hb hts inX12 hown hK hP 0 mwd_o0 rfl 32 (by decide) fl260 (fun _ h9 => h9) rfl dX12_goesOn_40 ?_
            refine lv_iconst (v := 1) hx hb dX12_goesOn_43 (by decide) ?_
            refine lv_isub hx hb dX12_goesOn_44 ?_
            refine lv_topi (fun i_232 ei_232 => ?_)
            have vi_232 : i_232.toInt = op.toInt - 1 := by have h9 := x_sub ei_232 (by omega) (by omega); omega
            refine va_put (D := D) (ci := 11) (v := .int i_232) (ty := .int) (C := RX12) (T := TX12) (N := 85) hx hb hts inX12 tyX12 tyX12_ok nmX12 hown hK hP hD hS 0 mwd_o0 rfl 32 (by decide) fl260 (fun _ h9 => h9) rfl (by decide +kernel) rfl rfl (Nat.le_of_ble_eq_true rfl) dX12_goesOn_45 (fun H locs hP hD hS => ?_)
            have hP : va_P D vwCl (mwd y ad zw (sI (sI (tI (sI (sI (sI (sI (sI (sI (tI (sI (sI σ 2 a) 29 cd) 27 fc) 32 op) 31 ws) 2 n_3) 2 i_227) 31 n_228) 29 n_229) 27 f_230) 31 i_231) 32 i_232)) H := x_trP hP mwd_p0_32
            have hD : va_D A (mwd y ad zw (sI (sI (tI (sI (sI (sI (sI (sI (sI (tI (sI (sI σ 2 a) 29 cd) 27 fc) 32 op) 31 ws) 2 n_3) 2 i_227) 31 n_228) 29 n_229) 27 f_230) 31 i_231) 32 i_232)) := x_trD hD mwd_p0_32
            refine lv_aload_n hx hb dX12_goesOn_48 rfl (lv_at hl 0 rfl) ?_
            refine va_get (D := D) (ci := 11) (v := .ref (ad 30)) (C := RX12) (T := TX12) (N := 85) hx hb hts inX12 hown hK hP 0 mwd_o0 rfl 30 (by decide) fl75 (fun _ h9 => h9) rfl dX12_goesOn_49 ?_
            refine lv_aload_n hx hb dX12_goesOn_52 rfl (lv_at hl 0 rfl) ?_
            refine va_get (D := D) (ci := 11) (v := .int i_231) (C := RX12) (T := TX12) (N := 85) hx hb hts inX12 hown hK hP 0 mwd_o0 rfl 31 (by decide) fl263 (fun _ h9 => h9) rfl dX12_goesOn_53 ?_
            refine va_iald hx hb hK hP 21 2 mwd_a21 rfl (x_in (by omega) (by omega)) dX12_goesOn_56 ?_
            refine lv_topi (fun i_233 ei_233 => ?_)
            have ei_233 : i_233 = (σ.2.2.1 30) (Int32.toNatClampNeg i_231) := ei_233
            have qi_233 : i_233.toInt = q9 := by rw [ei_233, x_cl (n := n_228.toInt.toNat - 1) (by omega)]; exact hm2
            refine lv_istore_n (lv' := [(1, .int i_233), (0, .ref (ad 1))]) hx hb dX12_goesOn_57 rfl hl (by decide) rfl (fun ls hl => ?_)
            refine lv_iload_n hx hb dX12_goesOn_58 rfl (lv_at hl 0 rfl) ?_
            refine lv_bipush (v := 26) hx hb dX12_goesOn_59 (by decide) ?_
            refine lv_icmp_lt (tgt := 79) hx hb dX12_goesOn_61 (by decide) (fun c_234 => ?_) (fun c_234 => ?_)
            · have kc_234 : i_233.toInt < 26 := by have h9 := c_234; simp only [ge_iff_le, gt_iff_lt, x_lt, x_le, x_eq, ne_eq, Int32.not_lt, Int32.not_le] at h9; simp only [Int32.reduceToInt] at h9; omega
              refine lv_iload_n hx hb dX12_goesOn_79 rfl (lv_at hl 0 rfl) ?_
              refine lv_bipush (v := 20) hx hb dX12_goesOn_80 (by decide) ?_
              refine lv_icmp_eq (tgt := 112) hx hb dX12_goesOn_82 (by decide) (fun c_235 => ?_) (fun c_235 => ?_)
              · have kc_235 : i_233.toInt = 20 := by have h9 := c_235; simp only [ge_iff_le, gt_iff_lt, x_lt, x_le, x_eq, ne_eq, Int32.not_lt, Int32.not_le] at h9; simp only [Int32.reduceToInt] at h9; omega
                have hE9 : ES f0 f_230 w0 (σ.2.2.1 30) c0 n_229.toInt.toNat b i_231.toInt.toNat 1 X i_232.toInt o0 := by rw [show i_231.toInt.toNat = n_228.toInt.toNat - 1 by omega]; exact ES_close hd1 hm1 (by omega) (by omega)
                refine lv_goto (tgt := 0) hx hb dX12_goesOn_112 (by decide) ?_
                have hP : va_P D vwCl (mwd y ad zw (sI (sI (tI (sI (sI σ 2 i_227) 29 n_229) 27 f_230) 32 i_232) 31 i_231)) H := hP
                have hD : va_D A (mwd y ad zw (sI (sI (tI (sI (sI σ 2 i_227) 29 n_229) 27 f_230) 32 i_232) 31 i_231)) := hD
                exact ih_loop i_227 n_229 f_230 i_232 i_231 H locs ls (by omega) (by omega) (by omega) (by omega) (by omega) (by omega) (by omega) hE9 (by omega) hP hD hS (lv_sub hl [1] rfl)
              · have kc_235 : i_233.toInt ≠ 20 := by have h9 := c_235; simp only [ge_iff_le, gt_iff_lt, x_lt, x_le, x_eq, ne_eq, Int32.not_lt, Int32.not_le] at h9; simp only [Int32.reduceToInt] at h9; omega
                refine lv_aload_n hx hb dX12_goesOn_85 rfl (lv_at hl 1 rfl) ?_
                refine lv_iload_n hx hb dX12_goesOn_86 rfl (lv_at hl 0 rfl) ?_
                refine lv_bipush (v := 25) hx hb dX12_goesOn_87 (by decide) ?_
                refine lv_icmp_ne (tgt := 97) hx hb dX12_goesOn_89 (by decide) (fun c_236 => ?_) (fun c_236 => ?_)
                · have kc_236 : i_233.toInt ≠ 25 := by have h9 := c_236; simp only [ge_iff_le, gt_iff_lt, x_lt, x_le, x_eq, ne_eq, Int32.not_lt, Int32.not_le] at h9; simp only [Int32.reduceToInt] at h9; omega
                  refine lv_iload_n hx hb dX12_goesOn_97 rfl (lv_at hl 0 rfl) ?_
                  refine lv_bipush (v := 23) hx hb dX12_goesOn_98 (by decide) ?_
                  refine lv_icmp_ne (tgt := 107) hx hb dX12_goesOn_100 (by decide) (fun c_237 => ?_) (fun c_237 => ?_)
                  · have kc_237 : i_233.toInt ≠ 23 := by have h9 := c_237; simp only [ge_iff_le, gt_iff_lt, x_lt, x_le, x_eq, ne_eq, Int32.not_lt, Int32.not_le] at h9; simp only [Int32.reduceToInt] at h9; omega
                    refine lv_bipush (v := 6) hx hb dX12_goesOn_107 (by decide) ?_
                    refine x_callvW (va_runV (As := [.int 6]) (rest := []) ⟨hx, hb, hml, hown, hts⟩ (q_code l D y H.size ad zw (sI (sI (tI (sI (sI (sI (sI (sI (sI (tI (sI (sI σ 2 a) 29 cd) 27 fc) 32 op) 31 ws) 2 n_3) 2 i_227) 31 n_228) 29 n_229) 27 f_230) 31 i_231) 32 i_232) 6 (show 0 ≤ (n_229).toInt from by first | omega | decide) (show (n_229).toInt < 1200 from by first | omega | decide)) (cwV 1 hts g_q_goesOn_8 rfl rfl rfl (by decide +kernel) ⟨Nat.le_of_ble_eq_true rfl, Nat.le_of_ble_eq_true rfl⟩) (x_preV (q := (RX12, TX12, 85)) hK hP hD (ci := 11) (q0 := 0) rfl mwd_o0) rfl rfl hl.1 rfl (lv_room (Nat.le_of_ble_eq_true rfl)) dX12_goesOn_109 ⟨Nat.le_of_ble_eq_true rfl, Nat.le_of_ble_eq_true rfl⟩) hP hD hS hA (fun u H locs hw hP hD hS => ?_)
                    obtain ⟨n_238, f_239⟩ := u
                    try dsimp only at hw
                    have hP : va_P D vwCl (mwd y ad zw (tI (sI (sI (sI (tI (sI (sI (sI (sI (sI (sI (tI (sI (sI σ 2 a) 29 cd) 27 fc) 32 op) 31 ws) 2 n_3) 2 i_227) 31 n_228) 29 n_229) 27 f_230) 31 i_231) 32 i_232) 29 n_238) 27 f_239)) H := hP
                    have hD : va_D A (mwd y ad zw (tI (sI (sI (sI (tI (sI (sI (sI (sI (sI (sI (tI (sI (sI σ 2 a) 29 cd) 27 fc) 32 op) 31 ws) 2 n_3) 2 i_227) 31 n_228) 29 n_229) 27 f_230) 31 i_231) 32 i_232) 29 n_238) 27 f_239)) := hD
                    replace hw : n_238.toInt = (n_229).toInt + 1 ∧ f_239 = upd (f_230) (n_229).toInt.toNat (6 : Int32) := hw
                    obtain ⟨hcd1, hcd2⟩ := hw
                    have hE9 : ES f0 f_239 w0 (σ.2.2.1 30) c0 n_238.toInt.toNat b i_231.toInt.toNat 1 X i_232.toInt o0 := by rw [hcd2, show n_238.toInt.toNat = n_229.toInt.toNat + 1 by omega, show i_231.toInt.toNat = n_228.toInt.toNat - 1 by omega]; exact ES_closeB hd1 hm1 (by omega) ⟨by decide, by decide⟩ hX1 (by omega)
                    refine lv_goto (tgt := 0) hx hb dX12_goesOn_112 (by decide) ?_
                    have hP : va_P D vwCl (mwd y ad zw (sI (sI (tI (sI (sI σ 2 i_227) 29 n_238) 27 f_239) 32 i_232) 31 i_231)) H := hP
                    have hD : va_D A (mwd y ad zw (sI (sI (tI (sI (sI σ 2 i_227) 29 n_238) 27 f_239) 32 i_232) 31 i_231)) := hD
                    exact ih_loop i_227 n_238 f_239 i_232 i_231 H locs ls (by omega) (by omega) (by omega) (by omega) (by omega) (by omega) (by omega) hE9 (by omega) hP hD hS (lv_sub hl [1] rfl)
                  · have kc_237 : i_233.toInt = 23 := by have h9 := c_237; simp only [ge_iff_le, gt_iff_lt, x_lt, x_le, x_eq, ne_eq, Int32.not_lt, Int32.not_le] at h9; simp only [Int32.reduceToInt] at h9; omega
                    refine lv_iconst (v := 5) hx hb dX12_goesOn_103 (by decide) ?_
                    refine lv_goto (tgt := 109) hx hb dX12_goesOn_104 (by decide) ?_
                    refine x_callvW (va_runV (As := [.int 5]) (rest := []) ⟨hx, hb, hml, hown, hts⟩ (q_code l D y H.size ad zw (sI (sI (tI (sI (sI (sI (sI (sI (sI (tI (sI (sI σ 2 a) 29 cd) 27 fc) 32 op) 31 ws) 2 n_3) 2 i_227) 31 n_228) 29 n_229) 27 f_230) 31 i_231) 32 i_232) 5 (show 0 ≤ (n_229).toInt from by first | omega | decide) (show (n_229).toInt < 1200 from by first | omega | decide)) (cwV 1 hts g_q_goesOn_8 rfl rfl rfl (by decide +kernel) ⟨Nat.le_of_ble_eq_true rfl, Nat.le_of_ble_eq_true rfl⟩) (x_preV (q := (RX12, TX12, 85)) hK hP hD (ci := 11) (q0 := 0) rfl mwd_o0) rfl rfl hl.1 rfl (lv_room (Nat.le_of_ble_eq_true rfl)) dX12_goesOn_109 ⟨Nat.le_of_ble_eq_true rfl, Nat.le_of_ble_eq_true rfl⟩) hP hD hS hA (fun u H locs hw hP hD hS => ?_)
                    obtain ⟨n_240, f_241⟩ := u
                    try dsimp only at hw
                    have hP : va_P D vwCl (mwd y ad zw (tI (sI (sI (sI (tI (sI (sI (sI (sI (sI (sI (tI (sI (sI σ 2 a) 29 cd) 27 fc) 32 op) 31 ws) 2 n_3) 2 i_227) 31 n_228) 29 n_229) 27 f_230) 31 i_231) 32 i_232) 29 n_240) 27 f_241)) H := hP
                    have hD : va_D A (mwd y ad zw (tI (sI (sI (sI (tI (sI (sI (sI (sI (sI (sI (tI (sI (sI σ 2 a) 29 cd) 27 fc) 32 op) 31 ws) 2 n_3) 2 i_227) 31 n_228) 29 n_229) 27 f_230) 31 i_231) 32 i_232) 29 n_240) 27 f_241)) := hD
                    replace hw : n_240.toInt = (n_229).toInt + 1 ∧ f_241 = upd (f_230) (n_229).toInt.toNat (5 : Int32) := hw
                    obtain ⟨hcd1, hcd2⟩ := hw
                    have hE9 : ES f0 f_241 w0 (σ.2.2.1 30) c0 n_240.toInt.toNat b i_231.toInt.toNat 1 X i_232.toInt o0 := by rw [hcd2, show n_240.toInt.toNat = n_229.toInt.toNat + 1 by omega, show i_231.toInt.toNat = n_228.toInt.toNat - 1 by omega]; exact ES_closeB hd1 hm1 (by omega) ⟨by decide, by decide⟩ hX1 (by omega)
                    refine lv_goto (tgt := 0) hx hb dX12_goesOn_112 (by decide) ?_
                    have hP : va_P D vwCl (mwd y ad zw (sI (sI (tI (sI (sI σ 2 i_227) 29 n_240) 27 f_241) 32 i_232) 31 i_231)) H := hP
                    have hD : va_D A (mwd y ad zw (sI (sI (tI (sI (sI σ 2 i_227) 29 n_240) 27 f_241) 32 i_232) 31 i_231)) := hD
                    exact ih_loop i_227 n_240 f_241 i_232 i_231 H locs ls (by omega) (by omega) (by omega) (by omega) (by omega) (by omega) (by omega) hE9 (by omega) hP hD hS (lv_sub hl [1] rfl)
                · have kc_236 : i_233.toInt = 25 := by have h9 := c_236; simp only [ge_iff_le, gt_iff_lt, x_lt, x_le, x_eq, ne_eq, Int32.not_lt, Int32.not_le] at h9; simp only [Int32.reduceToInt] at h9; omega
                  refine lv_bipush (v := 7) hx hb dX12_goesOn_92 (by decide) ?_
                  refine lv_goto (tgt := 109) hx hb dX12_goesOn_94 (by decide) ?_
                  refine x_callvW (va_runV (As := [.int 7]) (rest := []) ⟨hx, hb, hml, hown, hts⟩ (q_code l D y H.size ad zw (sI (sI (tI (sI (sI (sI (sI (sI (sI (tI (sI (sI σ 2 a) 29 cd) 27 fc) 32 op) 31 ws) 2 n_3) 2 i_227) 31 n_228) 29 n_229) 27 f_230) 31 i_231) 32 i_232) 7 (show 0 ≤ (n_229).toInt from by first | omega | decide) (show (n_229).toInt < 1200 from by first | omega | decide)) (cwV 1 hts g_q_goesOn_8 rfl rfl rfl (by decide +kernel) ⟨Nat.le_of_ble_eq_true rfl, Nat.le_of_ble_eq_true rfl⟩) (x_preV (q := (RX12, TX12, 85)) hK hP hD (ci := 11) (q0 := 0) rfl mwd_o0) rfl rfl hl.1 rfl (lv_room (Nat.le_of_ble_eq_true rfl)) dX12_goesOn_109 ⟨Nat.le_of_ble_eq_true rfl, Nat.le_of_ble_eq_true rfl⟩) hP hD hS hA (fun u H locs hw hP hD hS => ?_)
                  obtain ⟨n_242, f_243⟩ := u
                  try dsimp only at hw
                  have hP : va_P D vwCl (mwd y ad zw (tI (sI (sI (sI (tI (sI (sI (sI (sI (sI (sI (tI (sI (sI σ 2 a) 29 cd) 27 fc) 32 op) 31 ws) 2 n_3) 2 i_227) 31 n_228) 29 n_229) 27 f_230) 31 i_231) 32 i_232) 29 n_242) 27 f_243)) H := hP
                  have hD : va_D A (mwd y ad zw (tI (sI (sI (sI (tI (sI (sI (sI (sI (sI (sI (tI (sI (sI σ 2 a) 29 cd) 27 fc) 32 op) 31 ws) 2 n_3) 2 i_227) 31 n_228) 29 n_229) 27 f_230) 31 i_231) 32 i_232) 29 n_242) 27 f_243)) := hD
                  replace hw : n_242.toInt = (n_229).toInt + 1 ∧ f_243 = upd (f_230) (n_229).toInt.toNat (7 : Int32) := hw
                  obtain ⟨hcd1, hcd2⟩ := hw
                  have hE9 : ES f0 f_243 w0 (σ.2.2.1 30) c0 n_242.toInt.toNat b i_231.toInt.toNat 1 X i_232.toInt o0 := by rw [hcd2, show n_242.toInt.toNat = n_229.toInt.toNat + 1 by omega, show i_231.toInt.toNat = n_228.toInt.toNat - 1 by omega]; exact ES_closeU hd1 hm1 ⟨by omega, by omega⟩ (Or.inr (by decide)) hX1 (by omega)
                  refine lv_goto (tgt := 0) hx hb dX12_goesOn_112 (by decide) ?_
                  have hP : va_P D vwCl (mwd y ad zw (sI (sI (tI (sI (sI σ 2 i_227) 29 n_242) 27 f_243) 32 i_232) 31 i_231)) H := hP
                  have hD : va_D A (mwd y ad zw (sI (sI (tI (sI (sI σ 2 i_227) 29 n_242) 27 f_243) 32 i_232) 31 i_231)) := hD
                  exact ih_loop i_227 n_242 f_243 i_232 i_231 H locs ls (by omega) (by omega) (by omega) (by omega) (by omega) (by omega) (by omega) hE9 (by omega) hP hD hS (lv_sub hl [1] rfl)
            · have kc_234 : i_233.toInt ≥ 26 := by have h9 := c_234; simp only [ge_iff_le, gt_iff_lt, x_lt, x_le, x_eq, ne_eq, Int32.not_lt, Int32.not_le] at h9; simp only [Int32.reduceToInt] at h9; omega
              refine lv_aload_n hx hb dX12_goesOn_64 rfl (lv_at hl 1 rfl) ?_
              refine lv_sipush (v := 200) hx hb dX12_goesOn_65 (by decide) ?_
              refine lv_iload_n hx hb dX12_goesOn_68 rfl (lv_at hl 0 rfl) ?_
              refine lv_iadd hx hb dX12_goesOn_69 ?_
              refine lv_topi (fun i_244 ei_244 => ?_)
              have vi_244 : i_244.toInt = 200 + i_233.toInt := by have h9 := x_add ei_244 (by omega) (by omega); omega
              refine lv_bipush (v := 26) hx hb dX12_goesOn_70 (by decide) ?_
              refine lv_isub hx hb dX12_goesOn_72 ?_
              refine lv_topi (fun i_245 ei_245 => ?_)
              have vi_245 : i_245.toInt = i_244.toInt - 26 := by have h9 := x_sub ei_245 (by omega) (by omega); omega
              refine x_callvW (va_runV (As := [.int i_245]) (rest := []) ⟨hx, hb, hml, hown, hts⟩ (q_code l D y H.size ad zw (sI (sI (tI (sI (sI (sI (sI (sI (sI (tI (sI (sI σ 2 a) 29 cd) 27 fc) 32 op) 31 ws) 2 n_3) 2 i_227) 31 n_228) 29 n_229) 27 f_230) 31 i_231) 32 i_232) i_245 (show 0 ≤ (n_229).toInt from by first | omega | decide) (show (n_229).toInt < 1200 from by first | omega | decide)) (cwV 1 hts g_q_goesOn_8 rfl rfl rfl (by decide +kernel) ⟨Nat.le_of_ble_eq_true rfl, Nat.le_of_ble_eq_true rfl⟩) (x_preV (q := (RX12, TX12, 85)) hK hP hD (ci := 11) (q0 := 0) rfl mwd_o0) rfl rfl hl.1 rfl (lv_room (Nat.le_of_ble_eq_true rfl)) dX12_goesOn_73 ⟨Nat.le_of_ble_eq_true rfl, Nat.le_of_ble_eq_true rfl⟩) hP hD hS hA (fun u H locs hw hP hD hS => ?_)
              obtain ⟨n_246, f_247⟩ := u
              try dsimp only at hw
              have hP : va_P D vwCl (mwd y ad zw (tI (sI (sI (sI (tI (sI (sI (sI (sI (sI (sI (tI (sI (sI σ 2 a) 29 cd) 27 fc) 32 op) 31 ws) 2 n_3) 2 i_227) 31 n_228) 29 n_229) 27 f_230) 31 i_231) 32 i_232) 29 n_246) 27 f_247)) H := hP
              have hD : va_D A (mwd y ad zw (tI (sI (sI (sI (tI (sI (sI (sI (sI (sI (sI (tI (sI (sI σ 2 a) 29 cd) 27 fc) 32 op) 31 ws) 2 n_3) 2 i_227) 31 n_228) 29 n_229) 27 f_230) 31 i_231) 32 i_232) 29 n_246) 27 f_247)) := hD
              replace hw : n_246.toInt = (n_229).toInt + 1 ∧ f_247 = upd (f_230) (n_229).toInt.toNat i_245 := hw
              obtain ⟨hcd1, hcd2⟩ := hw
              have hE9 : ES f0 f_247 w0 (σ.2.2.1 30) c0 n_246.toInt.toNat b i_231.toInt.toNat 1 X i_232.toInt o0 := by rw [hcd2, show n_246.toInt.toNat = n_229.toInt.toNat + 1 by omega, show i_231.toInt.toNat = n_228.toInt.toNat - 1 by omega]; exact ES_closeU hd1 hm1 ⟨by omega, by omega⟩ (Or.inl ⟨by omega, by omega⟩) hX1 (by omega)
              refine lv_goto (tgt := 112) hx hb dX12_goesOn_76 (by decide) ?_
              refine lv_goto (tgt := 0) hx hb dX12_goesOn_112 (by decide) ?_
              have hP : va_P D vwCl (mwd y ad zw (sI (sI (tI (sI (sI σ 2 i_227) 29 n_246) 27 f_247) 32 i_232) 31 i_231)) H := hP
              have hD : va_D A (mwd y ad zw (sI (sI (tI (sI (sI σ 2 i_227) 29 n_246) 27 f_247) 32 i_232) 31 i_231)) := hD
              exact ih_loop i_227 n_246 f_247 i_232 i_231 H locs ls (by omega) (by omega) (by omega) (by omega) (by omega) (by omega) (by omega) hE9 (by omega) hP hD hS (lv_sub hl [1] rfl)
  exact loop 701 (σ.1 2) (σ.1 29) (σ.2.2.1 27) (σ.1 32) (σ.1 31) H locs ls (Int.le_refl _) (by omega) (by omega) (by omega) (by have h9 := hes.1.2.1; omega) (Int.le_refl _) (by omega) hes (by omega) hP hD hS (lv_sub hl [0] rfl)

