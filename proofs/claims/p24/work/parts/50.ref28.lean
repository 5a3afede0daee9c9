/-- a program that can be run -/
def PG (fh fu fm : Nat → Int32) : Prop := 0 ≤ (fh 5).toInt ∧ (fh 5).toInt ≤ 8 ∧ 0 ≤ (fh 9).toInt ∧ (fh 9).toInt ≤ 700 ∧ ∃ (n : Nat) (ty : Nat → Option (List Bool × Bool)), (fm 1).toInt = (n : Int) ∧ n ≤ 700 ∧ WC (fun j => fu (1200 + j)) n (fh 9).toInt ty
theorem PG_congr {fh fh' fu fm : Nat → Int32} (h : PG fh fu fm) (e : ∀ q : Nat, 5 ≤ q → fh' q = fh q) : PG fh' fu fm := by
  unfold PG
  rw [e 5 (by decide), e 9 (by decide)]
  exact h

theorem dX12_reads_0 : decode cX12_reads 0 = .ok (.iconst 1, 1) := by decide +kernel
theorem dX12_reads_1 : decode cX12_reads 1 = .ok (.istore_n 1, 1) := by decide +kernel
theorem dX12_reads_2 : decode cX12_reads 2 = .ok (.iload_n 1, 1) := by decide +kernel
theorem dX12_reads_3 : decode cX12_reads 3 = .ok (.ifCond .eq 68, 3) := by decide +kernel
theorem dX12_reads_6 : decode cX12_reads 6 = .ok (.aload_n 0, 1) := by decide +kernel
theorem dX12_reads_7 : decode cX12_reads 7 = .ok (.getfield 191, 3) := by decide +kernel
theorem dX12_reads_10 : decode cX12_reads 10 = .ok (.ifCond .ne 61, 3) := by decide +kernel
theorem dX12_reads_13 : decode cX12_reads 13 = .ok (.aload_n 0, 1) := by decide +kernel
theorem dX12_reads_14 : decode cX12_reads 14 = .ok (.invokevirtual 203, 3) := by decide +kernel
theorem dX12_reads_17 : decode cX12_reads 17 = .ok (.istore_n 2, 1) := by decide +kernel
theorem dX12_reads_18 : decode cX12_reads 18 = .ok (.aload_n 0, 1) := by decide +kernel
theorem dX12_reads_19 : decode cX12_reads 19 = .ok (.getfield 332, 3) := by decide +kernel
theorem dX12_reads_22 : decode cX12_reads 22 = .ok (.ifCond .le 16, 3) := by decide +kernel
theorem dX12_reads_25 : decode cX12_reads 25 = .ok (.iload_n 2, 1) := by decide +kernel
theorem dX12_reads_26 : decode cX12_reads 26 = .ok (.bipush 125, 2) := by decide +kernel
theorem dX12_reads_28 : decode cX12_reads 28 = .ok (.if_icmp .ne 10, 3) := by decide +kernel
theorem dX12_reads_31 : decode cX12_reads 31 = .ok (.aload_n 0, 1) := by decide +kernel
theorem dX12_reads_32 : decode cX12_reads 32 = .ok (.invokevirtual 353, 3) := by decide +kernel
theorem dX12_reads_35 : decode cX12_reads 35 = .ok (.goto 33, 3) := by decide +kernel
theorem dX12_reads_38 : decode cX12_reads 38 = .ok (.iload_n 2, 1) := by decide +kernel
theorem dX12_reads_39 : decode cX12_reads 39 = .ok (.iconst (-1), 1) := by decide +kernel
theorem dX12_reads_40 : decode cX12_reads 40 = .ok (.if_icmp .eq 10, 3) := by decide +kernel
theorem dX12_reads_43 : decode cX12_reads 43 = .ok (.aload_n 0, 1) := by decide +kernel
theorem dX12_reads_44 : decode cX12_reads 44 = .ok (.invokevirtual 356, 3) := by decide +kernel
theorem dX12_reads_47 : decode cX12_reads 47 = .ok (.goto 21, 3) := by decide +kernel
theorem dX12_reads_50 : decode cX12_reads 50 = .ok (.iconst 0, 1) := by decide +kernel
theorem dX12_reads_51 : decode cX12_reads 51 = .ok (.istore_n 1, 1) := by decide +kernel
theorem dX12_reads_52 : decode cX12_reads 52 = .ok (.aload_n 0, 1) := by decide +kernel
theorem dX12_reads_53 : decode cX12_reads 53 = .ok (.getfield 332, 3) := by decide +kernel
theorem dX12_reads_56 : decode cX12_reads 56 = .ok (.ifCond .le 12, 3) := by decide +kernel
theorem dX12_reads_59 : decode cX12_reads 59 = .ok (.aload_n 0, 1) := by decide +kernel
theorem dX12_reads_60 : decode cX12_reads 60 = .ok (.iconst 1, 1) := by decide +kernel
theorem dX12_reads_61 : decode cX12_reads 61 = .ok (.aload_n 0, 1) := by decide +kernel
theorem dX12_reads_62 : decode cX12_reads 62 = .ok (.getfield 197, 3) := by decide +kernel
theorem dX12_reads_65 : decode cX12_reads 65 = .ok (.invokevirtual 221, 3) := by decide +kernel
theorem dX12_reads_68 : decode cX12_reads 68 = .ok (.goto (-66), 3) := by decide +kernel
theorem dX12_reads_71 : decode cX12_reads 71 = .ok (.return_, 1) := by decide +kernel
theorem dX12_program_0 : decode cX12_program 0 = .ok (.aload_n 0, 1) := by decide +kernel
theorem dX12_program_1 : decode cX12_program 1 = .ok (.aload_n 0, 1) := by decide +kernel
theorem dX12_program_2 : decode cX12_program 2 = .ok (.getfield 188, 3) := by decide +kernel
theorem dX12_program_5 : decode cX12_program 5 = .ok (.putfield 200, 3) := by decide +kernel
theorem dX12_program_8 : decode cX12_program 8 = .ok (.aload_n 0, 1) := by decide +kernel
theorem dX12_program_9 : decode cX12_program 9 = .ok (.iconst 0, 1) := by decide +kernel
theorem dX12_program_10 : decode cX12_program 10 = .ok (.putfield 188, 3) := by decide +kernel
theorem dX12_program_13 : decode cX12_program 13 = .ok (.aload_n 0, 1) := by decide +kernel
theorem dX12_program_14 : decode cX12_program 14 = .ok (.iconst 0, 1) := by decide +kernel
theorem dX12_program_15 : decode cX12_program 15 = .ok (.putfield 197, 3) := by decide +kernel
theorem dX12_program_18 : decode cX12_program 18 = .ok (.aload_n 0, 1) := by decide +kernel
theorem dX12_program_19 : decode cX12_program 19 = .ok (.iconst (-1), 1) := by decide +kernel
theorem dX12_program_20 : decode cX12_program 20 = .ok (.putfield 211, 3) := by decide +kernel
theorem dX12_program_23 : decode cX12_program 23 = .ok (.aload_n 0, 1) := by decide +kernel
theorem dX12_program_24 : decode cX12_program 24 = .ok (.iconst 0, 1) := by decide +kernel
theorem dX12_program_25 : decode cX12_program 25 = .ok (.putfield 191, 3) := by decide +kernel
theorem dX12_program_28 : decode cX12_program 28 = .ok (.aload_n 0, 1) := by decide +kernel
theorem dX12_program_29 : decode cX12_program 29 = .ok (.iconst (-1), 1) := by decide +kernel
theorem dX12_program_30 : decode cX12_program 30 = .ok (.putfield 194, 3) := by decide +kernel
theorem dX12_program_33 : decode cX12_program 33 = .ok (.iconst 0, 1) := by decide +kernel
theorem dX12_program_34 : decode cX12_program 34 = .ok (.istore_n 1, 1) := by decide +kernel
theorem dX12_program_35 : decode cX12_program 35 = .ok (.iload_n 1, 1) := by decide +kernel
theorem dX12_program_36 : decode cX12_program 36 = .ok (.iconst 5, 1) := by decide +kernel
theorem dX12_program_37 : decode cX12_program 37 = .ok (.if_icmp .ge 16, 3) := by decide +kernel
theorem dX12_program_40 : decode cX12_program 40 = .ok (.aload_n 0, 1) := by decide +kernel
theorem dX12_program_41 : decode cX12_program 41 = .ok (.getfield 60, 3) := by decide +kernel
theorem dX12_program_44 : decode cX12_program 44 = .ok (.iload_n 1, 1) := by decide +kernel
theorem dX12_program_45 : decode cX12_program 45 = .ok (.iconst 0, 1) := by decide +kernel
theorem dX12_program_46 : decode cX12_program 46 = .ok (.iastore, 1) := by decide +kernel
theorem dX12_program_47 : decode cX12_program 47 = .ok (.iinc 1 1, 3) := by decide +kernel
theorem dX12_program_50 : decode cX12_program 50 = .ok (.goto (-15), 3) := by decide +kernel
theorem dX12_program_53 : decode cX12_program 53 = .ok (.aload_n 0, 1) := by decide +kernel
theorem dX12_program_54 : decode cX12_program 54 = .ok (.iconst 0, 1) := by decide +kernel
theorem dX12_program_55 : decode cX12_program 55 = .ok (.putfield 246, 3) := by decide +kernel
theorem dX12_program_58 : decode cX12_program 58 = .ok (.aload_n 0, 1) := by decide +kernel
theorem dX12_program_59 : decode cX12_program 59 = .ok (.iconst 0, 1) := by decide +kernel
theorem dX12_program_60 : decode cX12_program 60 = .ok (.putfield 249, 3) := by decide +kernel
theorem dX12_program_63 : decode cX12_program 63 = .ok (.aload_n 0, 1) := by decide +kernel
theorem dX12_program_64 : decode cX12_program 64 = .ok (.iconst 0, 1) := by decide +kernel
theorem dX12_program_65 : decode cX12_program 65 = .ok (.putfield 332, 3) := by decide +kernel
theorem dX12_program_68 : decode cX12_program 68 = .ok (.aload_n 0, 1) := by decide +kernel
theorem dX12_program_69 : decode cX12_program 69 = .ok (.iconst 0, 1) := by decide +kernel
theorem dX12_program_70 : decode cX12_program 70 = .ok (.putfield 260, 3) := by decide +kernel
theorem dX12_program_73 : decode cX12_program 73 = .ok (.aload_n 0, 1) := by decide +kernel
theorem dX12_program_74 : decode cX12_program 74 = .ok (.invokevirtual 359, 3) := by decide +kernel
theorem dX12_program_77 : decode cX12_program 77 = .ok (.aload_n 0, 1) := by decide +kernel
theorem dX12_program_78 : decode cX12_program 78 = .ok (.aload_n 0, 1) := by decide +kernel
theorem dX12_program_79 : decode cX12_program 79 = .ok (.getfield 191, 3) := by decide +kernel
theorem dX12_program_82 : decode cX12_program 82 = .ok (.putfield 362, 3) := by decide +kernel
theorem dX12_program_85 : decode cX12_program 85 = .ok (.aload_n 0, 1) := by decide +kernel
theorem dX12_program_86 : decode cX12_program 86 = .ok (.aload_n 0, 1) := by decide +kernel
theorem dX12_program_87 : decode cX12_program 87 = .ok (.getfield 194, 3) := by decide +kernel
theorem dX12_program_90 : decode cX12_program 90 = .ok (.putfield 13, 3) := by decide +kernel
theorem dX12_program_93 : decode cX12_program 93 = .ok (.aload_n 0, 1) := by decide +kernel
theorem dX12_program_94 : decode cX12_program 94 = .ok (.getfield 191, 3) := by decide +kernel
theorem dX12_program_97 : decode cX12_program 97 = .ok (.ifCond .eq 5, 3) := by decide +kernel
theorem dX12_program_100 : decode cX12_program 100 = .ok (.iconst (-1), 1) := by decide +kernel
theorem dX12_program_101 : decode cX12_program 101 = .ok (.ireturn, 1) := by decide +kernel
theorem dX12_program_102 : decode cX12_program 102 = .ok (.iconst 0, 1) := by decide +kernel
theorem dX12_program_103 : decode cX12_program 103 = .ok (.istore_n 1, 1) := by decide +kernel
theorem dX12_program_104 : decode cX12_program 104 = .ok (.iload_n 1, 1) := by decide +kernel
theorem dX12_program_105 : decode cX12_program 105 = .ok (.iconst 5, 1) := by decide +kernel
theorem dX12_program_106 : decode cX12_program 106 = .ok (.if_icmp .ge 23, 3) := by decide +kernel
theorem dX12_program_109 : decode cX12_program 109 = .ok (.aload_n 0, 1) := by decide +kernel
theorem dX12_program_110 : decode cX12_program 110 = .ok (.getfield 60, 3) := by decide +kernel
theorem dX12_program_113 : decode cX12_program 113 = .ok (.iconst 5, 1) := by decide +kernel
theorem dX12_program_114 : decode cX12_program 114 = .ok (.iload_n 1, 1) := by decide +kernel
theorem dX12_program_115 : decode cX12_program 115 = .ok (.iadd, 1) := by decide +kernel
theorem dX12_program_116 : decode cX12_program 116 = .ok (.aload_n 0, 1) := by decide +kernel
theorem dX12_program_117 : decode cX12_program 117 = .ok (.getfield 60, 3) := by decide +kernel
theorem dX12_program_120 : decode cX12_program 120 = .ok (.iload_n 1, 1) := by decide +kernel
theorem dX12_program_121 : decode cX12_program 121 = .ok (.iaload, 1) := by decide +kernel
theorem dX12_program_122 : decode cX12_program 122 = .ok (.iastore, 1) := by decide +kernel
theorem dX12_program_123 : decode cX12_program 123 = .ok (.iinc 1 1, 3) := by decide +kernel
theorem dX12_program_126 : decode cX12_program 126 = .ok (.goto (-22), 3) := by decide +kernel
theorem dX12_program_129 : decode cX12_program 129 = .ok (.iconst 0, 1) := by decide +kernel
theorem dX12_program_130 : decode cX12_program 130 = .ok (.istore_n 1, 1) := by decide +kernel
theorem dX12_program_131 : decode cX12_program 131 = .ok (.iload_n 1, 1) := by decide +kernel
theorem dX12_program_132 : decode cX12_program 132 = .ok (.iconst 4, 1) := by decide +kernel
theorem dX12_program_133 : decode cX12_program 133 = .ok (.if_icmp .ge 23, 3) := by decide +kernel
theorem dX12_program_136 : decode cX12_program 136 = .ok (.aload_n 0, 1) := by decide +kernel
theorem dX12_program_137 : decode cX12_program 137 = .ok (.getfield 63, 3) := by decide +kernel
theorem dX12_program_140 : decode cX12_program 140 = .ok (.iconst 4, 1) := by decide +kernel
theorem dX12_program_141 : decode cX12_program 141 = .ok (.iload_n 1, 1) := by decide +kernel
theorem dX12_program_142 : decode cX12_program 142 = .ok (.iadd, 1) := by decide +kernel
theorem dX12_program_143 : decode cX12_program 143 = .ok (.aload_n 0, 1) := by decide +kernel
theorem dX12_program_144 : decode cX12_program 144 = .ok (.getfield 63, 3) := by decide +kernel
theorem dX12_program_147 : decode cX12_program 147 = .ok (.iload_n 1, 1) := by decide +kernel
theorem dX12_program_148 : decode cX12_program 148 = .ok (.iaload, 1) := by decide +kernel
theorem dX12_program_149 : decode cX12_program 149 = .ok (.iastore, 1) := by decide +kernel
theorem dX12_program_150 : decode cX12_program 150 = .ok (.iinc 1 1, 3) := by decide +kernel
theorem dX12_program_153 : decode cX12_program 153 = .ok (.goto (-22), 3) := by decide +kernel
theorem dX12_program_156 : decode cX12_program 156 = .ok (.iconst 0, 1) := by decide +kernel
theorem dX12_program_157 : decode cX12_program 157 = .ok (.istore_n 1, 1) := by decide +kernel
theorem dX12_program_158 : decode cX12_program 158 = .ok (.iload_n 1, 1) := by decide +kernel
theorem dX12_program_159 : decode cX12_program 159 = .ok (.aload_n 0, 1) := by decide +kernel
theorem dX12_program_160 : decode cX12_program 160 = .ok (.getfield 60, 3) := by decide +kernel
theorem dX12_program_163 : decode cX12_program 163 = .ok (.iconst 4, 1) := by decide +kernel
theorem dX12_program_164 : decode cX12_program 164 = .ok (.iaload, 1) := by decide +kernel
theorem dX12_program_165 : decode cX12_program 165 = .ok (.if_icmp .ge 25, 3) := by decide +kernel
theorem dX12_program_168 : decode cX12_program 168 = .ok (.aload_n 0, 1) := by decide +kernel
theorem dX12_program_169 : decode cX12_program 169 = .ok (.getfield 66, 3) := by decide +kernel
theorem dX12_program_172 : decode cX12_program 172 = .ok (.sipush 700, 3) := by decide +kernel
theorem dX12_program_175 : decode cX12_program 175 = .ok (.iload_n 1, 1) := by decide +kernel
theorem dX12_program_176 : decode cX12_program 176 = .ok (.iadd, 1) := by decide +kernel
theorem dX12_program_177 : decode cX12_program 177 = .ok (.aload_n 0, 1) := by decide +kernel
theorem dX12_program_178 : decode cX12_program 178 = .ok (.getfield 66, 3) := by decide +kernel
theorem dX12_program_181 : decode cX12_program 181 = .ok (.iload_n 1, 1) := by decide +kernel
theorem dX12_program_182 : decode cX12_program 182 = .ok (.iaload, 1) := by decide +kernel
theorem dX12_program_183 : decode cX12_program 183 = .ok (.iastore, 1) := by decide +kernel
theorem dX12_program_184 : decode cX12_program 184 = .ok (.iinc 1 1, 3) := by decide +kernel
theorem dX12_program_187 : decode cX12_program 187 = .ok (.goto (-29), 3) := by decide +kernel
theorem dX12_program_190 : decode cX12_program 190 = .ok (.iconst 0, 1) := by decide +kernel
theorem dX12_program_191 : decode cX12_program 191 = .ok (.istore_n 1, 1) := by decide +kernel
theorem dX12_program_192 : decode cX12_program 192 = .ok (.iload_n 1, 1) := by decide +kernel
theorem dX12_program_193 : decode cX12_program 193 = .ok (.aload_n 0, 1) := by decide +kernel
theorem dX12_program_194 : decode cX12_program 194 = .ok (.getfield 246, 3) := by decide +kernel
theorem dX12_program_197 : decode cX12_program 197 = .ok (.if_icmp .ge 25, 3) := by decide +kernel
theorem dX12_program_200 : decode cX12_program 200 = .ok (.aload_n 0, 1) := by decide +kernel
theorem dX12_program_201 : decode cX12_program 201 = .ok (.getfield 69, 3) := by decide +kernel
theorem dX12_program_204 : decode cX12_program 204 = .ok (.sipush 1200, 3) := by decide +kernel
theorem dX12_program_207 : decode cX12_program 207 = .ok (.iload_n 1, 1) := by decide +kernel
theorem dX12_program_208 : decode cX12_program 208 = .ok (.iadd, 1) := by decide +kernel
theorem dX12_program_209 : decode cX12_program 209 = .ok (.aload_n 0, 1) := by decide +kernel
theorem dX12_program_210 : decode cX12_program 210 = .ok (.getfield 69, 3) := by decide +kernel
theorem dX12_program_213 : decode cX12_program 213 = .ok (.iload_n 1, 1) := by decide +kernel
theorem dX12_program_214 : decode cX12_program 214 = .ok (.iaload, 1) := by decide +kernel
theorem dX12_program_215 : decode cX12_program 215 = .ok (.iastore, 1) := by decide +kernel
theorem dX12_program_216 : decode cX12_program 216 = .ok (.iinc 1 1, 3) := by decide +kernel
theorem dX12_program_219 : decode cX12_program 219 = .ok (.goto (-27), 3) := by decide +kernel
theorem dX12_program_222 : decode cX12_program 222 = .ok (.aload_n 0, 1) := by decide +kernel
theorem dX12_program_223 : decode cX12_program 223 = .ok (.getfield 72, 3) := by decide +kernel
theorem dX12_program_226 : decode cX12_program 226 = .ok (.iconst 1, 1) := by decide +kernel
theorem dX12_program_227 : decode cX12_program 227 = .ok (.aload_n 0, 1) := by decide +kernel
theorem dX12_program_228 : decode cX12_program 228 = .ok (.getfield 246, 3) := by decide +kernel
theorem dX12_program_231 : decode cX12_program 231 = .ok (.iastore, 1) := by decide +kernel
theorem dX12_program_232 : decode cX12_program 232 = .ok (.iconst 0, 1) := by decide +kernel
theorem dX12_program_233 : decode cX12_program 233 = .ok (.istore_n 1, 1) := by decide +kernel
theorem dX12_program_234 : decode cX12_program 234 = .ok (.iload_n 1, 1) := by decide +kernel
theorem dX12_program_235 : decode cX12_program 235 = .ok (.bipush 8, 2) := by decide +kernel
theorem dX12_program_237 : decode cX12_program 237 = .ok (.if_icmp .ge 23, 3) := by decide +kernel
theorem dX12_program_240 : decode cX12_program 240 = .ok (.aload_n 0, 1) := by decide +kernel
theorem dX12_program_241 : decode cX12_program 241 = .ok (.getfield 97, 3) := by decide +kernel
theorem dX12_program_244 : decode cX12_program 244 = .ok (.iload_n 1, 1) := by decide +kernel
theorem dX12_program_245 : decode cX12_program 245 = .ok (.lconst 0, 1) := by decide +kernel
theorem dX12_program_246 : decode cX12_program 246 = .ok (.lastore, 1) := by decide +kernel
theorem dX12_program_247 : decode cX12_program 247 = .ok (.aload_n 0, 1) := by decide +kernel
theorem dX12_program_248 : decode cX12_program 248 = .ok (.getfield 100, 3) := by decide +kernel
theorem dX12_program_251 : decode cX12_program 251 = .ok (.iload_n 1, 1) := by decide +kernel
theorem dX12_program_252 : decode cX12_program 252 = .ok (.lconst 1, 1) := by decide +kernel
theorem dX12_program_253 : decode cX12_program 253 = .ok (.lastore, 1) := by decide +kernel
theorem dX12_program_254 : decode cX12_program 254 = .ok (.iinc 1 1, 3) := by decide +kernel
theorem dX12_program_257 : decode cX12_program 257 = .ok (.goto (-23), 3) := by decide +kernel
theorem dX12_program_260 : decode cX12_program 260 = .ok (.aload_n 0, 1) := by decide +kernel
theorem dX12_program_261 : decode cX12_program 261 = .ok (.iconst 0, 1) := by decide +kernel
theorem dX12_program_262 : decode cX12_program 262 = .ok (.putfield 365, 3) := by decide +kernel
theorem dX12_program_265 : decode cX12_program 265 = .ok (.aload_n 0, 1) := by decide +kernel
theorem dX12_program_266 : decode cX12_program 266 = .ok (.iconst 0, 1) := by decide +kernel
theorem dX12_program_267 : decode cX12_program 267 = .ok (.putfield 368, 3) := by decide +kernel
theorem dX12_program_270 : decode cX12_program 270 = .ok (.aload_n 0, 1) := by decide +kernel
theorem dX12_program_271 : decode cX12_program 271 = .ok (.iconst 0, 1) := by decide +kernel
theorem dX12_program_272 : decode cX12_program 272 = .ok (.putfield 371, 3) := by decide +kernel
theorem dX12_program_275 : decode cX12_program 275 = .ok (.aload_n 0, 1) := by decide +kernel
theorem dX12_program_276 : decode cX12_program 276 = .ok (.iconst 0, 1) := by decide +kernel
theorem dX12_program_277 : decode cX12_program 277 = .ok (.putfield 375, 3) := by decide +kernel
theorem dX12_program_280 : decode cX12_program 280 = .ok (.aload_n 0, 1) := by decide +kernel
theorem dX12_program_281 : decode cX12_program 281 = .ok (.getfield 60, 3) := by decide +kernel
theorem dX12_program_284 : decode cX12_program 284 = .ok (.bipush 8, 2) := by decide +kernel
theorem dX12_program_286 : decode cX12_program 286 = .ok (.iaload, 1) := by decide +kernel
theorem dX12_program_287 : decode cX12_program 287 = .ok (.ireturn, 1) := by decide +kernel
def v_q_reads : List Cond := .code yX12_reads cX12_reads 3 none :: ([.fieldLink RX12 191 "SlopeRunnerModel" "bad" "I", .fieldLink RX12 332 "SlopeRunnerModel" "blocks" "I", .fieldLink RX12 197 "SlopeRunnerModel" "at" "I"] ++ ((wsV RX12 203 RX12 yX12_look v_q_look3) ++ ((wsV RX12 221 RX12 yX12_fail v_q_fail) ++ ((wsV RX12 356 RX12 yX12_statement v_q_statement) ++ ((wsV RX12 353 RX12 yX12_closesBlock v_q_closesBlock) ++ wsX120)))))
theorem g_q_reads_0 : GoodIn v_q_reads (wsV RX12 203 RX12 yX12_look v_q_look3) := goodIn_sub (fun w h => List.mem_cons_of_mem _ (List.mem_append_right _ (List.mem_append_left _ h))) (by decide +kernel)
theorem g_q_reads_1 : GoodIn v_q_reads (wsV RX12 221 RX12 yX12_fail v_q_fail) := goodIn_sub (fun w h => List.mem_cons_of_mem _ (List.mem_append_right _ (List.mem_append_right _ (List.mem_append_left _ h)))) (by decide +kernel)
theorem g_q_reads_2 : GoodIn v_q_reads (wsV RX12 356 RX12 yX12_statement v_q_statement) := goodIn_sub (fun w h => List.mem_cons_of_mem _ (List.mem_append_right _ (List.mem_append_right _ (List.mem_append_right _ (List.mem_append_left _ h))))) (by decide +kernel)
theorem g_q_reads_3 : GoodIn v_q_reads (wsV RX12 353 RX12 yX12_closesBlock v_q_closesBlock) := goodIn_sub (fun w h => List.mem_cons_of_mem _ (List.mem_append_right _ (List.mem_append_right _ (List.mem_append_right _ (List.mem_append_right _ (List.mem_append_left _ h)))))) (by decide +kernel)
set_option maxHeartbeats 4000000 in
set_option maxRecDepth 100000 in
theorem q_reads (l : Launch) (D : va_G) (y : Nat → ClassId) (sz : Nat) (ad : Nat → Nat) (zw : Nat → Nat → Int32) (σ : OS) (ha0 : 0 ≤ (σ.1 2).toInt) (ha1 : (σ.1 2).toInt ≤ (σ.1 3).toInt) (ha2 : (σ.1 3).toInt ≤ 700) (hb0 : (σ.1 5).toInt = 0) (hhi : HI (σ.2.2.1 24) (σ.1 33).toInt (σ.1 2).toInt) (hbo : (σ.1 39).toInt = (σ.1 32).toInt) (hbl0 : 0 ≤ (σ.1 39).toInt) (ho1 : (σ.1 32).toInt ≤ 8) (hc0 : 0 ≤ (σ.1 29).toInt) (hcb : (σ.1 29).toInt + (σ.1 39).toInt ≤ (σ.1 2).toInt) (hpe : PE (σ.2.2.1 27) (σ.1 29).toInt.toNat (σ.2.2.1 24 4).toInt (σ.1 39).toInt.toNat (σ.2.2.1 36) (σ.2.2.1 37) (σ.2.2.1 38) [] true none)  (hB35 : bI (σ.2.2.1 35) 0 23) (hB26 : bI (σ.2.2.1 26) 0 9999) (hB25 : bI (σ.2.2.1 25) 0 16) : Met l yX12_reads v_q_reads ({ frames := 12, cells := 0, slots := 0, locals := 263 } : Room) (va_Pc [.ref (ad 1)] (xPre D (xT y) (mwd y ad zw σ) sz)) (va_Qv (fun (u : Int32 × Int32 × Int32 × Int32 × Int32 × Int32 × (Nat → Int32) × Int32 × (Nat → Int32) × Int32 × (Nat → Int32) × (Nat → Int32) × Int32 × (Nat → Int32) × Int32 × (Nat → Int64) × (Nat → Int32) × (Nat → Int32) × (Nat → Int32) × (Nat → Int32) × Int32 × (Nat → Int32)) => ((σ.1 2).toInt ≤ u.1.toInt ∧ u.1.toInt ≤ (σ.1 3).toInt ∧ (∀ q : Nat, 5 ≤ q → u.2.2.2.2.2.2.2.2.2.2.1 q = σ.2.2.1 24 q) ∧ (u.2.2.1.toInt = 0 → u.2.2.2.2.2.2.2.2.2.2.2.2.2.2.2.2.2.2.2.2.1.toInt = 0 ∧ HI u.2.2.2.2.2.2.2.2.2.2.1 u.2.2.2.2.2.2.2.2.2.2.2.2.2.2.1.toInt u.1.toInt ∧ u.2.2.2.2.2.2.2.1.toInt = u.2.2.2.2.2.2.2.2.2.2.2.2.2.2.2.2.2.2.2.2.1.toInt ∧ 0 ≤ u.2.2.2.2.2.2.2.2.2.2.2.2.2.2.2.2.2.2.2.2.1.toInt ∧ u.2.2.2.2.2.2.2.2.2.2.2.2.2.2.2.2.2.2.2.2.1.toInt ≤ 8 ∧ 0 ≤ u.2.2.2.2.2.1.toInt ∧ u.2.2.2.2.2.1.toInt + u.2.2.2.2.2.2.2.2.2.2.2.2.2.2.2.2.2.2.2.2.1.toInt ≤ u.1.toInt ∧ PE u.2.2.2.2.2.2.1 u.2.2.2.2.2.1.toInt.toNat (u.2.2.2.2.2.2.2.2.2.2.1 4).toInt u.2.2.2.2.2.2.2.2.2.2.2.2.2.2.2.2.2.2.2.2.1.toInt.toNat u.2.2.2.2.2.2.2.2.2.2.2.2.2.2.2.2.2.1 u.2.2.2.2.2.2.2.2.2.2.2.2.2.2.2.2.2.2.1 u.2.2.2.2.2.2.2.2.2.2.2.2.2.2.2.2.2.2.2.1 [] true none)) ∧ bI u.2.2.2.2.2.2.2.2.2.2.2.2.2.2.2.2.1 0 23 ∧ bI u.2.2.2.2.2.2.2.2.2.2.2.1 0 9999 ∧ bI u.2.2.2.2.2.2.2.2.2.2.2.2.2.2.2.2.2.2.2.2.2 0 16) (fun (u : Int32 × Int32 × Int32 × Int32 × Int32 × Int32 × (Nat → Int32) × Int32 × (Nat → Int32) × Int32 × (Nat → Int32) × (Nat → Int32) × Int32 × (Nat → Int32) × Int32 × (Nat → Int64) × (Nat → Int32) × (Nat → Int32) × (Nat → Int32) × (Nat → Int32) × Int32 × (Nat → Int32)) => xB D (xT y) (va_A (mwd y ad zw σ) sz) (mwd y ad zw (tI (sI (tI (tI (tI (tI (tJ (sI (tI (sI (tI (tI (sI (tI (sI (tI (sI (sI (sI (sI (sI (sI σ 2 u.1) 4 u.2.1) 5 u.2.2.1) 6 u.2.2.2.1) 23 u.2.2.2.2.1) 29 u.2.2.2.2.2.1) 27 u.2.2.2.2.2.2.1) 32 u.2.2.2.2.2.2.2.1) 30 u.2.2.2.2.2.2.2.2.1) 31 u.2.2.2.2.2.2.2.2.2.1) 24 u.2.2.2.2.2.2.2.2.2.2.1) 26 u.2.2.2.2.2.2.2.2.2.2.2.1) 40 u.2.2.2.2.2.2.2.2.2.2.2.2.1) 41 u.2.2.2.2.2.2.2.2.2.2.2.2.2.1) 33 u.2.2.2.2.2.2.2.2.2.2.2.2.2.2.1) 34 u.2.2.2.2.2.2.2.2.2.2.2.2.2.2.2.1) 35 u.2.2.2.2.2.2.2.2.2.2.2.2.2.2.2.2.1) 36 u.2.2.2.2.2.2.2.2.2.2.2.2.2.2.2.2.2.1) 37 u.2.2.2.2.2.2.2.2.2.2.2.2.2.2.2.2.2.2.1) 38 u.2.2.2.2.2.2.2.2.2.2.2.2.2.2.2.2.2.2.2.1) 39 u.2.2.2.2.2.2.2.2.2.2.2.2.2.2.2.2.2.2.2.2.1) 25 u.2.2.2.2.2.2.2.2.2.2.2.2.2.2.2.2.2.2.2.2.2))) (va_A (mwd y ad zw σ) sz)) 0 0 (va_A (mwd y ad zw σ) sz) := by
  refine x_metv (cc := cX12_reads) (maxL := 3) (by decide) rfl (Nat.le_of_ble_eq_true rfl) ?_
  intro p e s m below meth c A H locs Q hx hb hml hown hts hr hlocks hmn hA hP hK hD hS ls hl hQ
  have hl : lv_has ls 3 [(0, .ref (ad 1))] := hl
  have kk_0 : (0 : Int32).toInt = 0 := rfl
  have fl191 := hts (.fieldLink RX12 191 "SlopeRunnerModel" "bad" "I") (List.mem_of_getElem? (i := 1) rfl)
  have inX12 : ∀ w ∈ wsX120, w ∈ v_q_reads := (fun w h => List.mem_cons_of_mem _ (List.mem_append_right _ (List.mem_append_right _ (List.mem_append_right _ (List.mem_append_right _ (List.mem_append_right _ h))))))
  have fl332 := hts (.fieldLink RX12 332 "SlopeRunnerModel" "blocks" "I") (List.mem_of_getElem? (i := 2) rfl)
  have kk_m1 : ((-1) : Int32).toInt = -1 := rfl
  have fl197 := hts (.fieldLink RX12 197 "SlopeRunnerModel" "at" "I") (List.mem_of_getElem? (i := 3) rfl)
  have kk_1 : (1 : Int32).toInt = 1 := rfl
  have kk_125 : (125 : Int32).toInt = 125 := rfl
  refine lv_iconst (v := 1) hx hb dX12_reads_0 (by decide) ?_
  refine lv_istore_n (lv' := [(1, .int 1), (0, .ref (ad 1))]) hx hb dX12_reads_1 rfl hl (by decide) rfl (fun ls hl => ?_)
  have l10 : (1 : Int32).toInt = 1 := rfl
  have l00 : (0 : Int32).toInt = 0 := rfl
  have hP : va_P D vwCl (mwd y ad zw (tI (sI (tI (tI (tI (tI (tJ (sI (tI (sI (tI (tI (sI (tI (sI (tI (sI (sI (sI (sI (sI (sI σ 2 (σ.1 2)) 4 (σ.1 4)) 5 (σ.1 5)) 6 (σ.1 6)) 23 (σ.1 23)) 29 (σ.1 29)) 27 (σ.2.2.1 27)) 32 (σ.1 32)) 30 (σ.2.2.1 30)) 31 (σ.1 31)) 24 (σ.2.2.1 24)) 26 (σ.2.2.1 26)) 40 (σ.1 40)) 41 (σ.2.2.1 41)) 33 (σ.1 33)) 34 (σ.2.2.2 34)) 35 (σ.2.2.1 35)) 36 (σ.2.2.1 36)) 37 (σ.2.2.1 37)) 38 (σ.2.2.1 38)) 39 (σ.1 39)) 25 (σ.2.2.1 25))) H := hP
  have hD : va_D A (mwd y ad zw (tI (sI (tI (tI (tI (tI (tJ (sI (tI (sI (tI (tI (sI (tI (sI (tI (sI (sI (sI (sI (sI (sI σ 2 (σ.1 2)) 4 (σ.1 4)) 5 (σ.1 5)) 6 (σ.1 6)) 23 (σ.1 23)) 29 (σ.1 29)) 27 (σ.2.2.1 27)) 32 (σ.1 32)) 30 (σ.2.2.1 30)) 31 (σ.1 31)) 24 (σ.2.2.1 24)) 26 (σ.2.2.1 26)) 40 (σ.1 40)) 41 (σ.2.2.1 41)) 33 (σ.1 33)) 34 (σ.2.2.2 34)) 35 (σ.2.2.1 35)) 36 (σ.2.2.1 36)) 37 (σ.2.2.1 37)) 38 (σ.2.2.1 38)) 39 (σ.1 39)) 25 (σ.2.2.1 25))) := hD
  have loop : ∀ (fu : Nat) (mo : Int32) (a : Int32) (en : Int32) (bd : Int32) (bp : Int32) (np : Int32) (cd : Int32) (fc : Nat → Int32) (op : Int32) (fw : Nat → Int32) (ws : Int32) (fh : Nat → Int32) (fn : Nat → Int32) (ba : Int32) (fm : Nat → Int32) (nm : Int32) (fl : Nat → Int64) (fa : Nat → Int32) (bs : Nat → Int32) (bf : Nat → Int32) (bj : Nat → Int32) (bl : Int32) (fs : Nat → Int32) (H : Heap) (locs : List Loc) (ls : Array Slot), (0 ≤ mo.toInt) → (mo.toInt ≤ 1) → (bd.toInt = 0) → ((σ.1 2).toInt ≤ a.toInt) → (a.toInt ≤ (σ.1 3).toInt) → (∀ q : Nat, 5 ≤ q → fh q = σ.2.2.1 24 q) → (HI fh nm.toInt a.toInt) → (op.toInt = bl.toInt) → (0 ≤ bl.toInt ∧ bl.toInt ≤ 8) → (0 ≤ cd.toInt ∧ cd.toInt + bl.toInt ≤ a.toInt) → (mo.toInt = 1 ∨ bl.toInt = 0) → (PE fc cd.toInt.toNat (fh 4).toInt bl.toInt.toNat bs bf bj [] true none) → (bI fn 0 9999) → (bI fa 0 23) → (bI fs 0 16) → (2 * ((σ.1 3).toInt - a.toInt) + mo.toInt < (fu : Int)) → va_P D vwCl (mwd y ad zw (tI (sI (tI (tI (tI (tI (tJ (sI (tI (sI (tI (tI (sI (tI (sI (tI (sI (sI (sI (sI (sI (sI σ 2 a) 4 en) 5 bd) 6 bp) 23 np) 29 cd) 27 fc) 32 op) 30 fw) 31 ws) 24 fh) 26 fn) 40 ba) 41 fm) 33 nm) 34 fl) 35 fa) 36 bs) 37 bf) 38 bj) 39 bl) 25 fs)) H → va_D A (mwd y ad zw (tI (sI (tI (tI (tI (tI (tJ (sI (tI (sI (tI (tI (sI (tI (sI (tI (sI (sI (sI (sI (sI (sI σ 2 a) 4 en) 5 bd) 6 bp) 23 np) 29 cd) 27 fc) 32 op) 30 fw) 31 ws) 24 fh) 26 fn) 40 ba) 41 fm) 33 nm) 34 fl) 35 fa) 36 bs) 37 bf) 38 bj) 39 bl) 25 fs)) → va_S A s.heap H locs → lv_has ls 3 [(1, .int mo), (0, .ref (ad 1))] → W p l e ({ frames := 12, cells := 0, slots := 0, locals := 263 } : Room) s m ([.ref (ad 1)] : List Value).toArray below meth c H locs 0 0 Q (F0 m 2 ls []) := by
    intro fu
    induction fu with
    | zero =>
      intro mo a en bd bp np cd fc op fw ws fh fn ba fm nm fl fa bs bf bj bl fs H locs ls hmo0 hmo1 hbd hA2 hA1 hfr hHI hob hbl hcd hmb hPE hfn hfa hfs hm
      exact absurd hm (by omega)
    | succ fu ih_loop =>
      intro mo a en bd bp np cd fc op fw ws fh fn ba fm nm fl fa bs bf bj bl fs H locs ls hmo0 hmo1 hbd hA2 hA1 hfr hHI hob hbl hcd hmb hPE hfn hfa hfs hm hP hD hS hl
      have l10 : (1 : Int32).toInt = 1 := rfl
      have l00 : (0 : Int32).toInt = 0 := rfl
      refine lv_iload_n hx hb dX12_reads_2 rfl (lv_at hl 0 rfl) ?_
      refine lv_if_eq (tgt := 71) hx hb dX12_reads_3 (by decide) (fun c_1 => ?_) (fun c_1 => ?_)
      · have kc_1 : mo.toInt = 0 := by have h9 := c_1; simp only [ge_iff_le, gt_iff_lt, x_lt, x_le, x_eq, ne_eq, Int32.not_lt, Int32.not_le] at h9; simp only [Int32.reduceToInt] at h9; omega
        exact x_vretW (u := (a, en, bd, bp, np, cd, fc, op, fw, ws, fh, fn, ba, fm, nm, fl, fa, bs, bf, bj, bl, fs)) hx hb hr hQ (by (try dsimp only); exact ⟨⟨by omega, by omega, hfr, fun h9 => ⟨by omega, hHI, by omega, by omega, by omega, by omega, by omega, hPE⟩⟩, hfa, hfn, hfs⟩) hP hD hK hS dX12_reads_71 hlocks
      · have kc_1 : mo.toInt ≠ 0 := by have h9 := c_1; simp only [ge_iff_le, gt_iff_lt, x_lt, x_le, x_eq, ne_eq, Int32.not_lt, Int32.not_le] at h9; simp only [Int32.reduceToInt] at h9; omega
        refine lv_aload_n hx hb dX12_reads_6 rfl (lv_at hl 1 rfl) ?_
        refine va_get (D := D) (ci := 11) (v := .int bd) (C := RX12) (T := TX12) (N := 85) hx hb hts inX12 hown hK hP 0 mwd_o0 rfl 5 (by decide) fl191 (fun _ h9 => h9) rfl dX12_reads_7 ?_
        refine lv_if_ne (tgt := 71) hx hb dX12_reads_10 (by decide) (fun c_2 => ?_) (fun c_2 => ?_)
        · have kc_2 : bd.toInt ≠ 0 := by have h9 := c_2; simp only [ge_iff_le, gt_iff_lt, x_lt, x_le, x_eq, ne_eq, Int32.not_lt, Int32.not_le] at h9; simp only [Int32.reduceToInt] at h9; omega
          exfalso
          omega
        · have kc_2 : bd.toInt = 0 := by have h9 := c_2; simp only [ge_iff_le, gt_iff_lt, x_lt, x_le, x_eq, ne_eq, Int32.not_lt, Int32.not_le] at h9; simp only [Int32.reduceToInt] at h9; omega
          refine lv_aload_n hx hb dX12_reads_13 rfl (lv_at hl 1 rfl) ?_
          refine x_calliW (va_runV (As := []) (rest := []) ⟨hx, hb, hml, hown, hts⟩ (q_look3 l D y H.size ad zw (tI (sI (tI (tI (tI (tI (tJ (sI (tI (sI (tI (tI (sI (tI (sI (tI (sI (sI (sI (sI (sI (sI σ 2 a) 4 en) 5 bd) 6 bp) 23 np) 29 cd) 27 fc) 32 op) 30 fw) 31 ws) 24 fh) 26 fn) 40 ba) 41 fm) 33 nm) 34 fl) 35 fa) 36 bs) 37 bf) 38 bj) 39 bl) 25 fs) (show 0 ≤ (a).toInt from by first | omega | decide) (show (a).toInt ≤ ((σ.1 3)).toInt from by first | omega | decide) (show ((σ.1 3)).toInt ≤ 700 from by first | omega | decide)) (cwV 0 hts g_q_reads_0 rfl rfl rfl (by decide +kernel) ⟨Nat.le_of_ble_eq_true rfl, Nat.le_of_ble_eq_true rfl⟩) (x_preV (q := (RX12, TX12, 85)) hK hP hD (ci := 11) (q0 := 0) rfl mwd_o0) rfl rfl hl.1 rfl (lv_room (Nat.le_of_ble_eq_true rfl)) dX12_reads_14 ⟨Nat.le_of_ble_eq_true rfl, Nat.le_of_ble_eq_true rfl⟩) hP hD hS hA (fun r_3 u H locs hw hP hD hS => ?_)
          obtain ⟨n_4, rfl⟩ : ∃ z9, z9 = u := ⟨_, rfl⟩
          try dsimp only at hw
          have hP : va_P D vwCl (mwd y ad zw (sI (tI (sI (tI (tI (tI (tI (tJ (sI (tI (sI (tI (tI (sI (tI (sI (tI (sI (sI (sI (sI (sI (sI σ 2 a) 4 en) 5 bd) 6 bp) 23 np) 29 cd) 27 fc) 32 op) 30 fw) 31 ws) 24 fh) 26 fn) 40 ba) 41 fm) 33 nm) 34 fl) 35 fa) 36 bs) 37 bf) 38 bj) 39 bl) 25 fs) 2 n_4)) H := hP
          have hD : va_D A (mwd y ad zw (sI (tI (sI (tI (tI (tI (tI (tJ (sI (tI (sI (tI (tI (sI (tI (sI (tI (sI (sI (sI (sI (sI (sI σ 2 a) 4 en) 5 bd) 6 bp) 23 np) 29 cd) 27 fc) 32 op) 30 fw) 31 ws) 24 fh) 26 fn) 40 ba) 41 fm) 33 nm) 34 fl) 35 fa) 36 bs) 37 bf) 38 bj) 39 bl) 25 fs) 2 n_4)) := hD
          replace hw : (a).toInt ≤ n_4.toInt ∧ n_4.toInt ≤ ((σ.1 3)).toInt ∧ SD ((σ.2.2.1 0)) n_4.toInt ((σ.1 3)).toInt ∧ r_3.toInt = LV ((σ.2.2.1 0)) n_4.toInt ((σ.1 3)).toInt := hw
          obtain ⟨hk1, hk2, hk3, hk4⟩ := hw
          have hk5 : r_3.toInt ≠ -1 → n_4.toInt < (σ.1 3).toInt := fun h9 => LV_lt (t := (σ.2.2.1 0)) (by rw [← hk4]; exact h9)
          clear hk3 hk4
          refine lv_istore_n (lv' := [(2, .int r_3), (1, .int mo), (0, .ref (ad 1))]) hx hb dX12_reads_17 rfl hl (by decide) rfl (fun ls hl => ?_)
          refine lv_aload_n hx hb dX12_reads_18 rfl (lv_at hl 2 rfl) ?_
          refine va_get (D := D) (ci := 11) (v := .int bl) (C := RX12) (T := TX12) (N := 85) hx hb hts inX12 hown hK hP 0 mwd_o0 rfl 39 (by decide) fl332 (fun _ h9 => h9) rfl dX12_reads_19 ?_
          refine lv_if_le (tgt := 38) hx hb dX12_reads_22 (by decide) (fun c_5 => ?_) (fun c_5 => ?_)
          · have kc_5 : bl.toInt ≤ 0 := by have h9 := c_5; simp only [ge_iff_le, gt_iff_lt, x_lt, x_le, x_eq, ne_eq, Int32.not_lt, Int32.not_le] at h9; simp only [Int32.reduceToInt] at h9; omega
            refine lv_iload_n hx hb dX12_reads_38 rfl (lv_at hl 0 rfl) ?_
            refine lv_iconst (v := (-1)) hx hb dX12_reads_39 (by decide) ?_
            refine lv_icmp_eq (tgt := 50) hx hb dX12_reads_40 (by decide) (fun c_6 => ?_) (fun c_6 => ?_)
            · have kc_6 : r_3.toInt = (-1) := by have h9 := c_6; simp only [ge_iff_le, gt_iff_lt, x_lt, x_le, x_eq, ne_eq, Int32.not_lt, Int32.not_le] at h9; simp only [Int32.reduceToInt] at h9; omega
              refine lv_iconst (v := 0) hx hb dX12_reads_50 (by decide) ?_
              refine lv_istore_n (lv' := [(1, .int 0), (2, .int r_3), (0, .ref (ad 1))]) hx hb dX12_reads_51 rfl hl (by decide) rfl (fun ls hl => ?_)
              refine lv_aload_n hx hb dX12_reads_52 rfl (lv_at hl 2 rfl) ?_
              refine va_get (D := D) (ci := 11) (v := .int bl) (C := RX12) (T := TX12) (N := 85) hx hb hts inX12 hown hK hP 0 mwd_o0 rfl 39 (by decide) fl332 (fun _ h9 => h9) rfl dX12_reads_53 ?_
              refine lv_if_le (tgt := 68) hx hb dX12_reads_56 (by decide) (fun c_7 => ?_) (fun c_7 => ?_)
              · have kc_7 : bl.toInt ≤ 0 := by have h9 := c_7; simp only [ge_iff_le, gt_iff_lt, x_lt, x_le, x_eq, ne_eq, Int32.not_lt, Int32.not_le] at h9; simp only [Int32.reduceToInt] at h9; omega
                refine lv_goto (tgt := 2) hx hb dX12_reads_68 (by decide) ?_
                have l10 : (1 : Int32).toInt = 1 := rfl
                have l00 : (0 : Int32).toInt = 0 := rfl
                have hP : va_P D vwCl (mwd y ad zw (tI (sI (tI (tI (tI (tI (tJ (sI (tI (sI (tI (tI (sI (tI (sI (tI (sI (sI (sI (sI (sI (sI σ 2 n_4) 4 en) 5 bd) 6 bp) 23 np) 29 cd) 27 fc) 32 op) 30 fw) 31 ws) 24 fh) 26 fn) 40 ba) 41 fm) 33 nm) 34 fl) 35 fa) 36 bs) 37 bf) 38 bj) 39 bl) 25 fs)) H := hP
                have hD : va_D A (mwd y ad zw (tI (sI (tI (tI (tI (tI (tJ (sI (tI (sI (tI (tI (sI (tI (sI (tI (sI (sI (sI (sI (sI (sI σ 2 n_4) 4 en) 5 bd) 6 bp) 23 np) 29 cd) 27 fc) 32 op) 30 fw) 31 ws) 24 fh) 26 fn) 40 ba) 41 fm) 33 nm) 34 fl) 35 fa) 36 bs) 37 bf) 38 bj) 39 bl) 25 fs)) := hD
                exact ih_loop 0 n_4 en bd bp np cd fc op fw ws fh fn ba fm nm fl fa bs bf bj bl fs H locs ls (by omega) (by omega) (by omega) (by omega) (by omega) hfr (HI_mono hHI (by omega)) (by omega) ⟨by omega, by omega⟩ ⟨by omega, by omega⟩ (by omega) hPE hfn hfa hfs (by omega) hP hD hS (lv_sub hl [0, 2] rfl)
              · have kc_7 : bl.toInt > 0 := by have h9 := c_7; simp only [ge_iff_le, gt_iff_lt, x_lt, x_le, x_eq, ne_eq, Int32.not_lt, Int32.not_le] at h9; simp only [Int32.reduceToInt] at h9; omega
                refine lv_aload_n hx hb dX12_reads_59 rfl (lv_at hl 2 rfl) ?_
                refine lv_iconst (v := 1) hx hb dX12_reads_60 (by decide) ?_
                refine lv_aload_n hx hb dX12_reads_61 rfl (lv_at hl 2 rfl) ?_
                refine va_get (D := D) (ci := 11) (v := .int n_4) (C := RX12) (T := TX12) (N := 85) hx hb hts inX12 hown hK hP 0 mwd_o0 rfl 2 (by decide) fl197 (fun _ h9 => h9) rfl dX12_reads_62 ?_
                refine x_callvW (va_runV (As := [.int 1, .int n_4]) (rest := []) ⟨hx, hb, hml, hown, hts⟩ (q_fail l D y H.size ad zw (sI (tI (sI (tI (tI (tI (tI (tJ (sI (tI (sI (tI (tI (sI (tI (sI (tI (sI (sI (sI (sI (sI (sI σ 2 a) 4 en) 5 bd) 6 bp) 23 np) 29 cd) 27 fc) 32 op) 30 fw) 31 ws) 24 fh) 26 fn) 40 ba) 41 fm) 33 nm) 34 fl) 35 fa) 36 bs) 37 bf) 38 bj) 39 bl) 25 fs) 2 n_4) 1 n_4) (cwV 2 hts g_q_reads_1 rfl rfl rfl (by decide +kernel) ⟨Nat.le_of_ble_eq_true rfl, Nat.le_of_ble_eq_true rfl⟩) (x_preV (q := (RX12, TX12, 85)) hK hP hD (ci := 11) (q0 := 0) rfl mwd_o0) rfl rfl hl.1 rfl (lv_room (Nat.le_of_ble_eq_true rfl)) dX12_reads_65 ⟨Nat.le_of_ble_eq_true rfl, Nat.le_of_ble_eq_true rfl⟩) hP hD hS hA (fun u H locs hw hP hD hS => ?_)
                obtain ⟨b_8, b_9⟩ := u
                try dsimp only at hw
                have hP : va_P D vwCl (mwd y ad zw (sI (sI (sI (tI (sI (tI (tI (tI (tI (tJ (sI (tI (sI (tI (tI (sI (tI (sI (tI (sI (sI (sI (sI (sI (sI σ 2 a) 4 en) 5 bd) 6 bp) 23 np) 29 cd) 27 fc) 32 op) 30 fw) 31 ws) 24 fh) 26 fn) 40 ba) 41 fm) 33 nm) 34 fl) 35 fa) 36 bs) 37 bf) 38 bj) 39 bl) 25 fs) 2 n_4) 5 b_8) 6 b_9)) H := hP
                have hD : va_D A (mwd y ad zw (sI (sI (sI (tI (sI (tI (tI (tI (tI (tJ (sI (tI (sI (tI (tI (sI (tI (sI (tI (sI (sI (sI (sI (sI (sI σ 2 a) 4 en) 5 bd) 6 bp) 23 np) 29 cd) 27 fc) 32 op) 30 fw) 31 ws) 24 fh) 26 fn) 40 ba) 41 fm) 33 nm) 34 fl) 35 fa) 36 bs) 37 bf) 38 bj) 39 bl) 25 fs) 2 n_4) 5 b_8) 6 b_9)) := hD
                replace hw : b_8 = if bd = 0 then (1 : Int32) else bd := hw
                have hbd : b_8.toInt ≠ 0 := by rw [hw]; split <;> first | decide | (rename_i h9; intro h8; exact h9 (Int32.toInt_inj.mp (by rw [h8]; rfl)))
                clear hw
                refine lv_goto (tgt := 2) hx hb dX12_reads_68 (by decide) ?_
                refine lv_iload_n hx hb dX12_reads_2 rfl (lv_at hl 0 rfl) ?_
                refine lv_if_eq (tgt := 71) hx hb dX12_reads_3 (by decide) (fun c_10 => ?_) (fun c_10 => ?_)
                · have hP : va_P D vwCl (mwd y ad zw (tI (sI (tI (tI (tI (tI (tJ (sI (tI (sI (tI (tI (sI (tI (sI (tI (sI (sI (sI (sI (sI (sI σ 2 n_4) 4 en) 5 b_8) 6 b_9) 23 np) 29 cd) 27 fc) 32 op) 30 fw) 31 ws) 24 fh) 26 fn) 40 ba) 41 fm) 33 nm) 34 fl) 35 fa) 36 bs) 37 bf) 38 bj) 39 bl) 25 fs)) H := hP
                  have hD : va_D A (mwd y ad zw (tI (sI (tI (tI (tI (tI (tJ (sI (tI (sI (tI (tI (sI (tI (sI (tI (sI (sI (sI (sI (sI (sI σ 2 n_4) 4 en) 5 b_8) 6 b_9) 23 np) 29 cd) 27 fc) 32 op) 30 fw) 31 ws) 24 fh) 26 fn) 40 ba) 41 fm) 33 nm) 34 fl) 35 fa) 36 bs) 37 bf) 38 bj) 39 bl) 25 fs)) := hD
                  exact x_vretW (u := (n_4, en, b_8, b_9, np, cd, fc, op, fw, ws, fh, fn, ba, fm, nm, fl, fa, bs, bf, bj, bl, fs)) hx hb hr hQ (by (try dsimp only); exact ⟨⟨by omega, by omega, hfr, fun h9 => absurd h9 (by omega)⟩, hfa, hfn, hfs⟩) hP hD hK hS dX12_reads_71 hlocks
                · exact absurd (by decide) c_10
            · have kc_6 : r_3.toInt ≠ (-1) := by have h9 := c_6; simp only [ge_iff_le, gt_iff_lt, x_lt, x_le, x_eq, ne_eq, Int32.not_lt, Int32.not_le] at h9; simp only [Int32.reduceToInt] at h9; omega
              refine lv_aload_n hx hb dX12_reads_43 rfl (lv_at hl 2 rfl) ?_
              refine x_callvW (va_runV (As := []) (rest := []) ⟨hx, hb, hml, hown, hts⟩ (q_statement l D y H.size ad zw (sI (tI (sI (tI (tI (tI (tI (tJ (sI (tI (sI (tI (tI (sI (tI (sI (tI (sI (sI (sI (sI (sI (sI σ 2 a) 4 en) 5 bd) 6 bp) 23 np) 29 cd) 27 fc) 32 op) 30 fw) 31 ws) 24 fh) 26 fn) 40 ba) 41 fm) 33 nm) 34 fl) 35 fa) 36 bs) 37 bf) 38 bj) 39 bl) 25 fs) 2 n_4) (show 0 ≤ (n_4).toInt from by first | omega | decide) (show (n_4).toInt ≤ ((σ.1 3)).toInt from by first | omega | decide) (show ((σ.1 3)).toInt ≤ 700 from by first | omega | decide) (show (bd).toInt = 0 from by first | omega | decide) (HI_mono hHI (show a.toInt ≤ n_4.toInt from by omega)) (show (bl).toInt = (op).toInt from by first | omega | decide) (show 0 ≤ (bl).toInt from by first | omega | decide) (show (op).toInt ≤ 8 from by first | omega | decide) (show 0 ≤ (cd).toInt from by first | omega | decide) (show (cd).toInt + (bl).toInt ≤ (n_4).toInt from by first | omega | decide) hPE hfa hfn hfs) (cwV 0 hts g_q_reads_2 rfl rfl rfl (by decide +kernel) ⟨Nat.le_of_ble_eq_true rfl, Nat.le_of_ble_eq_true rfl⟩) (x_preV (q := (RX12, TX12, 85)) hK hP hD (ci := 11) (q0 := 0) rfl mwd_o0) rfl rfl hl.1 rfl (lv_room (Nat.le_of_ble_eq_true rfl)) dX12_reads_44 ⟨Nat.le_of_ble_eq_true rfl, Nat.le_of_ble_eq_true rfl⟩) hP hD hS hA (fun u H locs hw hP hD hS => ?_)
              obtain ⟨n_11, n_12, n_13, n_14, n_15, n_16, f_17, n_18, f_19, n_20, f_21, f_22, n_23, f_24, n_25, f_26, f_27, f_28, f_29, f_30, n_31, f_32⟩ := u
              try dsimp only at hw
              have hP : va_P D vwCl (mwd y ad zw (tI (sI (tI (tI (tI (tI (tJ (sI (tI (sI (tI (tI (sI (tI (sI (tI (sI (sI (sI (sI (sI (sI (sI (tI (sI (tI (tI (tI (tI (tJ (sI (tI (sI (tI (tI (sI (tI (sI (tI (sI (sI (sI (sI (sI (sI σ 2 a) 4 en) 5 bd) 6 bp) 23 np) 29 cd) 27 fc) 32 op) 30 fw) 31 ws) 24 fh) 26 fn) 40 ba) 41 fm) 33 nm) 34 fl) 35 fa) 36 bs) 37 bf) 38 bj) 39 bl) 25 fs) 2 n_4) 2 n_11) 4 n_12) 5 n_13) 6 n_14) 23 n_15) 29 n_16) 27 f_17) 32 n_18) 30 f_19) 31 n_20) 24 f_21) 26 f_22) 40 n_23) 41 f_24) 33 n_25) 34 f_26) 35 f_27) 36 f_28) 37 f_29) 38 f_30) 39 n_31) 25 f_32)) H := hP
              have hD : va_D A (mwd y ad zw (tI (sI (tI (tI (tI (tI (tJ (sI (tI (sI (tI (tI (sI (tI (sI (tI (sI (sI (sI (sI (sI (sI (sI (tI (sI (tI (tI (tI (tI (tJ (sI (tI (sI (tI (tI (sI (tI (sI (tI (sI (sI (sI (sI (sI (sI σ 2 a) 4 en) 5 bd) 6 bp) 23 np) 29 cd) 27 fc) 32 op) 30 fw) 31 ws) 24 fh) 26 fn) 40 ba) 41 fm) 33 nm) 34 fl) 35 fa) 36 bs) 37 bf) 38 bj) 39 bl) 25 fs) 2 n_4) 2 n_11) 4 n_12) 5 n_13) 6 n_14) 23 n_15) 29 n_16) 27 f_17) 32 n_18) 30 f_19) 31 n_20) 24 f_21) 26 f_22) 40 n_23) 41 f_24) 33 n_25) 34 f_26) 35 f_27) 36 f_28) 37 f_29) 38 f_30) 39 n_31) 25 f_32)) := hD
              replace hw : ((n_4).toInt ≤ n_11.toInt ∧ n_11.toInt ≤ ((σ.1 3)).toInt ∧ (∀ q : Nat, 5 ≤ q → f_21 q = fh q) ∧ (n_13.toInt = 0 → (n_4).toInt + 1 ≤ n_11.toInt ∧ HI f_21 n_25.toInt n_11.toInt ∧ n_18.toInt = n_31.toInt ∧ 0 ≤ n_31.toInt ∧ n_31.toInt ≤ 8 ∧ 0 ≤ n_16.toInt ∧ n_16.toInt + n_31.toInt ≤ n_11.toInt ∧ PE f_17 n_16.toInt.toNat (f_21 4).toInt n_31.toInt.toNat f_28 f_29 f_30 [] true none)) ∧ bI f_27 0 23 ∧ bI f_22 0 9999 ∧ bI f_32 0 16 := hw
              obtain ⟨hw, hg_33, hg_34, hg_35⟩ := hw
              obtain ⟨hp1, hp2, hp3, hpi⟩ := hw
              have hff : ∀ q : Nat, 5 ≤ q → f_21 q = σ.2.2.1 24 q := fun q h9 => (hp3 q h9).trans (hfr q h9)
              rcases Classical.em (n_13.toInt = 0) with hbz | hbz
              · obtain ⟨hg1, hg2, hg3, hg4, hg5, hg6, hg7, hg8⟩ := hpi hbz
                clear hpi
                refine lv_goto (tgt := 68) hx hb dX12_reads_47 (by decide) ?_
                refine lv_goto (tgt := 2) hx hb dX12_reads_68 (by decide) ?_
                have l10 : (1 : Int32).toInt = 1 := rfl
                have l00 : (0 : Int32).toInt = 0 := rfl
                have hP : va_P D vwCl (mwd y ad zw (tI (sI (tI (tI (tI (tI (tJ (sI (tI (sI (tI (tI (sI (tI (sI (tI (sI (sI (sI (sI (sI (sI σ 2 n_11) 4 n_12) 5 n_13) 6 n_14) 23 n_15) 29 n_16) 27 f_17) 32 n_18) 30 f_19) 31 n_20) 24 f_21) 26 f_22) 40 n_23) 41 f_24) 33 n_25) 34 f_26) 35 f_27) 36 f_28) 37 f_29) 38 f_30) 39 n_31) 25 f_32)) H := hP
                have hD : va_D A (mwd y ad zw (tI (sI (tI (tI (tI (tI (tJ (sI (tI (sI (tI (tI (sI (tI (sI (tI (sI (sI (sI (sI (sI (sI σ 2 n_11) 4 n_12) 5 n_13) 6 n_14) 23 n_15) 29 n_16) 27 f_17) 32 n_18) 30 f_19) 31 n_20) 24 f_21) 26 f_22) 40 n_23) 41 f_24) 33 n_25) 34 f_26) 35 f_27) 36 f_28) 37 f_29) 38 f_30) 39 n_31) 25 f_32)) := hD
                exact ih_loop mo n_11 n_12 n_13 n_14 n_15 n_16 f_17 n_18 f_19 n_20 f_21 f_22 n_23 f_24 n_25 f_26 f_27 f_28 f_29 f_30 n_31 f_32 H locs ls (by omega) (by omega) (by omega) (by omega) (by omega) hff hg2 (by omega) ⟨by omega, by omega⟩ ⟨by omega, by omega⟩ (by omega) hg8 hg_34 hg_33 hg_35 (by omega) hP hD hS (lv_sub hl [1, 2] rfl)
              · clear hpi
                refine lv_goto (tgt := 68) hx hb dX12_reads_47 (by decide) ?_
                refine lv_goto (tgt := 2) hx hb dX12_reads_68 (by decide) ?_
                refine lv_iload_n hx hb dX12_reads_2 rfl (lv_at hl 1 rfl) ?_
                refine lv_if_eq (tgt := 71) hx hb dX12_reads_3 (by decide) (fun c_36 => ?_) (fun c_36 => ?_)
                · have kc_36 : mo.toInt = 0 := by have h9 := c_36; simp only [ge_iff_le, gt_iff_lt, x_lt, x_le, x_eq, ne_eq, Int32.not_lt, Int32.not_le] at h9; simp only [Int32.reduceToInt] at h9; omega
                  have hP : va_P D vwCl (mwd y ad zw (tI (sI (tI (tI (tI (tI (tJ (sI (tI (sI (tI (tI (sI (tI (sI (tI (sI (sI (sI (sI (sI (sI σ 2 n_11) 4 n_12) 5 n_13) 6 n_14) 23 n_15) 29 n_16) 27 f_17) 32 n_18) 30 f_19) 31 n_20) 24 f_21) 26 f_22) 40 n_23) 41 f_24) 33 n_25) 34 f_26) 35 f_27) 36 f_28) 37 f_29) 38 f_30) 39 n_31) 25 f_32)) H := hP
                  have hD : va_D A (mwd y ad zw (tI (sI (tI (tI (tI (tI (tJ (sI (tI (sI (tI (tI (sI (tI (sI (tI (sI (sI (sI (sI (sI (sI σ 2 n_11) 4 n_12) 5 n_13) 6 n_14) 23 n_15) 29 n_16) 27 f_17) 32 n_18) 30 f_19) 31 n_20) 24 f_21) 26 f_22) 40 n_23) 41 f_24) 33 n_25) 34 f_26) 35 f_27) 36 f_28) 37 f_29) 38 f_30) 39 n_31) 25 f_32)) := hD
                  exact x_vretW (u := (n_11, n_12, n_13, n_14, n_15, n_16, f_17, n_18, f_19, n_20, f_21, f_22, n_23, f_24, n_25, f_26, f_27, f_28, f_29, f_30, n_31, f_32)) hx hb hr hQ (by (try dsimp only); exact ⟨⟨by omega, by omega, hff, fun h9 => absurd h9 (by omega)⟩, hg_33, hg_34, hg_35⟩) hP hD hK hS dX12_reads_71 hlocks
                · have kc_36 : mo.toInt ≠ 0 := by have h9 := c_36; simp only [ge_iff_le, gt_iff_lt, x_lt, x_le, x_eq, ne_eq, Int32.not_lt, Int32.not_le] at h9; simp only [Int32.reduceToInt] at h9; omega
                  refine lv_aload_n hx hb dX12_reads_6 rfl (lv_at hl 2 rfl) ?_
                  refine va_get (D := D) (ci := 11) (v := .int n_13) (C := RX12) (T := TX12) (N := 85) hx hb hts inX12 hown hK hP 0 mwd_o0 rfl 5 (by decide) fl191 (fun _ h9 => h9) rfl dX12_reads_7 ?_
                  refine lv_if_ne (tgt := 71) hx hb dX12_reads_10 (by decide) (fun c_37 => ?_) (fun c_37 => ?_)
                  · have kc_37 : n_13.toInt ≠ 0 := by have h9 := c_37; simp only [ge_iff_le, gt_iff_lt, x_lt, x_le, x_eq, ne_eq, Int32.not_lt, Int32.not_le] at h9; simp only [Int32.reduceToInt] at h9; omega
                    have hP : va_P D vwCl (mwd y ad zw (tI (sI (tI (tI (tI (tI (tJ (sI (tI (sI (tI (tI (sI (tI (sI (tI (sI (sI (sI (sI (sI (sI σ 2 n_11) 4 n_12) 5 n_13) 6 n_14) 23 n_15) 29 n_16) 27 f_17) 32 n_18) 30 f_19) 31 n_20) 24 f_21) 26 f_22) 40 n_23) 41 f_24) 33 n_25) 34 f_26) 35 f_27) 36 f_28) 37 f_29) 38 f_30) 39 n_31) 25 f_32)) H := hP
                    have hD : va_D A (mwd y ad zw (tI (sI (tI (tI (tI (tI (tJ (sI (tI (sI (tI (tI (sI (tI (sI (tI (sI (sI (sI (sI (sI (sI σ 2 n_11) 4 n_12) 5 n_13) 6 n_14) 23 n_15) 29 n_16) 27 f_17) 32 n_18) 30 f_19) 31 n_20) 24 f_21) 26 f_22) 40 n_23) 41 f_24) 33 n_25) 34 f_26) 35 f_27) 36 f_28) 37 f_29) 38 f_30) 39 n_31) 25 f_32)) := hD
                    exact x_vretW (u := (n_11, n_12, n_13, n_14, n_15, n_16, f_17, n_18, f_19, n_20, f_21, f_22, n_23, f_24, n_25, f_26, f_27, f_28, f_29, f_30, n_31, f_32)) hx hb hr hQ (by (try dsimp only); exact ⟨⟨by omega, by omega, hff, fun h9 => absurd h9 (by omega)⟩, hg_33, hg_34, hg_35⟩) hP hD hK hS dX12_reads_71 hlocks
                  · have kc_37 : n_13.toInt = 0 := by have h9 := c_37; simp only [ge_iff_le, gt_iff_lt, x_lt, x_le, x_eq, ne_eq, Int32.not_lt, Int32.not_le] at h9; simp only [Int32.reduceToInt] at h9; omega
                    exfalso
                    omega
          · have kc_5 : bl.toInt > 0 := by have h9 := c_5; simp only [ge_iff_le, gt_iff_lt, x_lt, x_le, x_eq, ne_eq, Int32.not_lt, Int32.not_le] at h9; simp only [Int32.reduceToInt] at h9; omega
            refine lv_iload_n hx hb dX12_reads_25 rfl (lv_at hl 0 rfl) ?_
            refine lv_bipush (v := 125) hx hb dX12_reads_26 (by decide) ?_
            refine lv_icmp_ne (tgt := 38) hx hb dX12_reads_28 (by decide) (fun c_38 => ?_) (fun c_38 => ?_)
            · have kc_38 : r_3.toInt ≠ 125 := by have h9 := c_38; simp only [ge_iff_le, gt_iff_lt, x_lt, x_le, x_eq, ne_eq, Int32.not_lt, Int32.not_le] at h9; simp only [Int32.reduceToInt] at h9; omega
              refine lv_iload_n hx hb dX12_reads_38 rfl (lv_at hl 0 rfl) ?_
              refine lv_iconst (v := (-1)) hx hb dX12_reads_39 (by decide) ?_
              refine lv_icmp_eq (tgt := 50) hx hb dX12_reads_40 (by decide) (fun c_39 => ?_) (fun c_39 => ?_)
              · have kc_39 : r_3.toInt = (-1) := by have h9 := c_39; simp only [ge_iff_le, gt_iff_lt, x_lt, x_le, x_eq, ne_eq, Int32.not_lt, Int32.not_le] at h9; simp only [Int32.reduceToInt] at h9; omega
                refine lv_iconst (v := 0) hx hb dX12_reads_50 (by decide) ?_
                refine lv_istore_n (lv' := [(1, .int 0), (2, .int r_3), (0, .ref (ad 1))]) hx hb dX12_reads_51 rfl hl (by decide) rfl (fun ls hl => ?_)
                refine lv_aload_n hx hb dX12_reads_52 rfl (lv_at hl 2 rfl) ?_
                refine va_get (D := D) (ci := 11) (v := .int bl) (C := RX12) (T := TX12) (N := 85) hx hb hts inX12 hown hK hP 0 mwd_o0 rfl 39 (by decide) fl332 (fun _ h9 => h9) rfl dX12_reads_53 ?_
                refine lv_if_le (tgt := 68) hx hb dX12_reads_56 (by decide) (fun c_40 => ?_) (fun c_40 => ?_)
                · have kc_40 : bl.toInt ≤ 0 := by have h9 := c_40; simp only [ge_iff_le, gt_iff_lt, x_lt, x_le, x_eq, ne_eq, Int32.not_lt, Int32.not_le] at h9; simp only [Int32.reduceToInt] at h9; omega
                  refine lv_goto (tgt := 2) hx hb dX12_reads_68 (by decide) ?_
                  have l10 : (1 : Int32).toInt = 1 := rfl
                  have l00 : (0 : Int32).toInt = 0 := rfl
                  have hP : va_P D vwCl (mwd y ad zw (tI (sI (tI (tI (tI (tI (tJ (sI (tI (sI (tI (tI (sI (tI (sI (tI (sI (sI (sI (sI (sI (sI σ 2 n_4) 4 en) 5 bd) 6 bp) 23 np) 29 cd) 27 fc) 32 op) 30 fw) 31 ws) 24 fh) 26 fn) 40 ba) 41 fm) 33 nm) 34 fl) 35 fa) 36 bs) 37 bf) 38 bj) 39 bl) 25 fs)) H := hP
                  have hD : va_D A (mwd y ad zw (tI (sI (tI (tI (tI (tI (tJ (sI (tI (sI (tI (tI (sI (tI (sI (tI (sI (sI (sI (sI (sI (sI σ 2 n_4) 4 en) 5 bd) 6 bp) 23 np) 29 cd) 27 fc) 32 op) 30 fw) 31 ws) 24 fh) 26 fn) 40 ba) 41 fm) 33 nm) 34 fl) 35 fa) 36 bs) 37 bf) 38 bj) 39 bl) 25 fs)) := hD
                  exact ih_loop 0 n_4 en bd bp np cd fc op fw ws fh fn ba fm nm fl fa bs bf bj bl fs H locs ls (by omega) (by omega) (by omega) (by omega) (by omega) hfr (HI_mono hHI (by omega)) (by omega) ⟨by omega, by omega⟩ ⟨by omega, by omega⟩ (by omega) hPE hfn hfa hfs (by omega) hP hD hS (lv_sub hl [0, 2] rfl)
                · have kc_40 : bl.toInt > 0 := by have h9 := c_40; simp only [ge_iff_le, gt_iff_lt, x_lt, x_le, x_eq, ne_eq, Int32.not_lt, Int32.not_le] at h9; simp only [Int32.reduceToInt] at h9; omega
                  refine lv_aload_n hx hb dX12_reads_59 rfl (lv_at hl 2 rfl) ?_
                  refine lv_iconst (v := 1) hx hb dX12_reads_60 (by decide) ?_
                  refine lv_aload_n hx hb dX12_reads_61 rfl (lv_at hl 2 rfl) ?_
                  refine va_get (D := D) (ci := 11) (v := .int n_4) (C := RX12) (T := TX12) (N := 85) hx hb hts inX12 hown hK hP 0 mwd_o0 rfl 2 (by decide) fl197 (fun _ h9 => h9) rfl dX12_reads_62 ?_
                  refine x_callvW (va_runV (As := [.int 1, .int n_4]) (rest := []) ⟨hx, hb, hml, hown, hts⟩ (q_fail l D y H.size ad zw (sI (tI (sI (tI (tI (tI (tI (tJ (sI (tI (sI (tI (tI (sI (tI (sI (tI (sI (sI (sI (sI (sI (sI σ 2 a) 4 en) 5 bd) 6 bp) 23 np) 29 cd) 27 fc) 32 op) 30 fw) 31 ws) 24 fh) 26 fn) 40 ba) 41 fm) 33 nm) 34 fl) 35 fa) 36 bs) 37 bf) 38 bj) 39 bl) 25 fs) 2 n_4) 1 n_4) (cwV 2 hts g_q_reads_1 rfl rfl rfl (by decide +kernel) ⟨Nat.le_of_ble_eq_true rfl, Nat.le_of_ble_eq_true rfl⟩) (x_preV (q := (RX12, TX12, 85)) hK hP hD (ci := 11) (q0 := 0) rfl mwd_o0) rfl rfl hl.1 rfl (lv_room (Nat.le_of_ble_eq_true rfl)) dX12_reads_65 ⟨Nat.le_of_ble_eq_true rfl, Nat.le_of_ble_eq_true rfl⟩) hP hD hS hA (fun u H locs hw hP hD hS => ?_)
                  obtain ⟨b_41, b_42⟩ := u
                  try dsimp only at hw
                  have hP : va_P D vwCl (mwd y ad zw (sI (sI (sI (tI (sI (tI (tI (tI (tI (tJ (sI (tI (sI (tI (tI (sI (tI (sI (tI (sI (sI (sI (sI (sI (sI σ 2 a) 4 en) 5 bd) 6 bp) 23 np) 29 cd) 27 fc) 32 op) 30 fw) 31 ws) 24 fh) 26 fn) 40 ba) 41 fm) 33 nm) 34 fl) 35 fa) 36 bs) 37 bf) 38 bj) 39 bl) 25 fs) 2 n_4) 5 b_41) 6 b_42)) H := hP
                  have hD : va_D A (mwd y ad zw (sI (sI (sI (tI (sI (tI (tI (tI (tI (tJ (sI (tI (sI (tI (tI (sI (tI (sI (tI (sI (sI (sI (sI (sI (sI σ 2 a) 4 en) 5 bd) 6 bp) 23 np) 29 cd) 27 fc) 32 op) 30 fw) 31 ws) 24 fh) 26 fn) 40 ba) 41 fm) 33 nm) 34 fl) 35 fa) 36 bs) 37 bf) 38 bj) 39 bl) 25 fs) 2 n_4) 5 b_41) 6 b_42)) := hD
                  replace hw : b_41 = if bd = 0 then (1 : Int32) else bd := hw
                  have hbd : b_41.toInt ≠ 0 := by rw [hw]; split <;> first | decide | (rename_i h9; intro h8; exact h9 (Int32.toInt_inj.mp (by rw [h8]; rfl)))
                  clear hw
                  refine lv_goto (tgt := 2) hx hb dX12_reads_68 (by decide) ?_
                  refine lv_iload_n hx hb dX12_reads_2 rfl (lv_at hl 0 rfl) ?_
                  refine lv_if_eq (tgt := 71) hx hb dX12_reads_3 (by decide) (fun c_43 => ?_) (fun c_43 => ?_)
                  · have hP : va_P D vwCl (mwd y ad zw (tI (sI (tI (tI (tI (tI (tJ (sI (tI (sI (tI (tI (sI (tI (sI (tI (sI (sI (sI (sI (sI (sI σ 2 n_4) 4 en) 5 b_41) 6 b_42) 23 np) 29 cd) 27 fc) 32 op) 30 fw) 31 ws) 24 fh) 26 fn) 40 ba) 41 fm) 33 nm) 34 fl) 35 fa) 36 bs) 37 bf) 38 bj) 39 bl) 25 fs)) H := hP
                    have hD : va_D A (mwd y ad zw (tI (sI (tI (tI (tI (tI (tJ (sI (tI (sI (tI (tI (sI (tI (sI (tI (sI (sI (sI (sI (sI (sI σ 2 n_4) 4 en) 5 b_41) 6 b_42) 23 np) 29 cd) 27 fc) 32 op) 30 fw) 31 ws) 24 fh) 26 fn) 40 ba) 41 fm) 33 nm) 34 fl) 35 fa) 36 bs) 37 bf) 38 bj) 39 bl) 25 fs)) := hD
                    exact x_vretW (u := (n_4, en, b_41, b_42, np, cd, fc, op, fw, ws, fh, fn, ba, fm, nm, fl, fa, bs, bf, bj, bl, fs)) hx hb hr hQ (by (try dsimp only); exact ⟨⟨by omega, by omega, hfr, fun h9 => absurd h9 (by omega)⟩, hfa, hfn, hfs⟩) hP hD hK hS dX12_reads_71 hlocks
                  · exact absurd (by decide) c_43
              · have kc_39 : r_3.toInt ≠ (-1) := by have h9 := c_39; simp only [ge_iff_le, gt_iff_lt, x_lt, x_le, x_eq, ne_eq, Int32.not_lt, Int32.not_le] at h9; simp only [Int32.reduceToInt] at h9; omega
                refine lv_aload_n hx hb dX12_reads_43 rfl (lv_at hl 2 rfl) ?_
                refine x_callvW (va_runV (As := []) (rest := []) ⟨hx, hb, hml, hown, hts⟩ (q_statement l D y H.size ad zw (sI (tI (sI (tI (tI (tI (tI (tJ (sI (tI (sI (tI (tI (sI (tI (sI (tI (sI (sI (sI (sI (sI (sI σ 2 a) 4 en) 5 bd) 6 bp) 23 np) 29 cd) 27 fc) 32 op) 30 fw) 31 ws) 24 fh) 26 fn) 40 ba) 41 fm) 33 nm) 34 fl) 35 fa) 36 bs) 37 bf) 38 bj) 39 bl) 25 fs) 2 n_4) (show 0 ≤ (n_4).toInt from by first | omega | decide) (show (n_4).toInt ≤ ((σ.1 3)).toInt from by first | omega | decide) (show ((σ.1 3)).toInt ≤ 700 from by first | omega | decide) (show (bd).toInt = 0 from by first | omega | decide) (HI_mono hHI (show a.toInt ≤ n_4.toInt from by omega)) (show (bl).toInt = (op).toInt from by first | omega | decide) (show 0 ≤ (bl).toInt from by first | omega | decide) (show (op).toInt ≤ 8 from by first | omega | decide) (show 0 ≤ (cd).toInt from by first | omega | decide) (show (cd).toInt + (bl).toInt ≤ (n_4).toInt from by first | omega | decide) hPE hfa hfn hfs) (cwV 0 hts g_q_reads_2 rfl rfl rfl (by decide +kernel) ⟨Nat.le_of_ble_eq_true rfl, Nat.le_of_ble_eq_true rfl⟩) (x_preV (q := (RX12, TX12, 85)) hK hP hD (ci := 11) (q0 := 0) rfl mwd_o0) rfl rfl hl.1 rfl (lv_room (Nat.le_of_ble_eq_true rfl)) dX12_reads_44 ⟨Nat.le_of_ble_eq_true rfl, Nat.le_of_ble_eq_true rfl⟩) hP hD hS hA (fun u H locs hw hP hD hS => ?_)
                obtain ⟨n_44, n_45, n_46, n_47, n_48, n_49, f_50, n_51, f_52, n_53, f_54, f_55, n_56, f_57, n_58, f_59, f_60, f_61, f_62, f_63, n_64, f_65⟩ := u
                try dsimp only at hw
                have hP : va_P D vwCl (mwd y ad zw (tI (sI (tI (tI (tI (tI (tJ (sI (tI (sI (tI (tI (sI (tI (sI (tI (sI (sI (sI (sI (sI (sI (sI (tI (sI (tI (tI (tI (tI (tJ (sI (tI (sI (tI (tI (sI (tI (sI (tI (sI (sI (sI (sI (sI (sI σ 2 a) 4 en) 5 bd) 6 bp) 23 np) 29 cd) 27 fc) 32 op) 30 fw) 31 ws) 24 fh) 26 fn) 40 ba) 41 fm) 33 nm) 34 fl) 35 fa) 36 bs) 37 bf) 38 bj) 39 bl) 25 fs) 2 n_4) 2 n_44) 4 n_45) 5 n_46) 6 n_47) 23 n_48) 29 n_49) 27 f_50) 32 n_51) 30 f_52) 31 n_53) 24 f_54) 26 f_55) 40 n_56) 41 f_57) 33 n_58) 34 f_59) 35 f_60) 36 f_61) 37 f_62) 38 f_63) 39 n_64) 25 f_65)) H := hP
                have hD : va_D A (mwd y ad zw (tI (sI (tI (tI (tI (tI (tJ (sI (tI (sI (tI (tI (sI (tI (sI (tI (sI (sI (sI (sI (sI (sI (sI (tI (sI (tI (tI (tI (tI (tJ (sI (tI (sI (tI (tI (sI (tI (sI (tI (sI (sI (sI (sI (sI (sI σ 2 a) 4 en) 5 bd) 6 bp) 23 np) 29 cd) 27 fc) 32 op) 30 fw) 31 ws) 24 fh) 26 fn) 40 ba) 41 fm) 33 nm) 34 fl) 35 fa) 36 bs) 37 bf) 38 bj) 39 bl) 25 fs) 2 n_4) 2 n_44) 4 n_45) 5 n_46) 6 n_47) 23 n_48) 29 n_49) 27 f_50) 32 n_51) 30 f_52) 31 n_53) 24 f_54) 26 f_55) 40 n_56) 41 f_57) 33 n_58) 34 f_59) 35 f_60) 36 f_61) 37 f_62) 38 f_63) 39 n_64) 25 f_65)) := hD
                replace hw : ((n_4).toInt ≤ n_44.toInt ∧ n_44.toInt ≤ ((σ.1 3)).toInt ∧ (∀ q : Nat, 5 ≤ q → f_54 q = fh q) ∧ (n_46.toInt = 0 → (n_4).toInt + 1 ≤ n_44.toInt ∧ HI f_54 n_58.toInt n_44.toInt ∧ n_51.toInt = n_64.toInt ∧ 0 ≤ n_64.toInt ∧ n_64.toInt ≤ 8 ∧ 0 ≤ n_49.toInt ∧ n_49.toInt + n_64.toInt ≤ n_44.toInt ∧ PE f_50 n_49.toInt.toNat (f_54 4).toInt n_64.toInt.toNat f_61 f_62 f_63 [] true none)) ∧ bI f_60 0 23 ∧ bI f_55 0 9999 ∧ bI f_65 0 16 := hw
                obtain ⟨hw, hg_66, hg_67, hg_68⟩ := hw
                obtain ⟨hp1, hp2, hp3, hpi⟩ := hw
                have hff : ∀ q : Nat, 5 ≤ q → f_54 q = σ.2.2.1 24 q := fun q h9 => (hp3 q h9).trans (hfr q h9)
                rcases Classical.em (n_46.toInt = 0) with hbz | hbz
                · obtain ⟨hg1, hg2, hg3, hg4, hg5, hg6, hg7, hg8⟩ := hpi hbz
                  clear hpi
                  refine lv_goto (tgt := 68) hx hb dX12_reads_47 (by decide) ?_
                  refine lv_goto (tgt := 2) hx hb dX12_reads_68 (by decide) ?_
                  have l10 : (1 : Int32).toInt = 1 := rfl
                  have l00 : (0 : Int32).toInt = 0 := rfl
                  have hP : va_P D vwCl (mwd y ad zw (tI (sI (tI (tI (tI (tI (tJ (sI (tI (sI (tI (tI (sI (tI (sI (tI (sI (sI (sI (sI (sI (sI σ 2 n_44) 4 n_45) 5 n_46) 6 n_47) 23 n_48) 29 n_49) 27 f_50) 32 n_51) 30 f_52) 31 n_53) 24 f_54) 26 f_55) 40 n_56) 41 f_57) 33 n_58) 34 f_59) 35 f_60) 36 f_61) 37 f_62) 38 f_63) 39 n_64) 25 f_65)) H := hP
                  have hD : va_D A (mwd y ad zw (tI (sI (tI (tI (tI (tI (tJ (sI (tI (sI (tI (tI (sI (tI (sI (tI (sI (sI (sI (sI (sI (sI σ 2 n_44) 4 n_45) 5 n_46) 6 n_47) 23 n_48) 29 n_49) 27 f_50) 32 n_51) 30 f_52) 31 n_53) 24 f_54) 26 f_55) 40 n_56) 41 f_57) 33 n_58) 34 f_59) 35 f_60) 36 f_61) 37 f_62) 38 f_63) 39 n_64) 25 f_65)) := hD
                  exact ih_loop mo n_44 n_45 n_46 n_47 n_48 n_49 f_50 n_51 f_52 n_53 f_54 f_55 n_56 f_57 n_58 f_59 f_60 f_61 f_62 f_63 n_64 f_65 H locs ls (by omega) (by omega) (by omega) (by omega) (by omega) hff hg2 (by omega) ⟨by omega, by omega⟩ ⟨by omega, by omega⟩ (by omega) hg8 hg_67 hg_66 hg_68 (by omega) hP hD hS (lv_sub hl [1, 2] rfl)
                · clear hpi
                  refine lv_goto (tgt := 68) hx hb dX12_reads_47 (by decide) ?_
                  refine lv_goto (tgt := 2) hx hb dX12_reads_68 (by decide) ?_
                  refine lv_iload_n hx hb dX12_reads_2 rfl (lv_at hl 1 rfl) ?_
                  refine lv_if_eq (tgt := 71) hx hb dX12_reads_3 (by decide) (fun c_69 => ?_) (fun c_69 => ?_)
                  · have kc_69 : mo.toInt = 0 := by have h9 := c_69; simp only [ge_iff_le, gt_iff_lt, x_lt, x_le, x_eq, ne_eq, Int32.not_lt, Int32.not_le] at h9; simp only [Int32.reduceToInt] at h9; omega
                    have hP : va_P D vwCl (mwd y ad zw (tI (sI (tI (tI (tI (tI (tJ (sI (tI (sI (tI (tI (sI (tI (sI (tI (sI (sI (sI (sI (sI (sI σ 2 n_44) 4 n_45) 5 n_46) 6 n_47) 23 n_48) 29 n_49) 27 f_50) 32 n_51) 30 f_52) 31 n_53) 24 f_54) 26 f_55) 40 n_56) 41 f_57) 33 n_58) 34 f_59) 35 f_60) 36 f_61) 37 f_62) 38 f_63) 39 n_64) 25 f_65)) H := hP
                    have hD : va_D A (mwd y ad zw (tI (sI (tI (tI (tI (tI (tJ (sI (tI (sI (tI (tI (sI (tI (sI (tI (sI (sI (sI (sI (sI (sI σ 2 n_44) 4 n_45) 5 n_46) 6 n_47) 23 n_48) 29 n_49) 27 f_50) 32 n_51) 30 f_52) 31 n_53) 24 f_54) 26 f_55) 40 n_56) 41 f_57) 33 n_58) 34 f_59) 35 f_60) 36 f_61) 37 f_62) 38 f_63) 39 n_64) 25 f_65)) := hD
                    exact x_vretW (u := (n_44, n_45, n_46, n_47, n_48, n_49, f_50, n_51, f_52, n_53, f_54, f_55, n_56, f_57, n_58, f_59, f_60, f_61, f_62, f_63, n_64, f_65)) hx hb hr hQ (by (try dsimp only); exact ⟨⟨by omega, by omega, hff, fun h9 => absurd h9 (by omega)⟩, hg_66, hg_67, hg_68⟩) hP hD hK hS dX12_reads_71 hlocks
                  · have kc_69 : mo.toInt ≠ 0 := by have h9 := c_69; simp only [ge_iff_le, gt_iff_lt, x_lt, x_le, x_eq, ne_eq, Int32.not_lt, Int32.not_le] at h9; simp only [Int32.reduceToInt] at h9; omega
                    refine lv_aload_n hx hb dX12_reads_6 rfl (lv_at hl 2 rfl) ?_
                    refine va_get (D := D) (ci := 11) (v := .int n_46) (C := RX12) (T := TX12) (N := 85) hx hb hts inX12 hown hK hP 0 mwd_o0 rfl 5 (by decide) fl191 (fun _ h9 => h9) rfl dX12_reads_7 ?_
                    refine lv_if_ne (tgt := 71) hx hb dX12_reads_10 (by decide) (fun c_70 => ?_) (fun c_70 => ?_)
                    · have kc_70 : n_46.toInt ≠ 0 := by have h9 := c_70; simp only [ge_iff_le, gt_iff_lt, x_lt, x_le, x_eq, ne_eq, Int32.not_lt, Int32.not_le] at h9; simp only [Int32.reduceToInt] at h9; omega
                      have hP : va_P D vwCl (mwd y ad zw (tI (sI (tI (tI (tI (tI (tJ (sI (tI (sI (tI (tI (sI (tI (sI (tI (sI (sI (sI (sI (sI (sI σ 2 n_44) 4 n_45) 5 n_46) 6 n_47) 23 n_48) 29 n_49) 27 f_50) 32 n_51) 30 f_52) 31 n_53) 24 f_54) 26 f_55) 40 n_56) 41 f_57) 33 n_58) 34 f_59) 35 f_60) 36 f_61) 37 f_62) 38 f_63) 39 n_64) 25 f_65)) H := hP
                      have hD : va_D A (mwd y ad zw (tI (sI (tI (tI (tI (tI (tJ (sI (tI (sI (tI (tI (sI (tI (sI (tI (sI (sI (sI (sI (sI (sI σ 2 n_44) 4 n_45) 5 n_46) 6 n_47) 23 n_48) 29 n_49) 27 f_50) 32 n_51) 30 f_52) 31 n_53) 24 f_54) 26 f_55) 40 n_56) 41 f_57) 33 n_58) 34 f_59) 35 f_60) 36 f_61) 37 f_62) 38 f_63) 39 n_64) 25 f_65)) := hD
                      exact x_vretW (u := (n_44, n_45, n_46, n_47, n_48, n_49, f_50, n_51, f_52, n_53, f_54, f_55, n_56, f_57, n_58, f_59, f_60, f_61, f_62, f_63, n_64, f_65)) hx hb hr hQ (by (try dsimp only); exact ⟨⟨by omega, by omega, hff, fun h9 => absurd h9 (by omega)⟩, hg_66, hg_67, hg_68⟩) hP hD hK hS dX12_reads_71 hlocks
                    · have kc_70 : n_46.toInt = 0 := by have h9 := c_70; simp only [ge_iff_le, gt_iff_lt, x_lt, x_le, x_eq, ne_eq, Int32.not_lt, Int32.not_le] at h9; simp only [Int32.reduceToInt] at h9; omega
                      exfalso
                      omega
            · have kc_38 : r_3.toInt = 125 := by have h9 := c_38; simp only [ge_iff_le, gt_iff_lt, x_lt, x_le, x_eq, ne_eq, Int32.not_lt, Int32.not_le] at h9; simp only [Int32.reduceToInt] at h9; omega
              refine lv_aload_n hx hb dX12_reads_31 rfl (lv_at hl 2 rfl) ?_
              refine x_callvW (va_runV (As := []) (rest := []) ⟨hx, hb, hml, hown, hts⟩ (q_closesBlock l D y H.size ad zw (sI (tI (sI (tI (tI (tI (tI (tJ (sI (tI (sI (tI (tI (sI (tI (sI (tI (sI (sI (sI (sI (sI (sI σ 2 a) 4 en) 5 bd) 6 bp) 23 np) 29 cd) 27 fc) 32 op) 30 fw) 31 ws) 24 fh) 26 fn) 40 ba) 41 fm) 33 nm) 34 fl) 35 fa) 36 bs) 37 bf) 38 bj) 39 bl) 25 fs) 2 n_4) (show 0 ≤ (n_4).toInt from by first | omega | decide) (show (n_4).toInt ≤ ((σ.1 3)).toInt from by first | omega | decide) (show ((σ.1 3)).toInt ≤ 700 from by first | omega | decide) (show (bd).toInt = 0 from by first | omega | decide) (show (bl).toInt = (op).toInt from by first | omega | decide) (show 1 ≤ (bl).toInt from by first | omega | decide) (show (op).toInt ≤ 8 from by first | omega | decide) (show 0 ≤ (cd).toInt from by first | omega | decide) (show (cd).toInt + (bl).toInt ≤ (n_4).toInt from by first | omega | decide) (show (n_4).toInt < ((σ.1 3)).toInt from by first | omega | decide) hPE) (cwV 0 hts g_q_reads_3 rfl rfl rfl (by decide +kernel) ⟨Nat.le_of_ble_eq_true rfl, Nat.le_of_ble_eq_true rfl⟩) (x_preV (q := (RX12, TX12, 85)) hK hP hD (ci := 11) (q0 := 0) rfl mwd_o0) rfl rfl hl.1 rfl (lv_room (Nat.le_of_ble_eq_true rfl)) dX12_reads_32 ⟨Nat.le_of_ble_eq_true rfl, Nat.le_of_ble_eq_true rfl⟩) hP hD hS hA (fun u H locs hw hP hD hS => ?_)
              obtain ⟨n_71, n_72, n_73, n_74, n_75, n_76, f_77, f_78, f_79, f_80, n_81⟩ := u
              try dsimp only at hw
              have hP : va_P D vwCl (mwd y ad zw (sI (tI (tI (tI (tI (sI (sI (sI (sI (sI (sI (sI (tI (sI (tI (tI (tI (tI (tJ (sI (tI (sI (tI (tI (sI (tI (sI (tI (sI (sI (sI (sI (sI (sI σ 2 a) 4 en) 5 bd) 6 bp) 23 np) 29 cd) 27 fc) 32 op) 30 fw) 31 ws) 24 fh) 26 fn) 40 ba) 41 fm) 33 nm) 34 fl) 35 fa) 36 bs) 37 bf) 38 bj) 39 bl) 25 fs) 2 n_4) 4 n_71) 2 n_72) 5 n_73) 6 n_74) 32 n_75) 29 n_76) 27 f_77) 36 f_78) 37 f_79) 38 f_80) 39 n_81)) H := hP
              have hD : va_D A (mwd y ad zw (sI (tI (tI (tI (tI (sI (sI (sI (sI (sI (sI (sI (tI (sI (tI (tI (tI (tI (tJ (sI (tI (sI (tI (tI (sI (tI (sI (tI (sI (sI (sI (sI (sI (sI σ 2 a) 4 en) 5 bd) 6 bp) 23 np) 29 cd) 27 fc) 32 op) 30 fw) 31 ws) 24 fh) 26 fn) 40 ba) 41 fm) 33 nm) 34 fl) 35 fa) 36 bs) 37 bf) 38 bj) 39 bl) 25 fs) 2 n_4) 4 n_71) 2 n_72) 5 n_73) 6 n_74) 32 n_75) 29 n_76) 27 f_77) 36 f_78) 37 f_79) 38 f_80) 39 n_81)) := hD
              replace hw : (n_4).toInt ≤ n_72.toInt ∧ n_72.toInt ≤ ((σ.1 3)).toInt ∧ (n_73.toInt = 0 → (n_4).toInt + 1 ≤ n_72.toInt ∧ n_75.toInt = n_81.toInt ∧ 0 ≤ n_81.toInt ∧ n_81.toInt ≤ 8 ∧ 0 ≤ n_76.toInt ∧ n_76.toInt + n_81.toInt ≤ n_72.toInt ∧ PE f_77 n_76.toInt.toNat (fh 4).toInt n_81.toInt.toNat f_78 f_79 f_80 [] true none) := hw
              obtain ⟨hp1, hp2, hpi⟩ := hw
              rcases Classical.em (n_73.toInt = 0) with hbz | hbz
              · obtain ⟨hg1, hg2, hg3, hg4, hg5, hg6, hg7⟩ := hpi hbz
                clear hpi
                refine lv_goto (tgt := 68) hx hb dX12_reads_35 (by decide) ?_
                refine lv_goto (tgt := 2) hx hb dX12_reads_68 (by decide) ?_
                have l10 : (1 : Int32).toInt = 1 := rfl
                have l00 : (0 : Int32).toInt = 0 := rfl
                have hP : va_P D vwCl (mwd y ad zw (tI (sI (tI (tI (tI (tI (tJ (sI (tI (sI (tI (tI (sI (tI (sI (tI (sI (sI (sI (sI (sI (sI σ 2 n_72) 4 n_71) 5 n_73) 6 n_74) 23 np) 29 n_76) 27 f_77) 32 n_75) 30 fw) 31 ws) 24 fh) 26 fn) 40 ba) 41 fm) 33 nm) 34 fl) 35 fa) 36 f_78) 37 f_79) 38 f_80) 39 n_81) 25 fs)) H := hP
                have hD : va_D A (mwd y ad zw (tI (sI (tI (tI (tI (tI (tJ (sI (tI (sI (tI (tI (sI (tI (sI (tI (sI (sI (sI (sI (sI (sI σ 2 n_72) 4 n_71) 5 n_73) 6 n_74) 23 np) 29 n_76) 27 f_77) 32 n_75) 30 fw) 31 ws) 24 fh) 26 fn) 40 ba) 41 fm) 33 nm) 34 fl) 35 fa) 36 f_78) 37 f_79) 38 f_80) 39 n_81) 25 fs)) := hD
                exact ih_loop mo n_72 n_71 n_73 n_74 np n_76 f_77 n_75 fw ws fh fn ba fm nm fl fa f_78 f_79 f_80 n_81 fs H locs ls (by omega) (by omega) (by omega) (by omega) (by omega) hfr (HI_mono hHI (by omega)) (by omega) ⟨by omega, by omega⟩ ⟨by omega, by omega⟩ (by omega) hg7 hfn hfa hfs (by omega) hP hD hS (lv_sub hl [1, 2] rfl)
              · clear hpi
                refine lv_goto (tgt := 68) hx hb dX12_reads_35 (by decide) ?_
                refine lv_goto (tgt := 2) hx hb dX12_reads_68 (by decide) ?_
                refine lv_iload_n hx hb dX12_reads_2 rfl (lv_at hl 1 rfl) ?_
                refine lv_if_eq (tgt := 71) hx hb dX12_reads_3 (by decide) (fun c_82 => ?_) (fun c_82 => ?_)
                · have kc_82 : mo.toInt = 0 := by have h9 := c_82; simp only [ge_iff_le, gt_iff_lt, x_lt, x_le, x_eq, ne_eq, Int32.not_lt, Int32.not_le] at h9; simp only [Int32.reduceToInt] at h9; omega
                  have hP : va_P D vwCl (mwd y ad zw (tI (sI (tI (tI (tI (tI (tJ (sI (tI (sI (tI (tI (sI (tI (sI (tI (sI (sI (sI (sI (sI (sI σ 2 n_72) 4 n_71) 5 n_73) 6 n_74) 23 np) 29 n_76) 27 f_77) 32 n_75) 30 fw) 31 ws) 24 fh) 26 fn) 40 ba) 41 fm) 33 nm) 34 fl) 35 fa) 36 f_78) 37 f_79) 38 f_80) 39 n_81) 25 fs)) H := hP
                  have hD : va_D A (mwd y ad zw (tI (sI (tI (tI (tI (tI (tJ (sI (tI (sI (tI (tI (sI (tI (sI (tI (sI (sI (sI (sI (sI (sI σ 2 n_72) 4 n_71) 5 n_73) 6 n_74) 23 np) 29 n_76) 27 f_77) 32 n_75) 30 fw) 31 ws) 24 fh) 26 fn) 40 ba) 41 fm) 33 nm) 34 fl) 35 fa) 36 f_78) 37 f_79) 38 f_80) 39 n_81) 25 fs)) := hD
                  exact x_vretW (u := (n_72, n_71, n_73, n_74, np, n_76, f_77, n_75, fw, ws, fh, fn, ba, fm, nm, fl, fa, f_78, f_79, f_80, n_81, fs)) hx hb hr hQ (by (try dsimp only); exact ⟨⟨by omega, by omega, hfr, fun h9 => absurd h9 (by omega)⟩, hfa, hfn, hfs⟩) hP hD hK hS dX12_reads_71 hlocks
                · have kc_82 : mo.toInt ≠ 0 := by have h9 := c_82; simp only [ge_iff_le, gt_iff_lt, x_lt, x_le, x_eq, ne_eq, Int32.not_lt, Int32.not_le] at h9; simp only [Int32.reduceToInt] at h9; omega
                  refine lv_aload_n hx hb dX12_reads_6 rfl (lv_at hl 2 rfl) ?_
                  refine va_get (D := D) (ci := 11) (v := .int n_73) (C := RX12) (T := TX12) (N := 85) hx hb hts inX12 hown hK hP 0 mwd_o0 rfl 5 (by decide) fl191 (fun _ h9 => h9) rfl dX12_reads_7 ?_
                  refine lv_if_ne (tgt := 71) hx hb dX12_reads_10 (by decide) (fun c_83 => ?_) (fun c_83 => ?_)
                  · have kc_83 : n_73.toInt ≠ 0 := by have h9 := c_83; simp only [ge_iff_le, gt_iff_lt, x_lt, x_le, x_eq, ne_eq, Int32.not_lt, Int32.not_le] at h9; simp only [Int32.reduceToInt] at h9; omega
                    have hP : va_P D vwCl (mwd y ad zw (tI (sI (tI (tI (tI (tI (tJ (sI (tI (sI (tI (tI (sI (tI (sI (tI (sI (sI (sI (sI (sI (sI σ 2 n_72) 4 n_71) 5 n_73) 6 n_74) 23 np) 29 n_76) 27 f_77) 32 n_75) 30 fw) 31 ws) 24 fh) 26 fn) 40 ba) 41 fm) 33 nm) 34 fl) 35 fa) 36 f_78) 37 f_79) 38 f_80) 39 n_81) 25 fs)) H := hP
                    have hD : va_D A (mwd y ad zw (tI (sI (tI (tI (tI (tI (tJ (sI (tI (sI (tI (tI (sI (tI (sI (tI (sI (sI (sI (sI (sI (sI σ 2 n_72) 4 n_71) 5 n_73) 6 n_74) 23 np) 29 n_76) 27 f_77) 32 n_75) 30 fw) 31 ws) 24 fh) 26 fn) 40 ba) 41 fm) 33 nm) 34 fl) 35 fa) 36 f_78) 37 f_79) 38 f_80) 39 n_81) 25 fs)) := hD
                    exact x_vretW (u := (n_72, n_71, n_73, n_74, np, n_76, f_77, n_75, fw, ws, fh, fn, ba, fm, nm, fl, fa, f_78, f_79, f_80, n_81, fs)) hx hb hr hQ (by (try dsimp only); exact ⟨⟨by omega, by omega, hfr, fun h9 => absurd h9 (by omega)⟩, hfa, hfn, hfs⟩) hP hD hK hS dX12_reads_71 hlocks
                  · have kc_83 : n_73.toInt = 0 := by have h9 := c_83; simp only [ge_iff_le, gt_iff_lt, x_lt, x_le, x_eq, ne_eq, Int32.not_lt, Int32.not_le] at h9; simp only [Int32.reduceToInt] at h9; omega
                    exfalso
                    omega
  exact loop 1500 1 (σ.1 2) (σ.1 4) (σ.1 5) (σ.1 6) (σ.1 23) (σ.1 29) (σ.2.2.1 27) (σ.1 32) (σ.2.2.1 30) (σ.1 31) (σ.2.2.1 24) (σ.2.2.1 26) (σ.1 40) (σ.2.2.1 41) (σ.1 33) (σ.2.2.2 34) (σ.2.2.1 35) (σ.2.2.1 36) (σ.2.2.1 37) (σ.2.2.1 38) (σ.1 39) (σ.2.2.1 25) H locs ls (by omega) (by omega) hb0 (by omega) (by omega) (fun _ _ => rfl) hhi (by omega) ⟨by omega, by omega⟩ ⟨by omega, by omega⟩ (by omega) hpe hB26 hB35 hB25 (by omega) hP hD hS (lv_sub hl [0, 1] rfl)

def v_q_program : List Cond := .code yX12_program cX12_program 2 (some .int) :: ([.fieldLink RX12 188 "SlopeRunnerModel" "taped" "I", .fieldLink RX12 200 "SlopeRunnerModel" "end" "I", .fieldLink RX12 197 "SlopeRunnerModel" "at" "I", .fieldLink RX12 211 "SlopeRunnerModel" "ended" "I", .fieldLink RX12 191 "SlopeRunnerModel" "bad" "I", .fieldLink RX12 194 "SlopeRunnerModel" "badPlace" "I", .fieldLink RX12 246 "SlopeRunnerModel" "coded" "I", .fieldLink RX12 249 "SlopeRunnerModel" "names" "I", .fieldLink RX12 332 "SlopeRunnerModel" "blocks" "I", .fieldLink RX12 260 "SlopeRunnerModel" "open" "I", .fieldLink RX12 362 "SlopeRunnerModel" "fault" "I", .fieldLink RX12 13 "SlopeRunnerModel" "faultPlace" "I", .fieldLink RX12 60 "SlopeRunnerModel" "has" "[I", .fieldLink RX12 72 "SlopeRunnerModel" "codeMany" "[I", .fieldLink RX12 365 "SlopeRunnerModel" "done" "I", .fieldLink RX12 368 "SlopeRunnerModel" "doneAll" "I", .fieldLink RX12 371 "SlopeRunnerModel" "hasRun" "Z", .fieldLink RX12 375 "SlopeRunnerModel" "hasGroups" "Z", .fieldLink RX12 97 "SlopeRunnerModel" "putAbove" "[J", .fieldLink RX12 100 "SlopeRunnerModel" "putBelow" "[J", .fieldLink RX12 69 "SlopeRunnerModel" "codes" "[I", .fieldLink RX12 66 "SlopeRunnerModel" "numbers" "[I", .fieldLink RX12 63 "SlopeRunnerModel" "sizeOf" "[I"] ++ ((wsV RX12 359 RX12 yX12_reads v_q_reads) ++ wsX120))
theorem g_q_program_0 : GoodIn v_q_program (wsV RX12 359 RX12 yX12_reads v_q_reads) := goodIn_sub (fun w h => List.mem_cons_of_mem _ (List.mem_append_right _ (List.mem_append_left _ h))) (by decide +kernel)
set_option maxHeartbeats 4000000 in
set_option maxRecDepth 100000 in
theorem q_program (l : Launch) (D : va_G) (y : Nat → ClassId) (sz : Nat) (ad : Nat → Nat) (zw : Nat → Nat → Int32) (σ : OS) (htp0 : 0 ≤ (σ.1 1).toInt) (htp1 : (σ.1 1).toInt ≤ 700) (hdn0 : 0 ≤ (σ.1 47).toInt) (hdn1 : (σ.1 47).toInt ≤ (σ.1 48).toInt) (hdn2 : (σ.1 48).toInt ≤ 40) (hpg : PG (σ.2.2.1 24) (σ.2.2.1 85) (σ.2.2.1 28)) (hB35 : bI (σ.2.2.1 35) 0 23) (hB26 : bI (σ.2.2.1 26) 0 9999) (hB25 : bI (σ.2.2.1 25) 0 16) (hB45 : bJ (σ.2.2.2 45) (-1000000000) 1000000000) (hB46 : bJ (σ.2.2.2 46) 0 1000000000) : Met l yX12_program v_q_program ({ frames := 13, cells := 0, slots := 0, locals := 285 } : Room) (va_Pc [.ref (ad 1)] (xPre D (xT y) (mwd y ad zw σ) sz)) (va_Qi (fun (r : Int32) (u : Int32 × Int32 × Int32 × Int32 × Int32 × Int32 × (Nat → Int32) × Int32 × (Nat → Int32) × Int32 × (Nat → Int32) × (Nat → Int32) × Int32 × (Nat → Int32) × Int32 × (Nat → Int64) × (Nat → Int32) × (Nat → Int32) × (Nat → Int32) × (Nat → Int32) × Int32 × (Nat → Int32) × Int32 × Int32 × Int32 × Int32 × (Nat → Int32) × (Nat → Int32) × (Nat → Int64) × (Nat → Int64) × Int32 × Int32 × Int32 × Int32) => (u.2.2.2.2.2.2.2.2.2.2.2.2.2.2.2.2.2.2.2.2.2.2.2.1.toInt = 0 ∧ 0 ≤ u.2.2.2.2.2.2.2.2.2.2.2.2.2.2.2.2.2.2.2.2.2.2.2.2.2.2.2.2.2.2.1.toInt ∧ u.2.2.2.2.2.2.2.2.2.2.2.2.2.2.2.2.2.2.2.2.2.2.2.2.2.2.2.2.2.2.1.toInt ≤ u.2.2.2.2.2.2.2.2.2.2.2.2.2.2.2.2.2.2.2.2.2.2.2.2.2.2.2.2.2.2.2.1.toInt ∧ u.2.2.2.2.2.2.2.2.2.2.2.2.2.2.2.2.2.2.2.2.2.2.2.2.2.2.2.2.2.2.2.1.toInt ≤ 40 ∧ PG u.2.2.2.2.2.2.2.2.2.2.1 u.2.2.2.2.2.2.2.2.2.2.2.2.2.2.2.2.2.2.2.2.2.2.2.2.2.2.1 u.2.2.2.2.2.2.2.2.2.2.2.2.2.2.2.2.2.2.2.2.2.2.2.2.2.2.2.1) ∧ bI u.2.2.2.2.2.2.2.2.2.2.2.2.2.2.2.2.1 0 23 ∧ bI u.2.2.2.2.2.2.2.2.2.2.2.1 0 9999 ∧ bI u.2.2.2.2.2.2.2.2.2.2.2.2.2.2.2.2.2.2.2.2.2.1 0 16 ∧ bJ u.2.2.2.2.2.2.2.2.2.2.2.2.2.2.2.2.2.2.2.2.2.2.2.2.2.2.2.2.1 (-1000000000) 1000000000 ∧ bJ u.2.2.2.2.2.2.2.2.2.2.2.2.2.2.2.2.2.2.2.2.2.2.2.2.2.2.2.2.2.1 0 1000000000) (fun (u : Int32 × Int32 × Int32 × Int32 × Int32 × Int32 × (Nat → Int32) × Int32 × (Nat → Int32) × Int32 × (Nat → Int32) × (Nat → Int32) × Int32 × (Nat → Int32) × Int32 × (Nat → Int64) × (Nat → Int32) × (Nat → Int32) × (Nat → Int32) × (Nat → Int32) × Int32 × (Nat → Int32) × Int32 × Int32 × Int32 × Int32 × (Nat → Int32) × (Nat → Int32) × (Nat → Int64) × (Nat → Int64) × Int32 × Int32 × Int32 × Int32) => xB D (xT y) (va_A (mwd y ad zw σ) sz) (mwd y ad zw (sI (sI (sI (sI (tJ (tJ (tI (tI (sI (sI (sI (sI (tI (sI (tI (tI (tI (tI (tJ (sI (tI (sI (tI (tI (sI (tI (sI (tI (sI (sI (sI (sI (sI (sI σ 2 u.1) 4 u.2.1) 5 u.2.2.1) 6 u.2.2.2.1) 23 u.2.2.2.2.1) 29 u.2.2.2.2.2.1) 27 u.2.2.2.2.2.2.1) 32 u.2.2.2.2.2.2.2.1) 30 u.2.2.2.2.2.2.2.2.1) 31 u.2.2.2.2.2.2.2.2.2.1) 24 u.2.2.2.2.2.2.2.2.2.2.1) 26 u.2.2.2.2.2.2.2.2.2.2.2.1) 40 u.2.2.2.2.2.2.2.2.2.2.2.2.1) 41 u.2.2.2.2.2.2.2.2.2.2.2.2.2.1) 33 u.2.2.2.2.2.2.2.2.2.2.2.2.2.2.1) 34 u.2.2.2.2.2.2.2.2.2.2.2.2.2.2.2.1) 35 u.2.2.2.2.2.2.2.2.2.2.2.2.2.2.2.2.1) 36 u.2.2.2.2.2.2.2.2.2.2.2.2.2.2.2.2.2.1) 37 u.2.2.2.2.2.2.2.2.2.2.2.2.2.2.2.2.2.2.1) 38 u.2.2.2.2.2.2.2.2.2.2.2.2.2.2.2.2.2.2.2.1) 39 u.2.2.2.2.2.2.2.2.2.2.2.2.2.2.2.2.2.2.2.2.1) 25 u.2.2.2.2.2.2.2.2.2.2.2.2.2.2.2.2.2.2.2.2.2.1) 3 u.2.2.2.2.2.2.2.2.2.2.2.2.2.2.2.2.2.2.2.2.2.2.1) 1 u.2.2.2.2.2.2.2.2.2.2.2.2.2.2.2.2.2.2.2.2.2.2.2.1) 7 u.2.2.2.2.2.2.2.2.2.2.2.2.2.2.2.2.2.2.2.2.2.2.2.2.1) 8 u.2.2.2.2.2.2.2.2.2.2.2.2.2.2.2.2.2.2.2.2.2.2.2.2.2.1) 85 u.2.2.2.2.2.2.2.2.2.2.2.2.2.2.2.2.2.2.2.2.2.2.2.2.2.2.1) 28 u.2.2.2.2.2.2.2.2.2.2.2.2.2.2.2.2.2.2.2.2.2.2.2.2.2.2.2.1) 45 u.2.2.2.2.2.2.2.2.2.2.2.2.2.2.2.2.2.2.2.2.2.2.2.2.2.2.2.2.1) 46 u.2.2.2.2.2.2.2.2.2.2.2.2.2.2.2.2.2.2.2.2.2.2.2.2.2.2.2.2.2.1) 47 u.2.2.2.2.2.2.2.2.2.2.2.2.2.2.2.2.2.2.2.2.2.2.2.2.2.2.2.2.2.2.1) 48 u.2.2.2.2.2.2.2.2.2.2.2.2.2.2.2.2.2.2.2.2.2.2.2.2.2.2.2.2.2.2.2.1) 54 u.2.2.2.2.2.2.2.2.2.2.2.2.2.2.2.2.2.2.2.2.2.2.2.2.2.2.2.2.2.2.2.2.1) 78 u.2.2.2.2.2.2.2.2.2.2.2.2.2.2.2.2.2.2.2.2.2.2.2.2.2.2.2.2.2.2.2.2.2))) (va_A (mwd y ad zw σ) sz)) 0 0 (va_A (mwd y ad zw σ) sz) := by
  refine x_meti (cc := cX12_program) (maxL := 2) (by decide) rfl (Nat.le_of_ble_eq_true rfl) ?_
  intro p e s m below meth c A H locs Q hx hb hml hown hts hr hlocks hmn hA hP hK hD hS ls hl hQ
  have hl : lv_has ls 2 [(0, .ref (ad 1))] := hl
  have fl188 := hts (.fieldLink RX12 188 "SlopeRunnerModel" "taped" "I") (List.mem_of_getElem? (i := 1) rfl)
  have inX12 : ∀ w ∈ wsX120, w ∈ v_q_program := (fun w h => List.mem_cons_of_mem _ (List.mem_append_right _ (List.mem_append_right _ h)))
  have fl200 := hts (.fieldLink RX12 200 "SlopeRunnerModel" "end" "I") (List.mem_of_getElem? (i := 2) rfl)
  have fl197 := hts (.fieldLink RX12 197 "SlopeRunnerModel" "at" "I") (List.mem_of_getElem? (i := 3) rfl)
  have fl211 := hts (.fieldLink RX12 211 "SlopeRunnerModel" "ended" "I") (List.mem_of_getElem? (i := 4) rfl)
  have fl191 := hts (.fieldLink RX12 191 "SlopeRunnerModel" "bad" "I") (List.mem_of_getElem? (i := 5) rfl)
  have fl194 := hts (.fieldLink RX12 194 "SlopeRunnerModel" "badPlace" "I") (List.mem_of_getElem? (i := 6) rfl)
  have kk_5 : (5 : Int32).toInt = 5 := rfl
  have fl246 := hts (.fieldLink RX12 246 "SlopeRunnerModel" "coded" "I") (List.mem_of_getElem? (i := 7) rfl)
  have fl249 := hts (.fieldLink RX12 249 "SlopeRunnerModel" "names" "I") (List.mem_of_getElem? (i := 8) rfl)
  have fl332 := hts (.fieldLink RX12 332 "SlopeRunnerModel" "blocks" "I") (List.mem_of_getElem? (i := 9) rfl)
  have fl260 := hts (.fieldLink RX12 260 "SlopeRunnerModel" "open" "I") (List.mem_of_getElem? (i := 10) rfl)
  have fl362 := hts (.fieldLink RX12 362 "SlopeRunnerModel" "fault" "I") (List.mem_of_getElem? (i := 11) rfl)
  have fl13 := hts (.fieldLink RX12 13 "SlopeRunnerModel" "faultPlace" "I") (List.mem_of_getElem? (i := 12) rfl)
  have kk_0 : (0 : Int32).toInt = 0 := rfl
  have kk_4 : (4 : Int32).toInt = 4 := rfl
  have fl60 := hts (.fieldLink RX12 60 "SlopeRunnerModel" "has" "[I") (List.mem_of_getElem? (i := 13) rfl)
  have fl72 := hts (.fieldLink RX12 72 "SlopeRunnerModel" "codeMany" "[I") (List.mem_of_getElem? (i := 14) rfl)
  have kk_8 : (8 : Int32).toInt = 8 := rfl
  have fl365 := hts (.fieldLink RX12 365 "SlopeRunnerModel" "done" "I") (List.mem_of_getElem? (i := 15) rfl)
  have fl368 := hts (.fieldLink RX12 368 "SlopeRunnerModel" "doneAll" "I") (List.mem_of_getElem? (i := 16) rfl)
  have fl371 := hts (.fieldLink RX12 371 "SlopeRunnerModel" "hasRun" "Z") (List.mem_of_getElem? (i := 17) rfl)
  have fl375 := hts (.fieldLink RX12 375 "SlopeRunnerModel" "hasGroups" "Z") (List.mem_of_getElem? (i := 18) rfl)
  have fl97 := hts (.fieldLink RX12 97 "SlopeRunnerModel" "putAbove" "[J") (List.mem_of_getElem? (i := 19) rfl)
  have fl100 := hts (.fieldLink RX12 100 "SlopeRunnerModel" "putBelow" "[J") (List.mem_of_getElem? (i := 20) rfl)
  have kk_1 : (1 : Int32).toInt = 1 := rfl
  have fl69 := hts (.fieldLink RX12 69 "SlopeRunnerModel" "codes" "[I") (List.mem_of_getElem? (i := 21) rfl)
  have kk_1200 : (1200 : Int32).toInt = 1200 := rfl
  have fl66 := hts (.fieldLink RX12 66 "SlopeRunnerModel" "numbers" "[I") (List.mem_of_getElem? (i := 22) rfl)
  have kk_700 : (700 : Int32).toInt = 700 := rfl
  have fl63 := hts (.fieldLink RX12 63 "SlopeRunnerModel" "sizeOf" "[I") (List.mem_of_getElem? (i := 23) rfl)
  have kk_m1 : ((-1) : Int32).toInt = -1 := rfl
  have l00 : (0 : Int32).toInt = 0 := rfl
  refine lv_aload_n hx hb dX12_program_0 rfl (lv_at hl 0 rfl) ?_
  refine lv_aload_n hx hb dX12_program_1 rfl (lv_at hl 0 rfl) ?_
  refine va_get (D := D) (ci := 11) (v := .int (σ.1 1)) (C := RX12) (T := TX12) (N := 85) hx hb hts inX12 hown hK hP 0 mwd_o0 rfl 1 (by decide) fl188 (fun _ h9 => h9) rfl dX12_program_2 ?_
  refine va_put (D := D) (ci := 11) (v := .int (σ.1 1)) (ty := .int) (C := RX12) (T := TX12) (N := 85) hx hb hts inX12 tyX12 tyX12_ok nmX12 hown hK hP hD hS 0 mwd_o0 rfl 3 (by decide) fl200 (fun _ h9 => h9) rfl (by decide +kernel) rfl rfl (Nat.le_of_ble_eq_true rfl) dX12_program_5 (fun H locs hP hD hS => ?_)
  have hP : va_P D vwCl (mwd y ad zw (sI σ 3 (σ.1 1))) H := x_trP hP mwd_p0_3
  have hD : va_D A (mwd y ad zw (sI σ 3 (σ.1 1))) := x_trD hD mwd_p0_3
  refine lv_aload_n hx hb dX12_program_8 rfl (lv_at hl 0 rfl) ?_
  refine lv_iconst (v := 0) hx hb dX12_program_9 (by decide) ?_
  refine va_put (D := D) (ci := 11) (v := .int 0) (ty := .int) (C := RX12) (T := TX12) (N := 85) hx hb hts inX12 tyX12 tyX12_ok nmX12 hown hK hP hD hS 0 mwd_o0 rfl 1 (by decide) fl188 (fun _ h9 => h9) rfl (by decide +kernel) rfl rfl (Nat.le_of_ble_eq_true rfl) dX12_program_10 (fun H locs hP hD hS => ?_)
  have hP : va_P D vwCl (mwd y ad zw (sI (sI σ 3 (σ.1 1)) 1 0)) H := x_trP hP mwd_p0_1
  have hD : va_D A (mwd y ad zw (sI (sI σ 3 (σ.1 1)) 1 0)) := x_trD hD mwd_p0_1
  refine lv_aload_n hx hb dX12_program_13 rfl (lv_at hl 0 rfl) ?_
  refine lv_iconst (v := 0) hx hb dX12_program_14 (by decide) ?_
  refine va_put (D := D) (ci := 11) (v := .int 0) (ty := .int) (C := RX12) (T := TX12) (N := 85) hx hb hts inX12 tyX12 tyX12_ok nmX12 hown hK hP hD hS 0 mwd_o0 rfl 2 (by decide) fl197 (fun _ h9 => h9) rfl (by decide +kernel) rfl rfl (Nat.le_of_ble_eq_true rfl) dX12_program_15 (fun H locs hP hD hS => ?_)
  have hP : va_P D vwCl (mwd y ad zw (sI (sI (sI σ 3 (σ.1 1)) 1 0) 2 0)) H := x_trP hP mwd_p0_2
  have hD : va_D A (mwd y ad zw (sI (sI (sI σ 3 (σ.1 1)) 1 0) 2 0)) := x_trD hD mwd_p0_2
  refine lv_aload_n hx hb dX12_program_18 rfl (lv_at hl 0 rfl) ?_
  refine lv_iconst (v := (-1)) hx hb dX12_program_19 (by decide) ?_
  refine va_put (D := D) (ci := 11) (v := .int (-1)) (ty := .int) (C := RX12) (T := TX12) (N := 85) hx hb hts inX12 tyX12 tyX12_ok nmX12 hown hK hP hD hS 0 mwd_o0 rfl 4 (by decide) fl211 (fun _ h9 => h9) rfl (by decide +kernel) rfl rfl (Nat.le_of_ble_eq_true rfl) dX12_program_20 (fun H locs hP hD hS => ?_)
  have hP : va_P D vwCl (mwd y ad zw (sI (sI (sI (sI σ 3 (σ.1 1)) 1 0) 2 0) 4 (-1))) H := x_trP hP mwd_p0_4
  have hD : va_D A (mwd y ad zw (sI (sI (sI (sI σ 3 (σ.1 1)) 1 0) 2 0) 4 (-1))) := x_trD hD mwd_p0_4
  refine lv_aload_n hx hb dX12_program_23 rfl (lv_at hl 0 rfl) ?_
  refine lv_iconst (v := 0) hx hb dX12_program_24 (by decide) ?_
  refine va_put (D := D) (ci := 11) (v := .int 0) (ty := .int) (C := RX12) (T := TX12) (N := 85) hx hb hts inX12 tyX12 tyX12_ok nmX12 hown hK hP hD hS 0 mwd_o0 rfl 5 (by decide) fl191 (fun _ h9 => h9) rfl (by decide +kernel) rfl rfl (Nat.le_of_ble_eq_true rfl) dX12_program_25 (fun H locs hP hD hS => ?_)
  have hP : va_P D vwCl (mwd y ad zw (sI (sI (sI (sI (sI σ 3 (σ.1 1)) 1 0) 2 0) 4 (-1)) 5 0)) H := x_trP hP mwd_p0_5
  have hD : va_D A (mwd y ad zw (sI (sI (sI (sI (sI σ 3 (σ.1 1)) 1 0) 2 0) 4 (-1)) 5 0)) := x_trD hD mwd_p0_5
  refine lv_aload_n hx hb dX12_program_28 rfl (lv_at hl 0 rfl) ?_
  refine lv_iconst (v := (-1)) hx hb dX12_program_29 (by decide) ?_
  refine va_put (D := D) (ci := 11) (v := .int (-1)) (ty := .int) (C := RX12) (T := TX12) (N := 85) hx hb hts inX12 tyX12 tyX12_ok nmX12 hown hK hP hD hS 0 mwd_o0 rfl 6 (by decide) fl194 (fun _ h9 => h9) rfl (by decide +kernel) rfl rfl (Nat.le_of_ble_eq_true rfl) dX12_program_30 (fun H locs hP hD hS => ?_)
  have hP : va_P D vwCl (mwd y ad zw (sI (sI (sI (sI (sI (sI σ 3 (σ.1 1)) 1 0) 2 0) 4 (-1)) 5 0) 6 (-1))) H := x_trP hP mwd_p0_6
  have hD : va_D A (mwd y ad zw (sI (sI (sI (sI (sI (sI σ 3 (σ.1 1)) 1 0) 2 0) 4 (-1)) 5 0) 6 (-1))) := x_trD hD mwd_p0_6
  refine lv_iconst (v := 0) hx hb dX12_program_33 (by decide) ?_
  refine lv_istore_n (lv' := [(1, .int 0), (0, .ref (ad 1))]) hx hb dX12_program_34 rfl hl (by decide) rfl (fun ls hl => ?_)
  have l00 : (0 : Int32).toInt = 0 := rfl
  have hP : va_P D vwCl (mwd y ad zw (tI (sI (sI (sI (sI (sI (sI σ 3 (σ.1 1)) 1 0) 2 0) 4 (-1)) 5 0) 6 (-1)) 24 (σ.2.2.1 24))) H := hP
  have hD : va_D A (mwd y ad zw (tI (sI (sI (sI (sI (sI (sI σ 3 (σ.1 1)) 1 0) 2 0) 4 (-1)) 5 0) 6 (-1)) 24 (σ.2.2.1 24))) := hD
  have loop : ∀ (fu : Nat) (k : Int32) (fh : Nat → Int32) (H : Heap) (locs : List Loc) (ls : Array Slot), (0 ≤ k.toInt) → (k.toInt ≤ 5) → (∀ q : Nat, q < k.toInt.toNat → (fh q).toInt = 0) → (∀ q : Nat, 5 ≤ q → fh q = σ.2.2.1 24 q) → (5 - k.toInt < (fu : Int)) → va_P D vwCl (mwd y ad zw (tI (sI (sI (sI (sI (sI (sI σ 3 (σ.1 1)) 1 0) 2 0) 4 (-1)) 5 0) 6 (-1)) 24 fh)) H → va_D A (mwd y ad zw (tI (sI (sI (sI (sI (sI (sI σ 3 (σ.1 1)) 1 0) 2 0) 4 (-1)) 5 0) 6 (-1)) 24 fh)) → va_S A s.heap H locs → lv_has ls 2 [(1, .int k), (0, .ref (ad 1))] → W p l e ({ frames := 13, cells := 0, slots := 0, locals := 285 } : Room) s m ([.ref (ad 1)] : List Value).toArray below meth c H locs 0 0 Q (F0 m 35 ls []) := by
    intro fu
    induction fu with
    | zero =>
      intro k fh H locs ls hk0 hk1 hq0 hq5 hm
      exact absurd hm (by omega)
    | succ fu ih_loop =>
      intro k fh H locs ls hk0 hk1 hq0 hq5 hm hP hD hS hl
      refine lv_iload_n hx hb dX12_program_35 rfl (lv_at hl 0 rfl) ?_
      refine lv_iconst (v := 5) hx hb dX12_program_36 (by decide) ?_
      refine lv_icmp_ge (tgt := 53) hx hb dX12_program_37 (by decide) (fun c_1 => ?_) (fun c_1 => ?_)
      · have kc_1 : k.toInt ≥ 5 := by have h9 := c_1; simp only [ge_iff_le, gt_iff_lt, x_lt, x_le, x_eq, ne_eq, Int32.not_lt, Int32.not_le] at h9; simp only [Int32.reduceToInt] at h9; omega
        refine lv_aload_n hx hb dX12_program_53 rfl (lv_at hl 1 rfl) ?_
        refine lv_iconst (v := 0) hx hb dX12_program_54 (by decide) ?_
        refine va_put (D := D) (ci := 11) (v := .int 0) (ty := .int) (C := RX12) (T := TX12) (N := 85) hx hb hts inX12 tyX12 tyX12_ok nmX12 hown hK hP hD hS 0 mwd_o0 rfl 29 (by decide) fl246 (fun _ h9 => h9) rfl (by decide +kernel) rfl rfl (Nat.le_of_ble_eq_true rfl) dX12_program_55 (fun H locs hP hD hS => ?_)
        have hP : va_P D vwCl (mwd y ad zw (sI (tI (sI (sI (sI (sI (sI (sI σ 3 (σ.1 1)) 1 0) 2 0) 4 (-1)) 5 0) 6 (-1)) 24 fh) 29 0)) H := x_trP hP mwd_p0_29
        have hD : va_D A (mwd y ad zw (sI (tI (sI (sI (sI (sI (sI (sI σ 3 (σ.1 1)) 1 0) 2 0) 4 (-1)) 5 0) 6 (-1)) 24 fh) 29 0)) := x_trD hD mwd_p0_29
        refine lv_aload_n hx hb dX12_program_58 rfl (lv_at hl 1 rfl) ?_
        refine lv_iconst (v := 0) hx hb dX12_program_59 (by decide) ?_
        refine va_put (D := D) (ci := 11) (v := .int 0) (ty := .int) (C := RX12) (T := TX12) (N := 85) hx hb hts inX12 tyX12 tyX12_ok nmX12 hown hK hP hD hS 0 mwd_o0 rfl 33 (by decide) fl249 (fun _ h9 => h9) rfl (by decide +kernel) rfl rfl (Nat.le_of_ble_eq_true rfl) dX12_program_60 (fun H locs hP hD hS => ?_)
        have hP : va_P D vwCl (mwd y ad zw (sI (sI (tI (sI (sI (sI (sI (sI (sI σ 3 (σ.1 1)) 1 0) 2 0) 4 (-1)) 5 0) 6 (-1)) 24 fh) 29 0) 33 0)) H := x_trP hP mwd_p0_33
        have hD : va_D A (mwd y ad zw (sI (sI (tI (sI (sI (sI (sI (sI (sI σ 3 (σ.1 1)) 1 0) 2 0) 4 (-1)) 5 0) 6 (-1)) 24 fh) 29 0) 33 0)) := x_trD hD mwd_p0_33
        refine lv_aload_n hx hb dX12_program_63 rfl (lv_at hl 1 rfl) ?_
        refine lv_iconst (v := 0) hx hb dX12_program_64 (by decide) ?_
        refine va_put (D := D) (ci := 11) (v := .int 0) (ty := .int) (C := RX12) (T := TX12) (N := 85) hx hb hts inX12 tyX12 tyX12_ok nmX12 hown hK hP hD hS 0 mwd_o0 rfl 39 (by decide) fl332 (fun _ h9 => h9) rfl (by decide +kernel) rfl rfl (Nat.le_of_ble_eq_true rfl) dX12_program_65 (fun H locs hP hD hS => ?_)
        have hP : va_P D vwCl (mwd y ad zw (sI (sI (sI (tI (sI (sI (sI (sI (sI (sI σ 3 (σ.1 1)) 1 0) 2 0) 4 (-1)) 5 0) 6 (-1)) 24 fh) 29 0) 33 0) 39 0)) H := x_trP hP mwd_p0_39
        have hD : va_D A (mwd y ad zw (sI (sI (sI (tI (sI (sI (sI (sI (sI (sI σ 3 (σ.1 1)) 1 0) 2 0) 4 (-1)) 5 0) 6 (-1)) 24 fh) 29 0) 33 0) 39 0)) := x_trD hD mwd_p0_39
        refine lv_aload_n hx hb dX12_program_68 rfl (lv_at hl 1 rfl) ?_
        refine lv_iconst (v := 0) hx hb dX12_program_69 (by decide) ?_
        refine va_put (D := D) (ci := 11) (v := .int 0) (ty := .int) (C := RX12) (T := TX12) (N := 85) hx hb hts inX12 tyX12 tyX12_ok nmX12 hown hK hP hD hS 0 mwd_o0 rfl 32 (by decide) fl260 (fun _ h9 => h9) rfl (by decide +kernel) rfl rfl (Nat.le_of_ble_eq_true rfl) dX12_program_70 (fun H locs hP hD hS => ?_)
        have hP : va_P D vwCl (mwd y ad zw (sI (sI (sI (sI (tI (sI (sI (sI (sI (sI (sI σ 3 (σ.1 1)) 1 0) 2 0) 4 (-1)) 5 0) 6 (-1)) 24 fh) 29 0) 33 0) 39 0) 32 0)) H := x_trP hP mwd_p0_32
        have hD : va_D A (mwd y ad zw (sI (sI (sI (sI (tI (sI (sI (sI (sI (sI (sI σ 3 (σ.1 1)) 1 0) 2 0) 4 (-1)) 5 0) 6 (-1)) 24 fh) 29 0) 33 0) 39 0) 32 0)) := x_trD hD mwd_p0_32
        refine lv_aload_n hx hb dX12_program_73 rfl (lv_at hl 1 rfl) ?_
        have hz0 := hq0 0 (by omega)
        have hz1 := hq0 1 (by omega)
        have hz2 := hq0 2 (by omega)
        have hz3 := hq0 3 (by omega)
        have hz4 := hq0 4 (by omega)
        have hHI : HI fh (0 : Int32).toInt (0 : Int32).toInt := ⟨by omega, by omega, by omega, by omega, by omega, by omega, by omega, by omega, by omega, by omega, by omega⟩
        refine x_callvW (va_runV (As := []) (rest := []) ⟨hx, hb, hml, hown, hts⟩ (q_reads l D y H.size ad zw (sI (sI (sI (sI (tI (sI (sI (sI (sI (sI (sI σ 3 (σ.1 1)) 1 0) 2 0) 4 (-1)) 5 0) 6 (-1)) 24 fh) 29 0) 33 0) 39 0) 32 0) (show 0 ≤ ((0 : Int32)).toInt from by first | omega | decide) (show ((0 : Int32)).toInt ≤ ((σ.1 1)).toInt from by first | omega | decide) (show ((σ.1 1)).toInt ≤ 700 from by first | omega | decide) (show ((0 : Int32)).toInt = 0 from by first | omega | decide) hHI (show ((0 : Int32)).toInt = ((0 : Int32)).toInt from by first | omega | decide) (show 0 ≤ ((0 : Int32)).toInt from by first | omega | decide) (show ((0 : Int32)).toInt ≤ 8 from by first | omega | decide) (show 0 ≤ ((0 : Int32)).toInt from by first | omega | decide) (show ((0 : Int32)).toInt + ((0 : Int32)).toInt ≤ ((0 : Int32)).toInt from by first | omega | decide) (PE_start _ _ _ _ _) hB35 hB26 hB25) (cwV 0 hts g_q_program_0 rfl rfl rfl (by decide +kernel) ⟨Nat.le_of_ble_eq_true rfl, Nat.le_of_ble_eq_true rfl⟩) (x_preV (q := (RX12, TX12, 85)) hK hP hD (ci := 11) (q0 := 0) rfl mwd_o0) rfl rfl hl.1 rfl (lv_room (Nat.le_of_ble_eq_true rfl)) dX12_program_74 ⟨Nat.le_of_ble_eq_true rfl, Nat.le_of_ble_eq_true rfl⟩) hP hD hS hA (fun u H locs hw hP hD hS => ?_)
        obtain ⟨n_2, n_3, n_4, n_5, n_6, n_7, f_8, n_9, f_10, n_11, f_12, f_13, n_14, f_15, n_16, f_17, f_18, f_19, f_20, f_21, n_22, f_23⟩ := u
        try dsimp only at hw
        have hP : va_P D vwCl (mwd y ad zw (tI (sI (tI (tI (tI (tI (tJ (sI (tI (sI (tI (tI (sI (tI (sI (tI (sI (sI (sI (sI (sI (sI (sI (sI (sI (sI (tI (sI (sI (sI (sI (sI (sI σ 3 (σ.1 1)) 1 0) 2 0) 4 (-1)) 5 0) 6 (-1)) 24 fh) 29 0) 33 0) 39 0) 32 0) 2 n_2) 4 n_3) 5 n_4) 6 n_5) 23 n_6) 29 n_7) 27 f_8) 32 n_9) 30 f_10) 31 n_11) 24 f_12) 26 f_13) 40 n_14) 41 f_15) 33 n_16) 34 f_17) 35 f_18) 36 f_19) 37 f_20) 38 f_21) 39 n_22) 25 f_23)) H := hP
        have hD : va_D A (mwd y ad zw (tI (sI (tI (tI (tI (tI (tJ (sI (tI (sI (tI (tI (sI (tI (sI (tI (sI (sI (sI (sI (sI (sI (sI (sI (sI (sI (tI (sI (sI (sI (sI (sI (sI σ 3 (σ.1 1)) 1 0) 2 0) 4 (-1)) 5 0) 6 (-1)) 24 fh) 29 0) 33 0) 39 0) 32 0) 2 n_2) 4 n_3) 5 n_4) 6 n_5) 23 n_6) 29 n_7) 27 f_8) 32 n_9) 30 f_10) 31 n_11) 24 f_12) 26 f_13) 40 n_14) 41 f_15) 33 n_16) 34 f_17) 35 f_18) 36 f_19) 37 f_20) 38 f_21) 39 n_22) 25 f_23)) := hD
        replace hw : (((0 : Int32)).toInt ≤ n_2.toInt ∧ n_2.toInt ≤ ((σ.1 1)).toInt ∧ (∀ q : Nat, 5 ≤ q → f_12 q = fh q) ∧ (n_4.toInt = 0 → n_22.toInt = 0 ∧ HI f_12 n_16.toInt n_2.toInt ∧ n_9.toInt = n_22.toInt ∧ 0 ≤ n_22.toInt ∧ n_22.toInt ≤ 8 ∧ 0 ≤ n_7.toInt ∧ n_7.toInt + n_22.toInt ≤ n_2.toInt ∧ PE f_8 n_7.toInt.toNat (f_12 4).toInt n_22.toInt.toNat f_19 f_20 f_21 [] true none)) ∧ bI f_18 0 23 ∧ bI f_13 0 9999 ∧ bI f_23 0 16 := hw
        obtain ⟨hw, hg_24, hg_25, hg_26⟩ := hw
        obtain ⟨hp1, hp2, hp3, hpi⟩ := hw
        have hff : ∀ q : Nat, 5 ≤ q → f_12 q = σ.2.2.1 24 q := fun q h9 => (hp3 q h9).trans (hq5 q h9)
        rcases Classical.em (n_4.toInt = 0) with hbz | hbz
        · obtain ⟨hg0, hg2, hg3, hg4, hg5, hg6, hg7, hg8⟩ := hpi hbz
          clear hpi
          obtain ⟨hy0, hy1, hy2, hy3, hy4, hy5, hy6, hy7, hy8, hy9, hy10⟩ := hg2
          refine lv_aload_n hx hb dX12_program_77 rfl (lv_at hl 1 rfl) ?_
          refine lv_aload_n hx hb dX12_program_78 rfl (lv_at hl 1 rfl) ?_
          refine va_get (D := D) (ci := 11) (v := .int n_4) (C := RX12) (T := TX12) (N := 85) hx hb hts inX12 hown hK hP 0 mwd_o0 rfl 5 (by decide) fl191 (fun _ h9 => h9) rfl dX12_program_79 ?_
          refine va_put (D := D) (ci := 11) (v := .int n_4) (ty := .int) (C := RX12) (T := TX12) (N := 85) hx hb hts inX12 tyX12 tyX12_ok nmX12 hown hK hP hD hS 0 mwd_o0 rfl 7 (by decide) fl362 (fun _ h9 => h9) rfl (by decide +kernel) rfl rfl (Nat.le_of_ble_eq_true rfl) dX12_program_82 (fun H locs hP hD hS => ?_)
          have hP : va_P D vwCl (mwd y ad zw (sI (tI (sI (tI (tI (tI (tI (tJ (sI (tI (sI (tI (tI (sI (tI (sI (tI (sI (sI (sI (sI (sI (sI (sI (sI (sI (sI (tI (sI (sI (sI (sI (sI (sI σ 3 (σ.1 1)) 1 0) 2 0) 4 (-1)) 5 0) 6 (-1)) 24 fh) 29 0) 33 0) 39 0) 32 0) 2 n_2) 4 n_3) 5 n_4) 6 n_5) 23 n_6) 29 n_7) 27 f_8) 32 n_9) 30 f_10) 31 n_11) 24 f_12) 26 f_13) 40 n_14) 41 f_15) 33 n_16) 34 f_17) 35 f_18) 36 f_19) 37 f_20) 38 f_21) 39 n_22) 25 f_23) 7 n_4)) H := x_trP hP mwd_p0_7
          have hD : va_D A (mwd y ad zw (sI (tI (sI (tI (tI (tI (tI (tJ (sI (tI (sI (tI (tI (sI (tI (sI (tI (sI (sI (sI (sI (sI (sI (sI (sI (sI (sI (tI (sI (sI (sI (sI (sI (sI σ 3 (σ.1 1)) 1 0) 2 0) 4 (-1)) 5 0) 6 (-1)) 24 fh) 29 0) 33 0) 39 0) 32 0) 2 n_2) 4 n_3) 5 n_4) 6 n_5) 23 n_6) 29 n_7) 27 f_8) 32 n_9) 30 f_10) 31 n_11) 24 f_12) 26 f_13) 40 n_14) 41 f_15) 33 n_16) 34 f_17) 35 f_18) 36 f_19) 37 f_20) 38 f_21) 39 n_22) 25 f_23) 7 n_4)) := x_trD hD mwd_p0_7
          refine lv_aload_n hx hb dX12_program_85 rfl (lv_at hl 1 rfl) ?_
          refine lv_aload_n hx hb dX12_program_86 rfl (lv_at hl 1 rfl) ?_
          refine va_get (D := D) (ci := 11) (v := .int n_5) (C := RX12) (T := TX12) (N := 85) hx hb hts inX12 hown hK hP 0 mwd_o0 rfl 6 (by decide) fl194 (fun _ h9 => h9) rfl dX12_program_87 ?_
          refine va_put (D := D) (ci := 11) (v := .int n_5) (ty := .int) (C := RX12) (T := TX12) (N := 85) hx hb hts inX12 tyX12 tyX12_ok nmX12 hown hK hP hD hS 0 mwd_o0 rfl 8 (by decide) fl13 (fun _ h9 => h9) rfl (by decide +kernel) rfl rfl (Nat.le_of_ble_eq_true rfl) dX12_program_90 (fun H locs hP hD hS => ?_)
          have hP : va_P D vwCl (mwd y ad zw (sI (sI (tI (sI (tI (tI (tI (tI (tJ (sI (tI (sI (tI (tI (sI (tI (sI (tI (sI (sI (sI (sI (sI (sI (sI (sI (sI (sI (tI (sI (sI (sI (sI (sI (sI σ 3 (σ.1 1)) 1 0) 2 0) 4 (-1)) 5 0) 6 (-1)) 24 fh) 29 0) 33 0) 39 0) 32 0) 2 n_2) 4 n_3) 5 n_4) 6 n_5) 23 n_6) 29 n_7) 27 f_8) 32 n_9) 30 f_10) 31 n_11) 24 f_12) 26 f_13) 40 n_14) 41 f_15) 33 n_16) 34 f_17) 35 f_18) 36 f_19) 37 f_20) 38 f_21) 39 n_22) 25 f_23) 7 n_4) 8 n_5)) H := x_trP hP mwd_p0_8
          have hD : va_D A (mwd y ad zw (sI (sI (tI (sI (tI (tI (tI (tI (tJ (sI (tI (sI (tI (tI (sI (tI (sI (tI (sI (sI (sI (sI (sI (sI (sI (sI (sI (sI (tI (sI (sI (sI (sI (sI (sI σ 3 (σ.1 1)) 1 0) 2 0) 4 (-1)) 5 0) 6 (-1)) 24 fh) 29 0) 33 0) 39 0) 32 0) 2 n_2) 4 n_3) 5 n_4) 6 n_5) 23 n_6) 29 n_7) 27 f_8) 32 n_9) 30 f_10) 31 n_11) 24 f_12) 26 f_13) 40 n_14) 41 f_15) 33 n_16) 34 f_17) 35 f_18) 36 f_19) 37 f_20) 38 f_21) 39 n_22) 25 f_23) 7 n_4) 8 n_5)) := x_trD hD mwd_p0_8
          refine lv_aload_n hx hb dX12_program_93 rfl (lv_at hl 1 rfl) ?_
          refine va_get (D := D) (ci := 11) (v := .int n_4) (C := RX12) (T := TX12) (N := 85) hx hb hts inX12 hown hK hP 0 mwd_o0 rfl 5 (by decide) fl191 (fun _ h9 => h9) rfl dX12_program_94 ?_
          refine lv_if_eq (tgt := 102) hx hb dX12_program_97 (by decide) (fun c_27 => ?_) (fun c_27 => ?_)
          · have kc_27 : n_4.toInt = 0 := by have h9 := c_27; simp only [ge_iff_le, gt_iff_lt, x_lt, x_le, x_eq, ne_eq, Int32.not_lt, Int32.not_le] at h9; simp only [Int32.reduceToInt] at h9; omega
            refine lv_iconst (v := 0) hx hb dX12_program_102 (by decide) ?_
            refine lv_istore_n (lv' := [(1, .int 0), (0, .ref (ad 1))]) hx hb dX12_program_103 rfl hl (by decide) rfl (fun ls hl => ?_)
            have hP : va_P D vwCl (mwd y ad zw (tI (sI (sI (tI (sI (tI (tI (tI (tI (tJ (sI (tI (sI (tI (sI (tI (sI (tI (sI (sI (sI (sI (sI (sI (sI (sI σ 3 (σ.1 1)) 1 0) 2 n_2) 4 n_3) 5 n_4) 6 n_5) 23 n_6) 29 n_7) 27 f_8) 32 n_9) 30 f_10) 31 n_11) 26 f_13) 40 n_14) 41 f_15) 33 n_16) 34 f_17) 35 f_18) 36 f_19) 37 f_20) 38 f_21) 39 n_22) 25 f_23) 7 n_4) 8 n_5) 24 f_12)) H := hP
            have hD : va_D A (mwd y ad zw (tI (sI (sI (tI (sI (tI (tI (tI (tI (tJ (sI (tI (sI (tI (sI (tI (sI (tI (sI (sI (sI (sI (sI (sI (sI (sI σ 3 (σ.1 1)) 1 0) 2 n_2) 4 n_3) 5 n_4) 6 n_5) 23 n_6) 29 n_7) 27 f_8) 32 n_9) 30 f_10) 31 n_11) 26 f_13) 40 n_14) 41 f_15) 33 n_16) 34 f_17) 35 f_18) 36 f_19) 37 f_20) 38 f_21) 39 n_22) 25 f_23) 7 n_4) 8 n_5) 24 f_12)) := hD
            have loop2 : ∀ (fu : Nat) (k2 : Int32) (gh : Nat → Int32) (H : Heap) (locs : List Loc) (ls : Array Slot), (0 ≤ k2.toInt) → (k2.toInt ≤ 5) → (∀ q : Nat, q < k2.toInt.toNat → gh (5 + q) = f_12 q) → (∀ q : Nat, q < 5 → gh q = f_12 q) → (5 - k2.toInt < (fu : Int)) → va_P D vwCl (mwd y ad zw (tI (sI (sI (tI (sI (tI (tI (tI (tI (tJ (sI (tI (sI (tI (sI (tI (sI (tI (sI (sI (sI (sI (sI (sI (sI (sI σ 3 (σ.1 1)) 1 0) 2 n_2) 4 n_3) 5 n_4) 6 n_5) 23 n_6) 29 n_7) 27 f_8) 32 n_9) 30 f_10) 31 n_11) 26 f_13) 40 n_14) 41 f_15) 33 n_16) 34 f_17) 35 f_18) 36 f_19) 37 f_20) 38 f_21) 39 n_22) 25 f_23) 7 n_4) 8 n_5) 24 gh)) H → va_D A (mwd y ad zw (tI (sI (sI (tI (sI (tI (tI (tI (tI (tJ (sI (tI (sI (tI (sI (tI (sI (tI (sI (sI (sI (sI (sI (sI (sI (sI σ 3 (σ.1 1)) 1 0) 2 n_2) 4 n_3) 5 n_4) 6 n_5) 23 n_6) 29 n_7) 27 f_8) 32 n_9) 30 f_10) 31 n_11) 26 f_13) 40 n_14) 41 f_15) 33 n_16) 34 f_17) 35 f_18) 36 f_19) 37 f_20) 38 f_21) 39 n_22) 25 f_23) 7 n_4) 8 n_5) 24 gh)) → va_S A s.heap H locs → lv_has ls 2 [(1, .int k2), (0, .ref (ad 1))] → W p l e ({ frames := 13, cells := 0, slots := 0, locals := 285 } : Room) s m ([.ref (ad 1)] : List Value).toArray below meth c H locs 0 0 Q (F0 m 104 ls []) := by
              intro fu
              induction fu with
              | zero =>
                intro k2 gh H locs ls hk2 hk3 hr0 hr1 hm
                exact absurd hm (by omega)
              | succ fu ih_loop2 =>
                intro k2 gh H locs ls hk2 hk3 hr0 hr1 hm hP hD hS hl
                refine lv_iload_n hx hb dX12_program_104 rfl (lv_at hl 0 rfl) ?_
                refine lv_iconst (v := 5) hx hb dX12_program_105 (by decide) ?_
                refine lv_icmp_ge (tgt := 129) hx hb dX12_program_106 (by decide) (fun c_28 => ?_) (fun c_28 => ?_)
                · have kc_28 : k2.toInt ≥ 5 := by have h9 := c_28; simp only [ge_iff_le, gt_iff_lt, x_lt, x_le, x_eq, ne_eq, Int32.not_lt, Int32.not_le] at h9; simp only [Int32.reduceToInt] at h9; omega
                  refine lv_iconst (v := 0) hx hb dX12_program_129 (by decide) ?_
                  refine lv_istore_n (lv' := [(1, .int 0), (0, .ref (ad 1))]) hx hb dX12_program_130 rfl hl (by decide) rfl (fun ls hl => ?_)
                  have hP : va_P D vwCl (mwd y ad zw (tI (tI (sI (sI (sI (tI (tI (tI (tI (tJ (sI (tI (sI (tI (sI (tI (sI (tI (sI (sI (sI (sI (sI (sI (sI (sI σ 3 (σ.1 1)) 1 0) 2 n_2) 4 n_3) 5 n_4) 6 n_5) 23 n_6) 29 n_7) 27 f_8) 32 n_9) 30 f_10) 31 n_11) 26 f_13) 40 n_14) 41 f_15) 33 n_16) 34 f_17) 35 f_18) 36 f_19) 37 f_20) 38 f_21) 39 n_22) 7 n_4) 8 n_5) 24 gh) 25 f_23)) H := hP
                  have hD : va_D A (mwd y ad zw (tI (tI (sI (sI (sI (tI (tI (tI (tI (tJ (sI (tI (sI (tI (sI (tI (sI (tI (sI (sI (sI (sI (sI (sI (sI (sI σ 3 (σ.1 1)) 1 0) 2 n_2) 4 n_3) 5 n_4) 6 n_5) 23 n_6) 29 n_7) 27 f_8) 32 n_9) 30 f_10) 31 n_11) 26 f_13) 40 n_14) 41 f_15) 33 n_16) 34 f_17) 35 f_18) 36 f_19) 37 f_20) 38 f_21) 39 n_22) 7 n_4) 8 n_5) 24 gh) 25 f_23)) := hD
                  have loop3 : ∀ (fu : Nat) (k3 : Int32) (fs : Nat → Int32) (H : Heap) (locs : List Loc) (ls : Array Slot), (0 ≤ k3.toInt) → (k3.toInt ≤ 4) → (bI fs 0 16) → (4 - k3.toInt < (fu : Int)) → va_P D vwCl (mwd y ad zw (tI (tI (sI (sI (sI (tI (tI (tI (tI (tJ (sI (tI (sI (tI (sI (tI (sI (tI (sI (sI (sI (sI (sI (sI (sI (sI σ 3 (σ.1 1)) 1 0) 2 n_2) 4 n_3) 5 n_4) 6 n_5) 23 n_6) 29 n_7) 27 f_8) 32 n_9) 30 f_10) 31 n_11) 26 f_13) 40 n_14) 41 f_15) 33 n_16) 34 f_17) 35 f_18) 36 f_19) 37 f_20) 38 f_21) 39 n_22) 7 n_4) 8 n_5) 24 gh) 25 fs)) H → va_D A (mwd y ad zw (tI (tI (sI (sI (sI (tI (tI (tI (tI (tJ (sI (tI (sI (tI (sI (tI (sI (tI (sI (sI (sI (sI (sI (sI (sI (sI σ 3 (σ.1 1)) 1 0) 2 n_2) 4 n_3) 5 n_4) 6 n_5) 23 n_6) 29 n_7) 27 f_8) 32 n_9) 30 f_10) 31 n_11) 26 f_13) 40 n_14) 41 f_15) 33 n_16) 34 f_17) 35 f_18) 36 f_19) 37 f_20) 38 f_21) 39 n_22) 7 n_4) 8 n_5) 24 gh) 25 fs)) → va_S A s.heap H locs → lv_has ls 2 [(1, .int k3), (0, .ref (ad 1))] → W p l e ({ frames := 13, cells := 0, slots := 0, locals := 285 } : Room) s m ([.ref (ad 1)] : List Value).toArray below meth c H locs 0 0 Q (F0 m 131 ls []) := by
                    intro fu
                    induction fu with
                    | zero =>
                      intro k3 fs H locs ls hk4 hk5 hfs hm
                      exact absurd hm (by omega)
                    | succ fu ih_loop3 =>
                      intro k3 fs H locs ls hk4 hk5 hfs hm hP hD hS hl
                      refine lv_iload_n hx hb dX12_program_131 rfl (lv_at hl 0 rfl) ?_
                      refine lv_iconst (v := 4) hx hb dX12_program_132 (by decide) ?_
                      refine lv_icmp_ge (tgt := 156) hx hb dX12_program_133 (by decide) (fun c_29 => ?_) (fun c_29 => ?_)
                      · have kc_29 : k3.toInt ≥ 4 := by have h9 := c_29; simp only [ge_iff_le, gt_iff_lt, x_lt, x_le, x_eq, ne_eq, Int32.not_lt, Int32.not_le] at h9; simp only [Int32.reduceToInt] at h9; omega
                        refine lv_iconst (v := 0) hx hb dX12_program_156 (by decide) ?_
                        refine lv_istore_n (lv' := [(1, .int 0), (0, .ref (ad 1))]) hx hb dX12_program_157 rfl hl (by decide) rfl (fun ls hl => ?_)
                        have hP : va_P D vwCl (mwd y ad zw (tI (tI (tI (sI (sI (sI (tI (tI (tI (tI (tJ (sI (tI (sI (sI (tI (sI (tI (sI (sI (sI (sI (sI (sI (sI (sI σ 3 (σ.1 1)) 1 0) 2 n_2) 4 n_3) 5 n_4) 6 n_5) 23 n_6) 29 n_7) 27 f_8) 32 n_9) 30 f_10) 31 n_11) 40 n_14) 41 f_15) 33 n_16) 34 f_17) 35 f_18) 36 f_19) 37 f_20) 38 f_21) 39 n_22) 7 n_4) 8 n_5) 24 gh) 25 fs) 26 f_13)) H := hP
                        have hD : va_D A (mwd y ad zw (tI (tI (tI (sI (sI (sI (tI (tI (tI (tI (tJ (sI (tI (sI (sI (tI (sI (tI (sI (sI (sI (sI (sI (sI (sI (sI σ 3 (σ.1 1)) 1 0) 2 n_2) 4 n_3) 5 n_4) 6 n_5) 23 n_6) 29 n_7) 27 f_8) 32 n_9) 30 f_10) 31 n_11) 40 n_14) 41 f_15) 33 n_16) 34 f_17) 35 f_18) 36 f_19) 37 f_20) 38 f_21) 39 n_22) 7 n_4) 8 n_5) 24 gh) 25 fs) 26 f_13)) := hD
                        have loop4 : ∀ (fu : Nat) (k4 : Int32) (fn : Nat → Int32) (H : Heap) (locs : List Loc) (ls : Array Slot), (0 ≤ k4.toInt) → (k4.toInt ≤ (f_12 4).toInt) → (bI fn 0 9999) → ((f_12 4).toInt - k4.toInt < (fu : Int)) → va_P D vwCl (mwd y ad zw (tI (tI (tI (sI (sI (sI (tI (tI (tI (tI (tJ (sI (tI (sI (sI (tI (sI (tI (sI (sI (sI (sI (sI (sI (sI (sI σ 3 (σ.1 1)) 1 0) 2 n_2) 4 n_3) 5 n_4) 6 n_5) 23 n_6) 29 n_7) 27 f_8) 32 n_9) 30 f_10) 31 n_11) 40 n_14) 41 f_15) 33 n_16) 34 f_17) 35 f_18) 36 f_19) 37 f_20) 38 f_21) 39 n_22) 7 n_4) 8 n_5) 24 gh) 25 fs) 26 fn)) H → va_D A (mwd y ad zw (tI (tI (tI (sI (sI (sI (tI (tI (tI (tI (tJ (sI (tI (sI (sI (tI (sI (tI (sI (sI (sI (sI (sI (sI (sI (sI σ 3 (σ.1 1)) 1 0) 2 n_2) 4 n_3) 5 n_4) 6 n_5) 23 n_6) 29 n_7) 27 f_8) 32 n_9) 30 f_10) 31 n_11) 40 n_14) 41 f_15) 33 n_16) 34 f_17) 35 f_18) 36 f_19) 37 f_20) 38 f_21) 39 n_22) 7 n_4) 8 n_5) 24 gh) 25 fs) 26 fn)) → va_S A s.heap H locs → lv_has ls 2 [(1, .int k4), (0, .ref (ad 1))] → W p l e ({ frames := 13, cells := 0, slots := 0, locals := 285 } : Room) s m ([.ref (ad 1)] : List Value).toArray below meth c H locs 0 0 Q (F0 m 158 ls []) := by
                          intro fu
                          induction fu with
                          | zero =>
                            intro k4 fn H locs ls hk6 hk7 hfn hm
                            exact absurd hm (by omega)
                          | succ fu ih_loop4 =>
                            intro k4 fn H locs ls hk6 hk7 hfn hm hP hD hS hl
                            refine lv_iload_n hx hb dX12_program_158 rfl (lv_at hl 0 rfl) ?_
                            refine lv_aload_n hx hb dX12_program_159 rfl (lv_at hl 1 rfl) ?_
                            refine va_get (D := D) (ci := 11) (v := .ref (ad 24)) (C := RX12) (T := TX12) (N := 85) hx hb hts inX12 hown hK hP 0 mwd_o0 rfl 24 (by decide) fl60 (fun _ h9 => h9) rfl dX12_program_160 ?_
                            refine lv_iconst (v := 4) hx hb dX12_program_163 (by decide) ?_
                            refine va_iald hx hb hK hP 16 2 mwd_a16 rfl (x_in (by decide) (by decide)) dX12_program_164 ?_
                            refine lv_topi (fun i_30 ei_30 => ?_)
                            have ei_30 : i_30 = gh (Int32.toNatClampNeg 4) := ei_30
                            have qi_30 : i_30.toInt = (f_12 4).toInt := by rw [ei_30]; exact congrArg Int32.toInt (hr1 4 (by decide))
                            refine lv_icmp_ge (tgt := 190) hx hb dX12_program_165 (by decide) (fun c_31 => ?_) (fun c_31 => ?_)
                            · have kc_31 : k4.toInt ≥ i_30.toInt := by have h9 := c_31; simp only [ge_iff_le, gt_iff_lt, x_lt, x_le, x_eq, ne_eq, Int32.not_lt, Int32.not_le] at h9; omega
                              refine lv_iconst (v := 0) hx hb dX12_program_190 (by decide) ?_
                              refine lv_istore_n (lv' := [(1, .int 0), (0, .ref (ad 1))]) hx hb dX12_program_191 rfl hl (by decide) rfl (fun ls hl => ?_)
                              have hP : va_P D vwCl (mwd y ad zw (tI (tI (tI (tI (sI (sI (sI (tI (tI (tI (tI (tJ (sI (tI (sI (sI (tI (sI (tI (sI (sI (sI (sI (sI (sI (sI (sI σ 3 (σ.1 1)) 1 0) 2 n_2) 4 n_3) 5 n_4) 6 n_5) 23 n_6) 29 n_7) 27 f_8) 32 n_9) 30 f_10) 31 n_11) 40 n_14) 41 f_15) 33 n_16) 34 f_17) 35 f_18) 36 f_19) 37 f_20) 38 f_21) 39 n_22) 7 n_4) 8 n_5) 24 gh) 25 fs) 26 fn) 85 (σ.2.2.1 85))) H := hP
                              have hD : va_D A (mwd y ad zw (tI (tI (tI (tI (sI (sI (sI (tI (tI (tI (tI (tJ (sI (tI (sI (sI (tI (sI (tI (sI (sI (sI (sI (sI (sI (sI (sI σ 3 (σ.1 1)) 1 0) 2 n_2) 4 n_3) 5 n_4) 6 n_5) 23 n_6) 29 n_7) 27 f_8) 32 n_9) 30 f_10) 31 n_11) 40 n_14) 41 f_15) 33 n_16) 34 f_17) 35 f_18) 36 f_19) 37 f_20) 38 f_21) 39 n_22) 7 n_4) 8 n_5) 24 gh) 25 fs) 26 fn) 85 (σ.2.2.1 85))) := hD
                              have loop5 : ∀ (fu : Nat) (k5 : Int32) (fup : Nat → Int32) (H : Heap) (locs : List Loc) (ls : Array Slot), (0 ≤ k5.toInt) → (k5.toInt ≤ n_7.toInt) → (∀ q : Nat, q < k5.toInt.toNat → fup (1200 + q) = f_8 q) → (n_7.toInt - k5.toInt < (fu : Int)) → va_P D vwCl (mwd y ad zw (tI (tI (tI (tI (sI (sI (sI (tI (tI (tI (tI (tJ (sI (tI (sI (sI (tI (sI (tI (sI (sI (sI (sI (sI (sI (sI (sI σ 3 (σ.1 1)) 1 0) 2 n_2) 4 n_3) 5 n_4) 6 n_5) 23 n_6) 29 n_7) 27 f_8) 32 n_9) 30 f_10) 31 n_11) 40 n_14) 41 f_15) 33 n_16) 34 f_17) 35 f_18) 36 f_19) 37 f_20) 38 f_21) 39 n_22) 7 n_4) 8 n_5) 24 gh) 25 fs) 26 fn) 85 fup)) H → va_D A (mwd y ad zw (tI (tI (tI (tI (sI (sI (sI (tI (tI (tI (tI (tJ (sI (tI (sI (sI (tI (sI (tI (sI (sI (sI (sI (sI (sI (sI (sI σ 3 (σ.1 1)) 1 0) 2 n_2) 4 n_3) 5 n_4) 6 n_5) 23 n_6) 29 n_7) 27 f_8) 32 n_9) 30 f_10) 31 n_11) 40 n_14) 41 f_15) 33 n_16) 34 f_17) 35 f_18) 36 f_19) 37 f_20) 38 f_21) 39 n_22) 7 n_4) 8 n_5) 24 gh) 25 fs) 26 fn) 85 fup)) → va_S A s.heap H locs → lv_has ls 2 [(1, .int k5), (0, .ref (ad 1))] → W p l e ({ frames := 13, cells := 0, slots := 0, locals := 285 } : Room) s m ([.ref (ad 1)] : List Value).toArray below meth c H locs 0 0 Q (F0 m 192 ls []) := by
                                intro fu
                                induction fu with
                                | zero =>
                                  intro k5 fup H locs ls hk8 hk9 hfu hm
                                  exact absurd hm (by omega)
                                | succ fu ih_loop5 =>
                                  intro k5 fup H locs ls hk8 hk9 hfu hm hP hD hS hl
                                  refine lv_iload_n hx hb dX12_program_192 rfl (lv_at hl 0 rfl) ?_
                                  refine lv_aload_n hx hb dX12_program_193 rfl (lv_at hl 1 rfl) ?_
                                  refine va_get (D := D) (ci := 11) (v := .int n_7) (C := RX12) (T := TX12) (N := 85) hx hb hts inX12 hown hK hP 0 mwd_o0 rfl 29 (by decide) fl246 (fun _ h9 => h9) rfl dX12_program_194 ?_
                                  refine lv_icmp_ge (tgt := 222) hx hb dX12_program_197 (by decide) (fun c_32 => ?_) (fun c_32 => ?_)
                                  · have kc_32 : k5.toInt ≥ n_7.toInt := by have h9 := c_32; simp only [ge_iff_le, gt_iff_lt, x_lt, x_le, x_eq, ne_eq, Int32.not_lt, Int32.not_le] at h9; omega
                                    refine lv_aload_n hx hb dX12_program_222 rfl (lv_at hl 1 rfl) ?_
                                    refine va_get (D := D) (ci := 11) (v := .ref (ad 28)) (C := RX12) (T := TX12) (N := 85) hx hb hts inX12 hown hK hP 0 mwd_o0 rfl 28 (by decide) fl72 (fun _ h9 => h9) rfl dX12_program_223 ?_
                                    refine lv_iconst (v := 1) hx hb dX12_program_226 (by decide) ?_
                                    refine lv_aload_n hx hb dX12_program_227 rfl (lv_at hl 1 rfl) ?_
                                    refine va_get (D := D) (ci := 11) (v := .int n_7) (C := RX12) (T := TX12) (N := 85) hx hb hts inX12 hown hK hP 0 mwd_o0 rfl 29 (by decide) fl246 (fun _ h9 => h9) rfl dX12_program_228 ?_
                                    refine va_iast hx hb hK hP hD hS 20 2 mwd_a20 rfl (x_in (by decide) (by decide)) dX12_program_231 (fun H locs hP hD hS => ?_)
                                    obtain ⟨f_33, ef_33⟩ : ∃ z9 : Nat → Int32, z9 = (upd (σ.2.2.1 28) (Int32.toNatClampNeg 1) n_7) := ⟨_, rfl⟩
                                    have hP : va_P D vwCl (mwd y ad zw (tI (tI (tI (tI (tI (sI (sI (sI (tI (tI (tI (tI (tJ (sI (tI (sI (sI (tI (sI (tI (sI (sI (sI (sI (sI (sI (sI (sI σ 3 (σ.1 1)) 1 0) 2 n_2) 4 n_3) 5 n_4) 6 n_5) 23 n_6) 29 n_7) 27 f_8) 32 n_9) 30 f_10) 31 n_11) 40 n_14) 41 f_15) 33 n_16) 34 f_17) 35 f_18) 36 f_19) 37 f_20) 38 f_21) 39 n_22) 7 n_4) 8 n_5) 24 gh) 25 fs) 26 fn) 85 fup) 28 f_33)) H := by rw [ef_33]; exact x_trP hP mwd_s20
                                    have hD : va_D A (mwd y ad zw (tI (tI (tI (tI (tI (sI (sI (sI (tI (tI (tI (tI (tJ (sI (tI (sI (sI (tI (sI (tI (sI (sI (sI (sI (sI (sI (sI (sI σ 3 (σ.1 1)) 1 0) 2 n_2) 4 n_3) 5 n_4) 6 n_5) 23 n_6) 29 n_7) 27 f_8) 32 n_9) 30 f_10) 31 n_11) 40 n_14) 41 f_15) 33 n_16) 34 f_17) 35 f_18) 36 f_19) 37 f_20) 38 f_21) 39 n_22) 7 n_4) 8 n_5) 24 gh) 25 fs) 26 fn) 85 fup) 28 f_33)) := by rw [ef_33]; exact x_trD hD mwd_s20
                                    have hm1 : (f_33 1).toInt = n_7.toInt := by rw [ef_33]; exact congrArg Int32.toInt (x_upd_same _ 1 _)
                                    refine lv_iconst (v := 0) hx hb dX12_program_232 (by decide) ?_
                                    refine lv_istore_n (lv' := [(1, .int 0), (0, .ref (ad 1))]) hx hb dX12_program_233 rfl hl (by decide) rfl (fun ls hl => ?_)
                                    have hP : va_P D vwCl (mwd y ad zw (tJ (tJ (tI (tI (tI (tI (tI (sI (sI (sI (tI (tI (tI (tI (tJ (sI (tI (sI (sI (tI (sI (tI (sI (sI (sI (sI (sI (sI (sI (sI σ 3 (σ.1 1)) 1 0) 2 n_2) 4 n_3) 5 n_4) 6 n_5) 23 n_6) 29 n_7) 27 f_8) 32 n_9) 30 f_10) 31 n_11) 40 n_14) 41 f_15) 33 n_16) 34 f_17) 35 f_18) 36 f_19) 37 f_20) 38 f_21) 39 n_22) 7 n_4) 8 n_5) 24 gh) 25 fs) 26 fn) 85 fup) 28 f_33) 45 (σ.2.2.2 45)) 46 (σ.2.2.2 46))) H := hP
                                    have hD : va_D A (mwd y ad zw (tJ (tJ (tI (tI (tI (tI (tI (sI (sI (sI (tI (tI (tI (tI (tJ (sI (tI (sI (sI (tI (sI (tI (sI (sI (sI (sI (sI (sI (sI (sI σ 3 (σ.1 1)) 1 0) 2 n_2) 4 n_3) 5 n_4) 6 n_5) 23 n_6) 29 n_7) 27 f_8) 32 n_9) 30 f_10) 31 n_11) 40 n_14) 41 f_15) 33 n_16) 34 f_17) 35 f_18) 36 f_19) 37 f_20) 38 f_21) 39 n_22) 7 n_4) 8 n_5) 24 gh) 25 fs) 26 fn) 85 fup) 28 f_33) 45 (σ.2.2.2 45)) 46 (σ.2.2.2 46))) := hD
                                    have loop6 : ∀ (fu : Nat) (k6 : Int32) (fA : Nat → Int64) (fB : Nat → Int64) (H : Heap) (locs : List Loc) (ls : Array Slot), (0 ≤ k6.toInt) → (k6.toInt ≤ 8) → (bJ fA (-1000000000) 1000000000) → (bJ fB 0 1000000000) → (8 - k6.toInt < (fu : Int)) → va_P D vwCl (mwd y ad zw (tJ (tJ (tI (tI (tI (tI (tI (sI (sI (sI (tI (tI (tI (tI (tJ (sI (tI (sI (sI (tI (sI (tI (sI (sI (sI (sI (sI (sI (sI (sI σ 3 (σ.1 1)) 1 0) 2 n_2) 4 n_3) 5 n_4) 6 n_5) 23 n_6) 29 n_7) 27 f_8) 32 n_9) 30 f_10) 31 n_11) 40 n_14) 41 f_15) 33 n_16) 34 f_17) 35 f_18) 36 f_19) 37 f_20) 38 f_21) 39 n_22) 7 n_4) 8 n_5) 24 gh) 25 fs) 26 fn) 85 fup) 28 f_33) 45 fA) 46 fB)) H → va_D A (mwd y ad zw (tJ (tJ (tI (tI (tI (tI (tI (sI (sI (sI (tI (tI (tI (tI (tJ (sI (tI (sI (sI (tI (sI (tI (sI (sI (sI (sI (sI (sI (sI (sI σ 3 (σ.1 1)) 1 0) 2 n_2) 4 n_3) 5 n_4) 6 n_5) 23 n_6) 29 n_7) 27 f_8) 32 n_9) 30 f_10) 31 n_11) 40 n_14) 41 f_15) 33 n_16) 34 f_17) 35 f_18) 36 f_19) 37 f_20) 38 f_21) 39 n_22) 7 n_4) 8 n_5) 24 gh) 25 fs) 26 fn) 85 fup) 28 f_33) 45 fA) 46 fB)) → va_S A s.heap H locs → lv_has ls 2 [(1, .int k6), (0, .ref (ad 1))] → W p l e ({ frames := 13, cells := 0, slots := 0, locals := 285 } : Room) s m ([.ref (ad 1)] : List Value).toArray below meth c H locs 0 0 Q (F0 m 234 ls []) := by
                                      intro fu
                                      induction fu with
                                      | zero =>
                                        intro k6 fA fB H locs ls hka hkb hfA hfB hm
                                        exact absurd hm (by omega)
                                      | succ fu ih_loop6 =>
                                        intro k6 fA fB H locs ls hka hkb hfA hfB hm hP hD hS hl
                                        refine lv_iload_n hx hb dX12_program_234 rfl (lv_at hl 0 rfl) ?_
                                        refine lv_bipush (v := 8) hx hb dX12_program_235 (by decide) ?_
                                        refine lv_icmp_ge (tgt := 260) hx hb dX12_program_237 (by decide) (fun c_34 => ?_) (fun c_34 => ?_)
                                        · have kc_34 : k6.toInt ≥ 8 := by have h9 := c_34; simp only [ge_iff_le, gt_iff_lt, x_lt, x_le, x_eq, ne_eq, Int32.not_lt, Int32.not_le] at h9; simp only [Int32.reduceToInt] at h9; omega
                                          refine lv_aload_n hx hb dX12_program_260 rfl (lv_at hl 1 rfl) ?_
                                          refine lv_iconst (v := 0) hx hb dX12_program_261 (by decide) ?_
                                          refine va_put (D := D) (ci := 11) (v := .int 0) (ty := .int) (C := RX12) (T := TX12) (N := 85) hx hb hts inX12 tyX12 tyX12_ok nmX12 hown hK hP hD hS 0 mwd_o0 rfl 47 (by decide) fl365 (fun _ h9 => h9) rfl (by decide +kernel) rfl rfl (Nat.le_of_ble_eq_true rfl) dX12_program_262 (fun H locs hP hD hS => ?_)
                                          have hP : va_P D vwCl (mwd y ad zw (sI (tJ (tJ (tI (tI (tI (tI (tI (sI (sI (sI (tI (tI (tI (tI (tJ (sI (tI (sI (sI (tI (sI (tI (sI (sI (sI (sI (sI (sI (sI (sI σ 3 (σ.1 1)) 1 0) 2 n_2) 4 n_3) 5 n_4) 6 n_5) 23 n_6) 29 n_7) 27 f_8) 32 n_9) 30 f_10) 31 n_11) 40 n_14) 41 f_15) 33 n_16) 34 f_17) 35 f_18) 36 f_19) 37 f_20) 38 f_21) 39 n_22) 7 n_4) 8 n_5) 24 gh) 25 fs) 26 fn) 85 fup) 28 f_33) 45 fA) 46 fB) 47 0)) H := x_trP hP mwd_p0_47
                                          have hD : va_D A (mwd y ad zw (sI (tJ (tJ (tI (tI (tI (tI (tI (sI (sI (sI (tI (tI (tI (tI (tJ (sI (tI (sI (sI (tI (sI (tI (sI (sI (sI (sI (sI (sI (sI (sI σ 3 (σ.1 1)) 1 0) 2 n_2) 4 n_3) 5 n_4) 6 n_5) 23 n_6) 29 n_7) 27 f_8) 32 n_9) 30 f_10) 31 n_11) 40 n_14) 41 f_15) 33 n_16) 34 f_17) 35 f_18) 36 f_19) 37 f_20) 38 f_21) 39 n_22) 7 n_4) 8 n_5) 24 gh) 25 fs) 26 fn) 85 fup) 28 f_33) 45 fA) 46 fB) 47 0)) := x_trD hD mwd_p0_47
                                          refine lv_aload_n hx hb dX12_program_265 rfl (lv_at hl 1 rfl) ?_
                                          refine lv_iconst (v := 0) hx hb dX12_program_266 (by decide) ?_
                                          refine va_put (D := D) (ci := 11) (v := .int 0) (ty := .int) (C := RX12) (T := TX12) (N := 85) hx hb hts inX12 tyX12 tyX12_ok nmX12 hown hK hP hD hS 0 mwd_o0 rfl 48 (by decide) fl368 (fun _ h9 => h9) rfl (by decide +kernel) rfl rfl (Nat.le_of_ble_eq_true rfl) dX12_program_267 (fun H locs hP hD hS => ?_)
                                          have hP : va_P D vwCl (mwd y ad zw (sI (sI (tJ (tJ (tI (tI (tI (tI (tI (sI (sI (sI (tI (tI (tI (tI (tJ (sI (tI (sI (sI (tI (sI (tI (sI (sI (sI (sI (sI (sI (sI (sI σ 3 (σ.1 1)) 1 0) 2 n_2) 4 n_3) 5 n_4) 6 n_5) 23 n_6) 29 n_7) 27 f_8) 32 n_9) 30 f_10) 31 n_11) 40 n_14) 41 f_15) 33 n_16) 34 f_17) 35 f_18) 36 f_19) 37 f_20) 38 f_21) 39 n_22) 7 n_4) 8 n_5) 24 gh) 25 fs) 26 fn) 85 fup) 28 f_33) 45 fA) 46 fB) 47 0) 48 0)) H := x_trP hP mwd_p0_48
                                          have hD : va_D A (mwd y ad zw (sI (sI (tJ (tJ (tI (tI (tI (tI (tI (sI (sI (sI (tI (tI (tI (tI (tJ (sI (tI (sI (sI (tI (sI (tI (sI (sI (sI (sI (sI (sI (sI (sI σ 3 (σ.1 1)) 1 0) 2 n_2) 4 n_3) 5 n_4) 6 n_5) 23 n_6) 29 n_7) 27 f_8) 32 n_9) 30 f_10) 31 n_11) 40 n_14) 41 f_15) 33 n_16) 34 f_17) 35 f_18) 36 f_19) 37 f_20) 38 f_21) 39 n_22) 7 n_4) 8 n_5) 24 gh) 25 fs) 26 fn) 85 fup) 28 f_33) 45 fA) 46 fB) 47 0) 48 0)) := x_trD hD mwd_p0_48
                                          refine lv_aload_n hx hb dX12_program_270 rfl (lv_at hl 1 rfl) ?_
                                          refine lv_iconst (v := 0) hx hb dX12_program_271 (by decide) ?_
                                          refine va_put (D := D) (ci := 11) (v := .int 0) (ty := .boolean) (C := RX12) (T := TX12) (N := 85) hx hb hts inX12 tyX12 tyX12_ok nmX12 hown hK hP hD hS 0 mwd_o0 rfl 54 (by decide) fl371 (fun _ h9 => h9) rfl (by decide +kernel) rfl rfl (Nat.le_of_ble_eq_true rfl) dX12_program_272 (fun H locs hP hD hS => ?_)
                                          have hP : va_P D vwCl (mwd y ad zw (sI (sI (sI (tJ (tJ (tI (tI (tI (tI (tI (sI (sI (sI (tI (tI (tI (tI (tJ (sI (tI (sI (sI (tI (sI (tI (sI (sI (sI (sI (sI (sI (sI (sI σ 3 (σ.1 1)) 1 0) 2 n_2) 4 n_3) 5 n_4) 6 n_5) 23 n_6) 29 n_7) 27 f_8) 32 n_9) 30 f_10) 31 n_11) 40 n_14) 41 f_15) 33 n_16) 34 f_17) 35 f_18) 36 f_19) 37 f_20) 38 f_21) 39 n_22) 7 n_4) 8 n_5) 24 gh) 25 fs) 26 fn) 85 fup) 28 f_33) 45 fA) 46 fB) 47 0) 48 0) 54 0)) H := x_trP hP mwd_p0_54
                                          have hD : va_D A (mwd y ad zw (sI (sI (sI (tJ (tJ (tI (tI (tI (tI (tI (sI (sI (sI (tI (tI (tI (tI (tJ (sI (tI (sI (sI (tI (sI (tI (sI (sI (sI (sI (sI (sI (sI (sI σ 3 (σ.1 1)) 1 0) 2 n_2) 4 n_3) 5 n_4) 6 n_5) 23 n_6) 29 n_7) 27 f_8) 32 n_9) 30 f_10) 31 n_11) 40 n_14) 41 f_15) 33 n_16) 34 f_17) 35 f_18) 36 f_19) 37 f_20) 38 f_21) 39 n_22) 7 n_4) 8 n_5) 24 gh) 25 fs) 26 fn) 85 fup) 28 f_33) 45 fA) 46 fB) 47 0) 48 0) 54 0)) := x_trD hD mwd_p0_54
                                          refine lv_aload_n hx hb dX12_program_275 rfl (lv_at hl 1 rfl) ?_
                                          refine lv_iconst (v := 0) hx hb dX12_program_276 (by decide) ?_
                                          refine va_put (D := D) (ci := 11) (v := .int 0) (ty := .boolean) (C := RX12) (T := TX12) (N := 85) hx hb hts inX12 tyX12 tyX12_ok nmX12 hown hK hP hD hS 0 mwd_o0 rfl 78 (by decide) fl375 (fun _ h9 => h9) rfl (by decide +kernel) rfl rfl (Nat.le_of_ble_eq_true rfl) dX12_program_277 (fun H locs hP hD hS => ?_)
                                          have hP : va_P D vwCl (mwd y ad zw (sI (sI (sI (sI (tJ (tJ (tI (tI (tI (tI (tI (sI (sI (sI (tI (tI (tI (tI (tJ (sI (tI (sI (sI (tI (sI (tI (sI (sI (sI (sI (sI (sI (sI (sI σ 3 (σ.1 1)) 1 0) 2 n_2) 4 n_3) 5 n_4) 6 n_5) 23 n_6) 29 n_7) 27 f_8) 32 n_9) 30 f_10) 31 n_11) 40 n_14) 41 f_15) 33 n_16) 34 f_17) 35 f_18) 36 f_19) 37 f_20) 38 f_21) 39 n_22) 7 n_4) 8 n_5) 24 gh) 25 fs) 26 fn) 85 fup) 28 f_33) 45 fA) 46 fB) 47 0) 48 0) 54 0) 78 0)) H := x_trP hP mwd_p0_78
                                          have hD : va_D A (mwd y ad zw (sI (sI (sI (sI (tJ (tJ (tI (tI (tI (tI (tI (sI (sI (sI (tI (tI (tI (tI (tJ (sI (tI (sI (sI (tI (sI (tI (sI (sI (sI (sI (sI (sI (sI (sI σ 3 (σ.1 1)) 1 0) 2 n_2) 4 n_3) 5 n_4) 6 n_5) 23 n_6) 29 n_7) 27 f_8) 32 n_9) 30 f_10) 31 n_11) 40 n_14) 41 f_15) 33 n_16) 34 f_17) 35 f_18) 36 f_19) 37 f_20) 38 f_21) 39 n_22) 7 n_4) 8 n_5) 24 gh) 25 fs) 26 fn) 85 fup) 28 f_33) 45 fA) 46 fB) 47 0) 48 0) 54 0) 78 0)) := x_trD hD mwd_p0_78
                                          refine lv_aload_n hx hb dX12_program_280 rfl (lv_at hl 1 rfl) ?_
                                          refine va_get (D := D) (ci := 11) (v := .ref (ad 24)) (C := RX12) (T := TX12) (N := 85) hx hb hts inX12 hown hK hP 0 mwd_o0 rfl 24 (by decide) fl60 (fun _ h9 => h9) rfl dX12_program_281 ?_
                                          refine lv_bipush (v := 8) hx hb dX12_program_284 (by decide) ?_
                                          refine va_iald hx hb hK hP 16 2 mwd_a16 rfl (x_in (by decide) (by decide)) dX12_program_286 ?_
                                          refine lv_topi (fun i_35 ei_35 => ?_)
                                          have ei_35 : i_35 = gh (Int32.toNatClampNeg 8) := ei_35
                                          have hP : va_P D vwCl (mwd y ad zw (sI (sI (sI (sI (tJ (tJ (tI (tI (sI (sI (sI (sI (tI (sI (tI (tI (tI (tI (tJ (sI (tI (sI (tI (tI (sI (tI (sI (tI (sI (sI (sI (sI (sI (sI σ 2 n_2) 4 n_3) 5 n_4) 6 n_5) 23 n_6) 29 n_7) 27 f_8) 32 n_9) 30 f_10) 31 n_11) 24 gh) 26 fn) 40 n_14) 41 f_15) 33 n_16) 34 f_17) 35 f_18) 36 f_19) 37 f_20) 38 f_21) 39 n_22) 25 fs) 3 (σ.1 1)) 1 0) 7 n_4) 8 n_5) 85 fup) 28 f_33) 45 fA) 46 fB) 47 0) 48 0) 54 0) 78 0)) H := hP
                                          have hD : va_D A (mwd y ad zw (sI (sI (sI (sI (tJ (tJ (tI (tI (sI (sI (sI (sI (tI (sI (tI (tI (tI (tI (tJ (sI (tI (sI (tI (tI (sI (tI (sI (tI (sI (sI (sI (sI (sI (sI σ 2 n_2) 4 n_3) 5 n_4) 6 n_5) 23 n_6) 29 n_7) 27 f_8) 32 n_9) 30 f_10) 31 n_11) 24 gh) 26 fn) 40 n_14) 41 f_15) 33 n_16) 34 f_17) 35 f_18) 36 f_19) 37 f_20) 38 f_21) 39 n_22) 25 fs) 3 (σ.1 1)) 1 0) 7 n_4) 8 n_5) 85 fup) 28 f_33) 45 fA) 46 fB) 47 0) 48 0) 54 0) 78 0)) := hD
                                          obtain ⟨ty9, hty9⟩ := PE_end (by rw [hg0] at hg8; exact hg8) (f' := fun j => fup (1200 + j)) (fun q h9 => hfu q (by omega))
                                          have hr5 : (gh 5).toInt = (f_12 0).toInt := congrArg Int32.toInt (hr0 0 (by omega))
                                          have hr9 : (gh 9).toInt = (f_12 4).toInt := congrArg Int32.toInt (hr0 4 (by omega))
                                          exact x_iretW (v := i_35) (u := (n_2, n_3, n_4, n_5, n_6, n_7, f_8, n_9, f_10, n_11, gh, fn, n_14, f_15, n_16, f_17, f_18, f_19, f_20, f_21, n_22, fs, (σ.1 1), 0, n_4, n_5, fup, f_33, fA, fB, 0, 0, 0, 0)) hx hb hr hQ (by (try dsimp only); exact ⟨⟨rfl, by decide, by decide, by decide, by omega, by omega, by omega, by omega, n_7.toInt.toNat, ty9, by omega, by omega, by rw [hr9]; exact hty9⟩, hg_24, hfn, hfs, hfA, hfB⟩) hP hD hK hS dX12_program_287 hlocks
                                        · have kc_34 : k6.toInt < 8 := by have h9 := c_34; simp only [ge_iff_le, gt_iff_lt, x_lt, x_le, x_eq, ne_eq, Int32.not_lt, Int32.not_le] at h9; simp only [Int32.reduceToInt] at h9; omega
                                          refine lv_aload_n hx hb dX12_program_240 rfl (lv_at hl 1 rfl) ?_
                                          refine va_get (D := D) (ci := 11) (v := .ref (ad 45)) (C := RX12) (T := TX12) (N := 85) hx hb hts inX12 hown hK hP 0 mwd_o0 rfl 45 (by decide) fl97 (fun _ h9 => h9) rfl dX12_program_241 ?_
                                          refine lv_iload_n hx hb dX12_program_244 rfl (lv_at hl 0 rfl) ?_
                                          refine lv_lconst (v := 0) hx hb dX12_program_245 (by decide) ?_
                                          refine va_last hx hb hK hP hD hS 28 3 mwd_a28 rfl (x_in (by omega) (by omega)) dX12_program_246 (fun H locs hP hD hS => ?_)
                                          obtain ⟨f_36, ef_36⟩ : ∃ z9 : Nat → Int64, z9 = (vp_updL fA (Int32.toNatClampNeg k6) 0) := ⟨_, rfl⟩
                                          have hP : va_P D vwCl (mwd y ad zw (tJ (tJ (tJ (tI (tI (tI (tI (tI (sI (sI (sI (tI (tI (tI (tI (tJ (sI (tI (sI (sI (tI (sI (tI (sI (sI (sI (sI (sI (sI (sI (sI σ 3 (σ.1 1)) 1 0) 2 n_2) 4 n_3) 5 n_4) 6 n_5) 23 n_6) 29 n_7) 27 f_8) 32 n_9) 30 f_10) 31 n_11) 40 n_14) 41 f_15) 33 n_16) 34 f_17) 35 f_18) 36 f_19) 37 f_20) 38 f_21) 39 n_22) 7 n_4) 8 n_5) 24 gh) 25 fs) 26 fn) 85 fup) 28 f_33) 45 fA) 46 fB) 45 f_36)) H := by rw [ef_36]; exact x_trP hP mwd_s28
                                          have hD : va_D A (mwd y ad zw (tJ (tJ (tJ (tI (tI (tI (tI (tI (sI (sI (sI (tI (tI (tI (tI (tJ (sI (tI (sI (sI (tI (sI (tI (sI (sI (sI (sI (sI (sI (sI (sI σ 3 (σ.1 1)) 1 0) 2 n_2) 4 n_3) 5 n_4) 6 n_5) 23 n_6) 29 n_7) 27 f_8) 32 n_9) 30 f_10) 31 n_11) 40 n_14) 41 f_15) 33 n_16) 34 f_17) 35 f_18) 36 f_19) 37 f_20) 38 f_21) 39 n_22) 7 n_4) 8 n_5) 24 gh) 25 fs) 26 fn) 85 fup) 28 f_33) 45 fA) 46 fB) 45 f_36)) := by rw [ef_36]; exact x_trD hD mwd_s28
                                          have hvf_36 : bJ f_36 (-1000000000) 1000000000 := by rw [ef_36]; exact b_updJ hfA (by have h7 : (0 : Int64).toInt = 0 := rfl; omega) (by have h7 : (0 : Int64).toInt = 0 := rfl; omega)
                                          refine lv_aload_n hx hb dX12_program_247 rfl (lv_at hl 1 rfl) ?_
                                          refine va_get (D := D) (ci := 11) (v := .ref (ad 46)) (C := RX12) (T := TX12) (N := 85) hx hb hts inX12 hown hK hP 0 mwd_o0 rfl 46 (by decide) fl100 (fun _ h9 => h9) rfl dX12_program_248 ?_
                                          refine lv_iload_n hx hb dX12_program_251 rfl (lv_at hl 0 rfl) ?_
                                          refine lv_lconst (v := 1) hx hb dX12_program_252 (by decide) ?_
                                          refine va_last hx hb hK hP hD hS 29 3 mwd_a29 rfl (x_in (by omega) (by omega)) dX12_program_253 (fun H locs hP hD hS => ?_)
                                          obtain ⟨f_37, ef_37⟩ : ∃ z9 : Nat → Int64, z9 = (vp_updL fB (Int32.toNatClampNeg k6) 1) := ⟨_, rfl⟩
                                          have hP : va_P D vwCl (mwd y ad zw (tJ (tJ (tJ (tJ (tI (tI (tI (tI (tI (sI (sI (sI (tI (tI (tI (tI (tJ (sI (tI (sI (sI (tI (sI (tI (sI (sI (sI (sI (sI (sI (sI (sI σ 3 (σ.1 1)) 1 0) 2 n_2) 4 n_3) 5 n_4) 6 n_5) 23 n_6) 29 n_7) 27 f_8) 32 n_9) 30 f_10) 31 n_11) 40 n_14) 41 f_15) 33 n_16) 34 f_17) 35 f_18) 36 f_19) 37 f_20) 38 f_21) 39 n_22) 7 n_4) 8 n_5) 24 gh) 25 fs) 26 fn) 85 fup) 28 f_33) 45 fA) 46 fB) 45 f_36) 46 f_37)) H := by rw [ef_37]; exact x_trP hP mwd_s29
                                          have hD : va_D A (mwd y ad zw (tJ (tJ (tJ (tJ (tI (tI (tI (tI (tI (sI (sI (sI (tI (tI (tI (tI (tJ (sI (tI (sI (sI (tI (sI (tI (sI (sI (sI (sI (sI (sI (sI (sI σ 3 (σ.1 1)) 1 0) 2 n_2) 4 n_3) 5 n_4) 6 n_5) 23 n_6) 29 n_7) 27 f_8) 32 n_9) 30 f_10) 31 n_11) 40 n_14) 41 f_15) 33 n_16) 34 f_17) 35 f_18) 36 f_19) 37 f_20) 38 f_21) 39 n_22) 7 n_4) 8 n_5) 24 gh) 25 fs) 26 fn) 85 fup) 28 f_33) 45 fA) 46 fB) 45 f_36) 46 f_37)) := by rw [ef_37]; exact x_trD hD mwd_s29
                                          have hvf_37 : bJ f_37 0 1000000000 := by rw [ef_37]; exact b_updJ hfB (by have h7 : (1 : Int64).toInt = 1 := rfl; omega) (by have h7 : (1 : Int64).toInt = 1 := rfl; omega)
                                          obtain ⟨i_38, ei_38⟩ : ∃ z9 : Int32, z9 = k6 + 1 := ⟨_, rfl⟩
                                          have vi_38 : i_38.toInt = k6.toInt + 1 := by have h9 := x_add ei_38 (by omega) (by omega); omega
                                          refine lv_iinc (v := i_38) (lv' := [(1, .int i_38), (0, .ref (ad 1))]) hx hb dX12_program_254 hl (k := 0) rfl (by rw [ei_38]; rfl) (by decide) rfl (fun ls hl => ?_)
                                          refine lv_goto (tgt := 234) hx hb dX12_program_257 (by decide) ?_
                                          have hP : va_P D vwCl (mwd y ad zw (tJ (tJ (tI (tI (tI (tI (tI (sI (sI (sI (tI (tI (tI (tI (tJ (sI (tI (sI (sI (tI (sI (tI (sI (sI (sI (sI (sI (sI (sI (sI σ 3 (σ.1 1)) 1 0) 2 n_2) 4 n_3) 5 n_4) 6 n_5) 23 n_6) 29 n_7) 27 f_8) 32 n_9) 30 f_10) 31 n_11) 40 n_14) 41 f_15) 33 n_16) 34 f_17) 35 f_18) 36 f_19) 37 f_20) 38 f_21) 39 n_22) 7 n_4) 8 n_5) 24 gh) 25 fs) 26 fn) 85 fup) 28 f_33) 45 f_36) 46 f_37)) H := hP
                                          have hD : va_D A (mwd y ad zw (tJ (tJ (tI (tI (tI (tI (tI (sI (sI (sI (tI (tI (tI (tI (tJ (sI (tI (sI (sI (tI (sI (tI (sI (sI (sI (sI (sI (sI (sI (sI σ 3 (σ.1 1)) 1 0) 2 n_2) 4 n_3) 5 n_4) 6 n_5) 23 n_6) 29 n_7) 27 f_8) 32 n_9) 30 f_10) 31 n_11) 40 n_14) 41 f_15) 33 n_16) 34 f_17) 35 f_18) 36 f_19) 37 f_20) 38 f_21) 39 n_22) 7 n_4) 8 n_5) 24 gh) 25 fs) 26 fn) 85 fup) 28 f_33) 45 f_36) 46 f_37)) := hD
                                          exact ih_loop6 i_38 f_36 f_37 H locs ls (by omega) (by omega) hvf_36 hvf_37 (by omega) hP hD hS (lv_sub hl [0, 1] rfl)
                                    exact loop6 9 0 (σ.2.2.2 45) (σ.2.2.2 46) H locs ls (by decide) (by decide) hB45 hB46 (by omega) hP hD hS (lv_sub hl [0, 1] rfl)
                                  · have kc_32 : k5.toInt < n_7.toInt := by have h9 := c_32; simp only [ge_iff_le, gt_iff_lt, x_lt, x_le, x_eq, ne_eq, Int32.not_lt, Int32.not_le] at h9; omega
                                    refine lv_aload_n hx hb dX12_program_200 rfl (lv_at hl 1 rfl) ?_
                                    refine va_get (D := D) (ci := 11) (v := .ref (ad 27)) (C := RX12) (T := TX12) (N := 85) hx hb hts inX12 hown hK hP 0 mwd_o0 rfl 27 (by decide) fl69 (fun _ h9 => h9) rfl dX12_program_201 ?_
                                    refine lv_sipush (v := 1200) hx hb dX12_program_204 (by decide) ?_
                                    refine lv_iload_n hx hb dX12_program_207 rfl (lv_at hl 0 rfl) ?_
                                    refine lv_iadd hx hb dX12_program_208 ?_
                                    refine lv_topi (fun i_39 ei_39 => ?_)
                                    have vi_39 : i_39.toInt = 1200 + k5.toInt := by have h9 := x_add ei_39 (by omega) (by omega); omega
                                    refine lv_aload_n hx hb dX12_program_209 rfl (lv_at hl 1 rfl) ?_
                                    refine va_get (D := D) (ci := 11) (v := .ref (ad 27)) (C := RX12) (T := TX12) (N := 85) hx hb hts inX12 hown hK hP 0 mwd_o0 rfl 27 (by decide) fl69 (fun _ h9 => h9) rfl dX12_program_210 ?_
                                    refine lv_iload_n hx hb dX12_program_213 rfl (lv_at hl 0 rfl) ?_
                                    refine va_iald hx hb hK hP 19 2 mwd_a19 rfl (x_in (by omega) (by omega)) dX12_program_214 ?_
                                    refine lv_topi (fun i_40 ei_40 => ?_)
                                    have ei_40 : i_40 = f_8 (Int32.toNatClampNeg k5) := ei_40.trans (cj_lo (by show Int.toNat _ < _; omega))
                                    have qi_40 : i_40 = f_8 k5.toInt.toNat := by rw [ei_40]; rfl
                                    refine va_iast hx hb hK hP hD hS 19 2 mwd_a19 rfl (x_in (by omega) (by omega)) dX12_program_215 (fun H locs hP hD hS => ?_)
                                    obtain ⟨f_41, ef_41⟩ : ∃ z9 : Nat → Int32, z9 = (upd fup (Int32.toNatClampNeg i_39) i_40) := ⟨_, rfl⟩
                                    rw [cj_uhi (by show _ ≤ Int.toNat _; omega)] at hP hD
                                    have hP : va_P D vwCl (mwd y ad zw (tI (tI (tI (tI (tI (sI (sI (sI (tI (tI (tI (tI (tJ (sI (tI (sI (sI (tI (sI (tI (sI (sI (sI (sI (sI (sI (sI (sI σ 3 (σ.1 1)) 1 0) 2 n_2) 4 n_3) 5 n_4) 6 n_5) 23 n_6) 29 n_7) 27 f_8) 32 n_9) 30 f_10) 31 n_11) 40 n_14) 41 f_15) 33 n_16) 34 f_17) 35 f_18) 36 f_19) 37 f_20) 38 f_21) 39 n_22) 7 n_4) 8 n_5) 24 gh) 25 fs) 26 fn) 85 fup) 85 f_41)) H := by rw [ef_41]; exact x_trP hP mwd_t19
                                    have hD : va_D A (mwd y ad zw (tI (tI (tI (tI (tI (sI (sI (sI (tI (tI (tI (tI (tJ (sI (tI (sI (sI (tI (sI (tI (sI (sI (sI (sI (sI (sI (sI (sI σ 3 (σ.1 1)) 1 0) 2 n_2) 4 n_3) 5 n_4) 6 n_5) 23 n_6) 29 n_7) 27 f_8) 32 n_9) 30 f_10) 31 n_11) 40 n_14) 41 f_15) 33 n_16) 34 f_17) 35 f_18) 36 f_19) 37 f_20) 38 f_21) 39 n_22) 7 n_4) 8 n_5) 24 gh) 25 fs) 26 fn) 85 fup) 85 f_41)) := by rw [ef_41]; exact x_trD hD mwd_t19
                                    obtain ⟨i_42, ei_42⟩ : ∃ z9 : Int32, z9 = k5 + 1 := ⟨_, rfl⟩
                                    have vi_42 : i_42.toInt = k5.toInt + 1 := by have h9 := x_add ei_42 (by omega) (by omega); omega
                                    refine lv_iinc (v := i_42) (lv' := [(1, .int i_42), (0, .ref (ad 1))]) hx hb dX12_program_216 hl (k := 0) rfl (by rw [ei_42]; rfl) (by decide) rfl (fun ls hl => ?_)
                                    refine lv_goto (tgt := 192) hx hb dX12_program_219 (by decide) ?_
                                    have hP : va_P D vwCl (mwd y ad zw (tI (tI (tI (tI (sI (sI (sI (tI (tI (tI (tI (tJ (sI (tI (sI (sI (tI (sI (tI (sI (sI (sI (sI (sI (sI (sI (sI σ 3 (σ.1 1)) 1 0) 2 n_2) 4 n_3) 5 n_4) 6 n_5) 23 n_6) 29 n_7) 27 f_8) 32 n_9) 30 f_10) 31 n_11) 40 n_14) 41 f_15) 33 n_16) 34 f_17) 35 f_18) 36 f_19) 37 f_20) 38 f_21) 39 n_22) 7 n_4) 8 n_5) 24 gh) 25 fs) 26 fn) 85 f_41)) H := hP
                                    have hD : va_D A (mwd y ad zw (tI (tI (tI (tI (sI (sI (sI (tI (tI (tI (tI (tJ (sI (tI (sI (sI (tI (sI (tI (sI (sI (sI (sI (sI (sI (sI (sI σ 3 (σ.1 1)) 1 0) 2 n_2) 4 n_3) 5 n_4) 6 n_5) 23 n_6) 29 n_7) 27 f_8) 32 n_9) 30 f_10) 31 n_11) 40 n_14) 41 f_15) 33 n_16) 34 f_17) 35 f_18) 36 f_19) 37 f_20) 38 f_21) 39 n_22) 7 n_4) 8 n_5) 24 gh) 25 fs) 26 fn) 85 f_41)) := hD
                                    exact ih_loop5 i_42 f_41 H locs ls (by omega) (by omega) (fun q h9 => by rw [ef_41, x_cl (n := 1200 + k5.toInt.toNat) (by omega)]; by_cases q9 : q = k5.toInt.toNat <;> first | (rw [q9, x_upd_same]; exact qi_40) | (rw [x_upd_ne _ _ (by omega)]; exact hfu q (by omega))) (by omega) hP hD hS (lv_sub hl [0, 1] rfl)
                              exact loop5 701 0 (σ.2.2.1 85) H locs ls (by decide) (by omega) (fun q h9 => absurd h9 (Nat.not_lt_zero q)) (by omega) hP hD hS (lv_sub hl [0, 1] rfl)
                            · have kc_31 : k4.toInt < i_30.toInt := by have h9 := c_31; simp only [ge_iff_le, gt_iff_lt, x_lt, x_le, x_eq, ne_eq, Int32.not_lt, Int32.not_le] at h9; omega
                              refine lv_aload_n hx hb dX12_program_168 rfl (lv_at hl 1 rfl) ?_
                              refine va_get (D := D) (ci := 11) (v := .ref (ad 26)) (C := RX12) (T := TX12) (N := 85) hx hb hts inX12 hown hK hP 0 mwd_o0 rfl 26 (by decide) fl66 (fun _ h9 => h9) rfl dX12_program_169 ?_
                              refine lv_sipush (v := 700) hx hb dX12_program_172 (by decide) ?_
                              refine lv_iload_n hx hb dX12_program_175 rfl (lv_at hl 0 rfl) ?_
                              refine lv_iadd hx hb dX12_program_176 ?_
                              refine lv_topi (fun i_43 ei_43 => ?_)
                              have vi_43 : i_43.toInt = 700 + k4.toInt := by have h9 := x_add ei_43 (by omega) (by omega); omega
                              refine lv_aload_n hx hb dX12_program_177 rfl (lv_at hl 1 rfl) ?_
                              refine va_get (D := D) (ci := 11) (v := .ref (ad 26)) (C := RX12) (T := TX12) (N := 85) hx hb hts inX12 hown hK hP 0 mwd_o0 rfl 26 (by decide) fl66 (fun _ h9 => h9) rfl dX12_program_178 ?_
                              refine lv_iload_n hx hb dX12_program_181 rfl (lv_at hl 0 rfl) ?_
                              refine va_iald hx hb hK hP 18 2 mwd_a18 rfl (x_in (by omega) (by omega)) dX12_program_182 ?_
                              refine lv_topi (fun i_44 ei_44 => ?_)
                              have ei_44 : i_44 = fn (Int32.toNatClampNeg k4) := ei_44
                              have bi_44 := b_at hfn ei_44
                              refine va_iast hx hb hK hP hD hS 18 2 mwd_a18 rfl (x_in (by omega) (by omega)) dX12_program_183 (fun H locs hP hD hS => ?_)
                              obtain ⟨f_45, ef_45⟩ : ∃ z9 : Nat → Int32, z9 = (upd fn (Int32.toNatClampNeg i_43) i_44) := ⟨_, rfl⟩
                              have hP : va_P D vwCl (mwd y ad zw (tI (tI (tI (tI (sI (sI (sI (tI (tI (tI (tI (tJ (sI (tI (sI (sI (tI (sI (tI (sI (sI (sI (sI (sI (sI (sI (sI σ 3 (σ.1 1)) 1 0) 2 n_2) 4 n_3) 5 n_4) 6 n_5) 23 n_6) 29 n_7) 27 f_8) 32 n_9) 30 f_10) 31 n_11) 40 n_14) 41 f_15) 33 n_16) 34 f_17) 35 f_18) 36 f_19) 37 f_20) 38 f_21) 39 n_22) 7 n_4) 8 n_5) 24 gh) 25 fs) 26 fn) 26 f_45)) H := by rw [ef_45]; exact x_trP hP mwd_s18
                              have hD : va_D A (mwd y ad zw (tI (tI (tI (tI (sI (sI (sI (tI (tI (tI (tI (tJ (sI (tI (sI (sI (tI (sI (tI (sI (sI (sI (sI (sI (sI (sI (sI σ 3 (σ.1 1)) 1 0) 2 n_2) 4 n_3) 5 n_4) 6 n_5) 23 n_6) 29 n_7) 27 f_8) 32 n_9) 30 f_10) 31 n_11) 40 n_14) 41 f_15) 33 n_16) 34 f_17) 35 f_18) 36 f_19) 37 f_20) 38 f_21) 39 n_22) 7 n_4) 8 n_5) 24 gh) 25 fs) 26 fn) 26 f_45)) := by rw [ef_45]; exact x_trD hD mwd_s18
                              have hvf_45 : bI f_45 0 9999 := by rw [ef_45]; exact b_upd hfn (by omega) (by omega)
                              obtain ⟨i_46, ei_46⟩ : ∃ z9 : Int32, z9 = k4 + 1 := ⟨_, rfl⟩
                              have vi_46 : i_46.toInt = k4.toInt + 1 := by have h9 := x_add ei_46 (by omega) (by omega); omega
                              refine lv_iinc (v := i_46) (lv' := [(1, .int i_46), (0, .ref (ad 1))]) hx hb dX12_program_184 hl (k := 0) rfl (by rw [ei_46]; rfl) (by decide) rfl (fun ls hl => ?_)
                              refine lv_goto (tgt := 158) hx hb dX12_program_187 (by decide) ?_
                              have hP : va_P D vwCl (mwd y ad zw (tI (tI (tI (sI (sI (sI (tI (tI (tI (tI (tJ (sI (tI (sI (sI (tI (sI (tI (sI (sI (sI (sI (sI (sI (sI (sI σ 3 (σ.1 1)) 1 0) 2 n_2) 4 n_3) 5 n_4) 6 n_5) 23 n_6) 29 n_7) 27 f_8) 32 n_9) 30 f_10) 31 n_11) 40 n_14) 41 f_15) 33 n_16) 34 f_17) 35 f_18) 36 f_19) 37 f_20) 38 f_21) 39 n_22) 7 n_4) 8 n_5) 24 gh) 25 fs) 26 f_45)) H := hP
                              have hD : va_D A (mwd y ad zw (tI (tI (tI (sI (sI (sI (tI (tI (tI (tI (tJ (sI (tI (sI (sI (tI (sI (tI (sI (sI (sI (sI (sI (sI (sI (sI σ 3 (σ.1 1)) 1 0) 2 n_2) 4 n_3) 5 n_4) 6 n_5) 23 n_6) 29 n_7) 27 f_8) 32 n_9) 30 f_10) 31 n_11) 40 n_14) 41 f_15) 33 n_16) 34 f_17) 35 f_18) 36 f_19) 37 f_20) 38 f_21) 39 n_22) 7 n_4) 8 n_5) 24 gh) 25 fs) 26 f_45)) := hD
                              exact ih_loop4 i_46 f_45 H locs ls (by omega) (by omega) hvf_45 (by omega) hP hD hS (lv_sub hl [0, 1] rfl)
                        exact loop4 701 0 f_13 H locs ls (by decide) (by omega) hg_25 (by omega) hP hD hS (lv_sub hl [0, 1] rfl)
                      · have kc_29 : k3.toInt < 4 := by have h9 := c_29; simp only [ge_iff_le, gt_iff_lt, x_lt, x_le, x_eq, ne_eq, Int32.not_lt, Int32.not_le] at h9; simp only [Int32.reduceToInt] at h9; omega
                        refine lv_aload_n hx hb dX12_program_136 rfl (lv_at hl 1 rfl) ?_
                        refine va_get (D := D) (ci := 11) (v := .ref (ad 25)) (C := RX12) (T := TX12) (N := 85) hx hb hts inX12 hown hK hP 0 mwd_o0 rfl 25 (by decide) fl63 (fun _ h9 => h9) rfl dX12_program_137 ?_
                        refine lv_iconst (v := 4) hx hb dX12_program_140 (by decide) ?_
                        refine lv_iload_n hx hb dX12_program_141 rfl (lv_at hl 0 rfl) ?_
                        refine lv_iadd hx hb dX12_program_142 ?_
                        refine lv_topi (fun i_47 ei_47 => ?_)
                        have vi_47 : i_47.toInt = 4 + k3.toInt := by have h9 := x_add ei_47 (by omega) (by omega); omega
                        refine lv_aload_n hx hb dX12_program_143 rfl (lv_at hl 1 rfl) ?_
                        refine va_get (D := D) (ci := 11) (v := .ref (ad 25)) (C := RX12) (T := TX12) (N := 85) hx hb hts inX12 hown hK hP 0 mwd_o0 rfl 25 (by decide) fl63 (fun _ h9 => h9) rfl dX12_program_144 ?_
                        refine lv_iload_n hx hb dX12_program_147 rfl (lv_at hl 0 rfl) ?_
                        refine va_iald hx hb hK hP 17 2 mwd_a17 rfl (x_in (by omega) (by omega)) dX12_program_148 ?_
                        refine lv_topi (fun i_48 ei_48 => ?_)
                        have ei_48 : i_48 = fs (Int32.toNatClampNeg k3) := ei_48
                        have bi_48 := b_at hfs ei_48
                        refine va_iast hx hb hK hP hD hS 17 2 mwd_a17 rfl (x_in (by omega) (by omega)) dX12_program_149 (fun H locs hP hD hS => ?_)
                        obtain ⟨f_49, ef_49⟩ : ∃ z9 : Nat → Int32, z9 = (upd fs (Int32.toNatClampNeg i_47) i_48) := ⟨_, rfl⟩
                        have hP : va_P D vwCl (mwd y ad zw (tI (tI (tI (sI (sI (sI (tI (tI (tI (tI (tJ (sI (tI (sI (tI (sI (tI (sI (tI (sI (sI (sI (sI (sI (sI (sI (sI σ 3 (σ.1 1)) 1 0) 2 n_2) 4 n_3) 5 n_4) 6 n_5) 23 n_6) 29 n_7) 27 f_8) 32 n_9) 30 f_10) 31 n_11) 26 f_13) 40 n_14) 41 f_15) 33 n_16) 34 f_17) 35 f_18) 36 f_19) 37 f_20) 38 f_21) 39 n_22) 7 n_4) 8 n_5) 24 gh) 25 fs) 25 f_49)) H := by rw [ef_49]; exact x_trP hP mwd_s17
                        have hD : va_D A (mwd y ad zw (tI (tI (tI (sI (sI (sI (tI (tI (tI (tI (tJ (sI (tI (sI (tI (sI (tI (sI (tI (sI (sI (sI (sI (sI (sI (sI (sI σ 3 (σ.1 1)) 1 0) 2 n_2) 4 n_3) 5 n_4) 6 n_5) 23 n_6) 29 n_7) 27 f_8) 32 n_9) 30 f_10) 31 n_11) 26 f_13) 40 n_14) 41 f_15) 33 n_16) 34 f_17) 35 f_18) 36 f_19) 37 f_20) 38 f_21) 39 n_22) 7 n_4) 8 n_5) 24 gh) 25 fs) 25 f_49)) := by rw [ef_49]; exact x_trD hD mwd_s17
                        have hvf_49 : bI f_49 0 16 := by rw [ef_49]; exact b_upd hfs (by omega) (by omega)
                        obtain ⟨i_50, ei_50⟩ : ∃ z9 : Int32, z9 = k3 + 1 := ⟨_, rfl⟩
                        have vi_50 : i_50.toInt = k3.toInt + 1 := by have h9 := x_add ei_50 (by omega) (by omega); omega
                        refine lv_iinc (v := i_50) (lv' := [(1, .int i_50), (0, .ref (ad 1))]) hx hb dX12_program_150 hl (k := 0) rfl (by rw [ei_50]; rfl) (by decide) rfl (fun ls hl => ?_)
                        refine lv_goto (tgt := 131) hx hb dX12_program_153 (by decide) ?_
                        have hP : va_P D vwCl (mwd y ad zw (tI (tI (sI (sI (sI (tI (tI (tI (tI (tJ (sI (tI (sI (tI (sI (tI (sI (tI (sI (sI (sI (sI (sI (sI (sI (sI σ 3 (σ.1 1)) 1 0) 2 n_2) 4 n_3) 5 n_4) 6 n_5) 23 n_6) 29 n_7) 27 f_8) 32 n_9) 30 f_10) 31 n_11) 26 f_13) 40 n_14) 41 f_15) 33 n_16) 34 f_17) 35 f_18) 36 f_19) 37 f_20) 38 f_21) 39 n_22) 7 n_4) 8 n_5) 24 gh) 25 f_49)) H := hP
                        have hD : va_D A (mwd y ad zw (tI (tI (sI (sI (sI (tI (tI (tI (tI (tJ (sI (tI (sI (tI (sI (tI (sI (tI (sI (sI (sI (sI (sI (sI (sI (sI σ 3 (σ.1 1)) 1 0) 2 n_2) 4 n_3) 5 n_4) 6 n_5) 23 n_6) 29 n_7) 27 f_8) 32 n_9) 30 f_10) 31 n_11) 26 f_13) 40 n_14) 41 f_15) 33 n_16) 34 f_17) 35 f_18) 36 f_19) 37 f_20) 38 f_21) 39 n_22) 7 n_4) 8 n_5) 24 gh) 25 f_49)) := hD
                        exact ih_loop3 i_50 f_49 H locs ls (by omega) (by omega) hvf_49 (by omega) hP hD hS (lv_sub hl [0, 1] rfl)
                  exact loop3 5 0 f_23 H locs ls (by decide) (by decide) hg_26 (by omega) hP hD hS (lv_sub hl [0, 1] rfl)
                · have kc_28 : k2.toInt < 5 := by have h9 := c_28; simp only [ge_iff_le, gt_iff_lt, x_lt, x_le, x_eq, ne_eq, Int32.not_lt, Int32.not_le] at h9; simp only [Int32.reduceToInt] at h9; omega
                  refine lv_aload_n hx hb dX12_program_109 rfl (lv_at hl 1 rfl) ?_
                  refine va_get (D := D) (ci := 11) (v := .ref (ad 24)) (C := RX12) (T := TX12) (N := 85) hx hb hts inX12 hown hK hP 0 mwd_o0 rfl 24 (by decide) fl60 (fun _ h9 => h9) rfl dX12_program_110 ?_
                  refine lv_iconst (v := 5) hx hb dX12_program_113 (by decide) ?_
                  refine lv_iload_n hx hb dX12_program_114 rfl (lv_at hl 0 rfl) ?_
                  refine lv_iadd hx hb dX12_program_115 ?_
                  refine lv_topi (fun i_51 ei_51 => ?_)
                  have vi_51 : i_51.toInt = 5 + k2.toInt := by have h9 := x_add ei_51 (by omega) (by omega); omega
                  refine lv_aload_n hx hb dX12_program_116 rfl (lv_at hl 1 rfl) ?_
                  refine va_get (D := D) (ci := 11) (v := .ref (ad 24)) (C := RX12) (T := TX12) (N := 85) hx hb hts inX12 hown hK hP 0 mwd_o0 rfl 24 (by decide) fl60 (fun _ h9 => h9) rfl dX12_program_117 ?_
                  refine lv_iload_n hx hb dX12_program_120 rfl (lv_at hl 0 rfl) ?_
                  refine va_iald hx hb hK hP 16 2 mwd_a16 rfl (x_in (by omega) (by omega)) dX12_program_121 ?_
                  refine lv_topi (fun i_52 ei_52 => ?_)
                  have ei_52 : i_52 = gh (Int32.toNatClampNeg k2) := ei_52
                  have qi_52 : i_52 = f_12 k2.toInt.toNat := by rw [ei_52, x_cl (n := k2.toInt.toNat) (by omega)]; exact hr1 _ (by omega)
                  refine va_iast hx hb hK hP hD hS 16 2 mwd_a16 rfl (x_in (by omega) (by omega)) dX12_program_122 (fun H locs hP hD hS => ?_)
                  obtain ⟨f_53, ef_53⟩ : ∃ z9 : Nat → Int32, z9 = (upd gh (Int32.toNatClampNeg i_51) i_52) := ⟨_, rfl⟩
                  have hP : va_P D vwCl (mwd y ad zw (tI (tI (sI (sI (tI (sI (tI (tI (tI (tI (tJ (sI (tI (sI (tI (sI (tI (sI (tI (sI (sI (sI (sI (sI (sI (sI (sI σ 3 (σ.1 1)) 1 0) 2 n_2) 4 n_3) 5 n_4) 6 n_5) 23 n_6) 29 n_7) 27 f_8) 32 n_9) 30 f_10) 31 n_11) 26 f_13) 40 n_14) 41 f_15) 33 n_16) 34 f_17) 35 f_18) 36 f_19) 37 f_20) 38 f_21) 39 n_22) 25 f_23) 7 n_4) 8 n_5) 24 gh) 24 f_53)) H := by rw [ef_53]; exact x_trP hP mwd_s16
                  have hD : va_D A (mwd y ad zw (tI (tI (sI (sI (tI (sI (tI (tI (tI (tI (tJ (sI (tI (sI (tI (sI (tI (sI (tI (sI (sI (sI (sI (sI (sI (sI (sI σ 3 (σ.1 1)) 1 0) 2 n_2) 4 n_3) 5 n_4) 6 n_5) 23 n_6) 29 n_7) 27 f_8) 32 n_9) 30 f_10) 31 n_11) 26 f_13) 40 n_14) 41 f_15) 33 n_16) 34 f_17) 35 f_18) 36 f_19) 37 f_20) 38 f_21) 39 n_22) 25 f_23) 7 n_4) 8 n_5) 24 gh) 24 f_53)) := by rw [ef_53]; exact x_trD hD mwd_s16
                  obtain ⟨i_54, ei_54⟩ : ∃ z9 : Int32, z9 = k2 + 1 := ⟨_, rfl⟩
                  have vi_54 : i_54.toInt = k2.toInt + 1 := by have h9 := x_add ei_54 (by omega) (by omega); omega
                  refine lv_iinc (v := i_54) (lv' := [(1, .int i_54), (0, .ref (ad 1))]) hx hb dX12_program_123 hl (k := 0) rfl (by rw [ei_54]; rfl) (by decide) rfl (fun ls hl => ?_)
                  refine lv_goto (tgt := 104) hx hb dX12_program_126 (by decide) ?_
                  have hP : va_P D vwCl (mwd y ad zw (tI (sI (sI (tI (sI (tI (tI (tI (tI (tJ (sI (tI (sI (tI (sI (tI (sI (tI (sI (sI (sI (sI (sI (sI (sI (sI σ 3 (σ.1 1)) 1 0) 2 n_2) 4 n_3) 5 n_4) 6 n_5) 23 n_6) 29 n_7) 27 f_8) 32 n_9) 30 f_10) 31 n_11) 26 f_13) 40 n_14) 41 f_15) 33 n_16) 34 f_17) 35 f_18) 36 f_19) 37 f_20) 38 f_21) 39 n_22) 25 f_23) 7 n_4) 8 n_5) 24 f_53)) H := hP
                  have hD : va_D A (mwd y ad zw (tI (sI (sI (tI (sI (tI (tI (tI (tI (tJ (sI (tI (sI (tI (sI (tI (sI (tI (sI (sI (sI (sI (sI (sI (sI (sI σ 3 (σ.1 1)) 1 0) 2 n_2) 4 n_3) 5 n_4) 6 n_5) 23 n_6) 29 n_7) 27 f_8) 32 n_9) 30 f_10) 31 n_11) 26 f_13) 40 n_14) 41 f_15) 33 n_16) 34 f_17) 35 f_18) 36 f_19) 37 f_20) 38 f_21) 39 n_22) 25 f_23) 7 n_4) 8 n_5) 24 f_53)) := hD
                  exact ih_loop2 i_54 f_53 H locs ls (by omega) (by omega) (fun q h9 => by rw [ef_53, x_cl (n := 5 + k2.toInt.toNat) (by omega)]; by_cases q9 : q = k2.toInt.toNat <;> first | (rw [q9, x_upd_same, qi_52]) | (rw [x_upd_ne _ _ (by omega)]; exact hr0 q (by omega))) (fun q h9 => by rw [ef_53, x_cl (n := 5 + k2.toInt.toNat) (by omega), x_upd_ne _ _ (by omega)]; exact hr1 q h9) (by omega) hP hD hS (lv_sub hl [0, 1] rfl)
            exact loop2 6 0 f_12 H locs ls (by decide) (by decide) (fun q h9 => absurd h9 (Nat.not_lt_zero q)) (fun _ _ => rfl) (by omega) hP hD hS (lv_sub hl [0, 1] rfl)
          · have kc_27 : n_4.toInt ≠ 0 := by have h9 := c_27; simp only [ge_iff_le, gt_iff_lt, x_lt, x_le, x_eq, ne_eq, Int32.not_lt, Int32.not_le] at h9; simp only [Int32.reduceToInt] at h9; omega
            exfalso
            omega
        · clear hpi
          refine lv_aload_n hx hb dX12_program_77 rfl (lv_at hl 1 rfl) ?_
          refine lv_aload_n hx hb dX12_program_78 rfl (lv_at hl 1 rfl) ?_
          refine va_get (D := D) (ci := 11) (v := .int n_4) (C := RX12) (T := TX12) (N := 85) hx hb hts inX12 hown hK hP 0 mwd_o0 rfl 5 (by decide) fl191 (fun _ h9 => h9) rfl dX12_program_79 ?_
          refine va_put (D := D) (ci := 11) (v := .int n_4) (ty := .int) (C := RX12) (T := TX12) (N := 85) hx hb hts inX12 tyX12 tyX12_ok nmX12 hown hK hP hD hS 0 mwd_o0 rfl 7 (by decide) fl362 (fun _ h9 => h9) rfl (by decide +kernel) rfl rfl (Nat.le_of_ble_eq_true rfl) dX12_program_82 (fun H locs hP hD hS => ?_)
          have hP : va_P D vwCl (mwd y ad zw (sI (tI (sI (tI (tI (tI (tI (tJ (sI (tI (sI (tI (tI (sI (tI (sI (tI (sI (sI (sI (sI (sI (sI (sI (sI (sI (sI (tI (sI (sI (sI (sI (sI (sI σ 3 (σ.1 1)) 1 0) 2 0) 4 (-1)) 5 0) 6 (-1)) 24 fh) 29 0) 33 0) 39 0) 32 0) 2 n_2) 4 n_3) 5 n_4) 6 n_5) 23 n_6) 29 n_7) 27 f_8) 32 n_9) 30 f_10) 31 n_11) 24 f_12) 26 f_13) 40 n_14) 41 f_15) 33 n_16) 34 f_17) 35 f_18) 36 f_19) 37 f_20) 38 f_21) 39 n_22) 25 f_23) 7 n_4)) H := x_trP hP mwd_p0_7
          have hD : va_D A (mwd y ad zw (sI (tI (sI (tI (tI (tI (tI (tJ (sI (tI (sI (tI (tI (sI (tI (sI (tI (sI (sI (sI (sI (sI (sI (sI (sI (sI (sI (tI (sI (sI (sI (sI (sI (sI σ 3 (σ.1 1)) 1 0) 2 0) 4 (-1)) 5 0) 6 (-1)) 24 fh) 29 0) 33 0) 39 0) 32 0) 2 n_2) 4 n_3) 5 n_4) 6 n_5) 23 n_6) 29 n_7) 27 f_8) 32 n_9) 30 f_10) 31 n_11) 24 f_12) 26 f_13) 40 n_14) 41 f_15) 33 n_16) 34 f_17) 35 f_18) 36 f_19) 37 f_20) 38 f_21) 39 n_22) 25 f_23) 7 n_4)) := x_trD hD mwd_p0_7
          refine lv_aload_n hx hb dX12_program_85 rfl (lv_at hl 1 rfl) ?_
          refine lv_aload_n hx hb dX12_program_86 rfl (lv_at hl 1 rfl) ?_
          refine va_get (D := D) (ci := 11) (v := .int n_5) (C := RX12) (T := TX12) (N := 85) hx hb hts inX12 hown hK hP 0 mwd_o0 rfl 6 (by decide) fl194 (fun _ h9 => h9) rfl dX12_program_87 ?_
          refine va_put (D := D) (ci := 11) (v := .int n_5) (ty := .int) (C := RX12) (T := TX12) (N := 85) hx hb hts inX12 tyX12 tyX12_ok nmX12 hown hK hP hD hS 0 mwd_o0 rfl 8 (by decide) fl13 (fun _ h9 => h9) rfl (by decide +kernel) rfl rfl (Nat.le_of_ble_eq_true rfl) dX12_program_90 (fun H locs hP hD hS => ?_)
          have hP : va_P D vwCl (mwd y ad zw (sI (sI (tI (sI (tI (tI (tI (tI (tJ (sI (tI (sI (tI (tI (sI (tI (sI (tI (sI (sI (sI (sI (sI (sI (sI (sI (sI (sI (tI (sI (sI (sI (sI (sI (sI σ 3 (σ.1 1)) 1 0) 2 0) 4 (-1)) 5 0) 6 (-1)) 24 fh) 29 0) 33 0) 39 0) 32 0) 2 n_2) 4 n_3) 5 n_4) 6 n_5) 23 n_6) 29 n_7) 27 f_8) 32 n_9) 30 f_10) 31 n_11) 24 f_12) 26 f_13) 40 n_14) 41 f_15) 33 n_16) 34 f_17) 35 f_18) 36 f_19) 37 f_20) 38 f_21) 39 n_22) 25 f_23) 7 n_4) 8 n_5)) H := x_trP hP mwd_p0_8
          have hD : va_D A (mwd y ad zw (sI (sI (tI (sI (tI (tI (tI (tI (tJ (sI (tI (sI (tI (tI (sI (tI (sI (tI (sI (sI (sI (sI (sI (sI (sI (sI (sI (sI (tI (sI (sI (sI (sI (sI (sI σ 3 (σ.1 1)) 1 0) 2 0) 4 (-1)) 5 0) 6 (-1)) 24 fh) 29 0) 33 0) 39 0) 32 0) 2 n_2) 4 n_3) 5 n_4) 6 n_5) 23 n_6) 29 n_7) 27 f_8) 32 n_9) 30 f_10) 31 n_11) 24 f_12) 26 f_13) 40 n_14) 41 f_15) 33 n_16) 34 f_17) 35 f_18) 36 f_19) 37 f_20) 38 f_21) 39 n_22) 25 f_23) 7 n_4) 8 n_5)) := x_trD hD mwd_p0_8
          refine lv_aload_n hx hb dX12_program_93 rfl (lv_at hl 1 rfl) ?_
          refine va_get (D := D) (ci := 11) (v := .int n_4) (C := RX12) (T := TX12) (N := 85) hx hb hts inX12 hown hK hP 0 mwd_o0 rfl 5 (by decide) fl191 (fun _ h9 => h9) rfl dX12_program_94 ?_
          refine lv_if_eq (tgt := 102) hx hb dX12_program_97 (by decide) (fun c_55 => ?_) (fun c_55 => ?_)
          · have kc_55 : n_4.toInt = 0 := by have h9 := c_55; simp only [ge_iff_le, gt_iff_lt, x_lt, x_le, x_eq, ne_eq, Int32.not_lt, Int32.not_le] at h9; simp only [Int32.reduceToInt] at h9; omega
            exfalso
            omega
          · have kc_55 : n_4.toInt ≠ 0 := by have h9 := c_55; simp only [ge_iff_le, gt_iff_lt, x_lt, x_le, x_eq, ne_eq, Int32.not_lt, Int32.not_le] at h9; simp only [Int32.reduceToInt] at h9; omega
            refine lv_iconst (v := (-1)) hx hb dX12_program_100 (by decide) ?_
            have hP : va_P D vwCl (mwd y ad zw (sI (sI (sI (sI (tJ (tJ (tI (tI (sI (sI (sI (sI (tI (sI (tI (tI (tI (tI (tJ (sI (tI (sI (tI (tI (sI (tI (sI (tI (sI (sI (sI (sI (sI (sI σ 2 n_2) 4 n_3) 5 n_4) 6 n_5) 23 n_6) 29 n_7) 27 f_8) 32 n_9) 30 f_10) 31 n_11) 24 f_12) 26 f_13) 40 n_14) 41 f_15) 33 n_16) 34 f_17) 35 f_18) 36 f_19) 37 f_20) 38 f_21) 39 n_22) 25 f_23) 3 (σ.1 1)) 1 0) 7 n_4) 8 n_5) 85 (σ.2.2.1 85)) 28 (σ.2.2.1 28)) 45 (σ.2.2.2 45)) 46 (σ.2.2.2 46)) 47 (σ.1 47)) 48 (σ.1 48)) 54 (σ.1 54)) 78 (σ.1 78))) H := hP
            have hD : va_D A (mwd y ad zw (sI (sI (sI (sI (tJ (tJ (tI (tI (sI (sI (sI (sI (tI (sI (tI (tI (tI (tI (tJ (sI (tI (sI (tI (tI (sI (tI (sI (tI (sI (sI (sI (sI (sI (sI σ 2 n_2) 4 n_3) 5 n_4) 6 n_5) 23 n_6) 29 n_7) 27 f_8) 32 n_9) 30 f_10) 31 n_11) 24 f_12) 26 f_13) 40 n_14) 41 f_15) 33 n_16) 34 f_17) 35 f_18) 36 f_19) 37 f_20) 38 f_21) 39 n_22) 25 f_23) 3 (σ.1 1)) 1 0) 7 n_4) 8 n_5) 85 (σ.2.2.1 85)) 28 (σ.2.2.1 28)) 45 (σ.2.2.2 45)) 46 (σ.2.2.2 46)) 47 (σ.1 47)) 48 (σ.1 48)) 54 (σ.1 54)) 78 (σ.1 78))) := hD
            exact x_iretW (v := (-1)) (u := (n_2, n_3, n_4, n_5, n_6, n_7, f_8, n_9, f_10, n_11, f_12, f_13, n_14, f_15, n_16, f_17, f_18, f_19, f_20, f_21, n_22, f_23, (σ.1 1), 0, n_4, n_5, (σ.2.2.1 85), (σ.2.2.1 28), (σ.2.2.2 45), (σ.2.2.2 46), (σ.1 47), (σ.1 48), (σ.1 54), (σ.1 78))) hx hb hr hQ (by (try dsimp only); exact ⟨⟨rfl, hdn0, hdn1, hdn2, PG_congr hpg hff⟩, hg_24, hg_25, hg_26, hB45, hB46⟩) hP hD hK hS dX12_program_101 hlocks
      · have kc_1 : k.toInt < 5 := by have h9 := c_1; simp only [ge_iff_le, gt_iff_lt, x_lt, x_le, x_eq, ne_eq, Int32.not_lt, Int32.not_le] at h9; simp only [Int32.reduceToInt] at h9; omega
        refine lv_aload_n hx hb dX12_program_40 rfl (lv_at hl 1 rfl) ?_
        refine va_get (D := D) (ci := 11) (v := .ref (ad 24)) (C := RX12) (T := TX12) (N := 85) hx hb hts inX12 hown hK hP 0 mwd_o0 rfl 24 (by decide) fl60 (fun _ h9 => h9) rfl dX12_program_41 ?_
        refine lv_iload_n hx hb dX12_program_44 rfl (lv_at hl 0 rfl) ?_
        refine lv_iconst (v := 0) hx hb dX12_program_45 (by decide) ?_
        refine va_iast hx hb hK hP hD hS 16 2 mwd_a16 rfl (x_in (by omega) (by omega)) dX12_program_46 (fun H locs hP hD hS => ?_)
        obtain ⟨f_56, ef_56⟩ : ∃ z9 : Nat → Int32, z9 = (upd fh (Int32.toNatClampNeg k) 0) := ⟨_, rfl⟩
        have hP : va_P D vwCl (mwd y ad zw (tI (tI (sI (sI (sI (sI (sI (sI σ 3 (σ.1 1)) 1 0) 2 0) 4 (-1)) 5 0) 6 (-1)) 24 fh) 24 f_56)) H := by rw [ef_56]; exact x_trP hP mwd_s16
        have hD : va_D A (mwd y ad zw (tI (tI (sI (sI (sI (sI (sI (sI σ 3 (σ.1 1)) 1 0) 2 0) 4 (-1)) 5 0) 6 (-1)) 24 fh) 24 f_56)) := by rw [ef_56]; exact x_trD hD mwd_s16
        obtain ⟨i_57, ei_57⟩ : ∃ z9 : Int32, z9 = k + 1 := ⟨_, rfl⟩
        have vi_57 : i_57.toInt = k.toInt + 1 := by have h9 := x_add ei_57 (by omega) (by omega); omega
        refine lv_iinc (v := i_57) (lv' := [(1, .int i_57), (0, .ref (ad 1))]) hx hb dX12_program_47 hl (k := 0) rfl (by rw [ei_57]; rfl) (by decide) rfl (fun ls hl => ?_)
        refine lv_goto (tgt := 35) hx hb dX12_program_50 (by decide) ?_
        have hP : va_P D vwCl (mwd y ad zw (tI (sI (sI (sI (sI (sI (sI σ 3 (σ.1 1)) 1 0) 2 0) 4 (-1)) 5 0) 6 (-1)) 24 f_56)) H := hP
        have hD : va_D A (mwd y ad zw (tI (sI (sI (sI (sI (sI (sI σ 3 (σ.1 1)) 1 0) 2 0) 4 (-1)) 5 0) 6 (-1)) 24 f_56)) := hD
        exact ih_loop i_57 f_56 H locs ls (by omega) (by omega) (fun q h9 => by rw [ef_56, x_cl (n := k.toInt.toNat) (by omega)]; by_cases q9 : q = k.toInt.toNat <;> first | (rw [q9, x_upd_same]; rfl) | (rw [x_upd_ne _ _ q9]; exact hq0 q (by omega))) (fun q h9 => by rw [ef_56, x_cl (n := k.toInt.toNat) (by omega), x_upd_ne _ _ (by omega)]; exact hq5 q h9) (by omega) hP hD hS (lv_sub hl [0, 1] rfl)
  exact loop 6 0 (σ.2.2.1 24) H locs ls (by decide) (by decide) (fun q h9 => absurd h9 (Nat.not_lt_zero q)) (fun _ _ => rfl) (by omega) hP hD hS (lv_sub hl [0, 1] rfl)

