/-- a condition that the arithmetic is not to look at -/
def XE (p q : Prop) : Prop := p → q
theorem dX12_onePart_0 : decode cX12_onePart 0 = .ok (.iconst 1, 1) := by decide +kernel
theorem dX12_onePart_1 : decode cX12_onePart 1 = .ok (.istore_n 1, 1) := by decide +kernel
theorem dX12_onePart_2 : decode cX12_onePart 2 = .ok (.iload_n 1, 1) := by decide +kernel
theorem dX12_onePart_3 : decode cX12_onePart 3 = .ok (.ifCond .eq 229, 3) := by decide +kernel
theorem dX12_onePart_6 : decode cX12_onePart 6 = .ok (.aload_n 0, 1) := by decide +kernel
theorem dX12_onePart_7 : decode cX12_onePart 7 = .ok (.getfield 191, 3) := by decide +kernel
theorem dX12_onePart_10 : decode cX12_onePart 10 = .ok (.ifCond .ne 222, 3) := by decide +kernel
theorem dX12_onePart_13 : decode cX12_onePart 13 = .ok (.aload_n 0, 1) := by decide +kernel
theorem dX12_onePart_14 : decode cX12_onePart 14 = .ok (.invokevirtual 203, 3) := by decide +kernel
theorem dX12_onePart_17 : decode cX12_onePart 17 = .ok (.istore_n 2, 1) := by decide +kernel
theorem dX12_onePart_18 : decode cX12_onePart 18 = .ok (.iload_n 2, 1) := by decide +kernel
theorem dX12_onePart_19 : decode cX12_onePart 19 = .ok (.bipush 40, 2) := by decide +kernel
theorem dX12_onePart_21 : decode cX12_onePart 21 = .ok (.if_icmp .ne 26, 3) := by decide +kernel
theorem dX12_onePart_24 : decode cX12_onePart 24 = .ok (.aload_n 0, 1) := by decide +kernel
theorem dX12_onePart_25 : decode cX12_onePart 25 = .ok (.bipush 20, 2) := by decide +kernel
theorem dX12_onePart_27 : decode cX12_onePart 27 = .ok (.aload_n 0, 1) := by decide +kernel
theorem dX12_onePart_28 : decode cX12_onePart 28 = .ok (.getfield 197, 3) := by decide +kernel
theorem dX12_onePart_31 : decode cX12_onePart 31 = .ok (.invokevirtual 279, 3) := by decide +kernel
theorem dX12_onePart_34 : decode cX12_onePart 34 = .ok (.aload_n 0, 1) := by decide +kernel
theorem dX12_onePart_35 : decode cX12_onePart 35 = .ok (.dup, 1) := by decide +kernel
theorem dX12_onePart_36 : decode cX12_onePart 36 = .ok (.getfield 197, 3) := by decide +kernel
theorem dX12_onePart_39 : decode cX12_onePart 39 = .ok (.iconst 1, 1) := by decide +kernel
theorem dX12_onePart_40 : decode cX12_onePart 40 = .ok (.iadd, 1) := by decide +kernel
theorem dX12_onePart_41 : decode cX12_onePart 41 = .ok (.putfield 197, 3) := by decide +kernel
theorem dX12_onePart_44 : decode cX12_onePart 44 = .ok (.goto 185, 3) := by decide +kernel
theorem dX12_onePart_47 : decode cX12_onePart 47 = .ok (.aload_n 0, 1) := by decide +kernel
theorem dX12_onePart_48 : decode cX12_onePart 48 = .ok (.aload_n 0, 1) := by decide +kernel
theorem dX12_onePart_49 : decode cX12_onePart 49 = .ok (.getfield 54, 3) := by decide +kernel
theorem dX12_onePart_52 : decode cX12_onePart 52 = .ok (.invokevirtual 214, 3) := by decide +kernel
theorem dX12_onePart_55 : decode cX12_onePart 55 = .ok (.ifCond .ne 25, 3) := by decide +kernel
theorem dX12_onePart_58 : decode cX12_onePart 58 = .ok (.aload_n 0, 1) := by decide +kernel
theorem dX12_onePart_59 : decode cX12_onePart 59 = .ok (.aload_n 0, 1) := by decide +kernel
theorem dX12_onePart_60 : decode cX12_onePart 60 = .ok (.getfield 57, 3) := by decide +kernel
theorem dX12_onePart_63 : decode cX12_onePart 63 = .ok (.invokevirtual 214, 3) := by decide +kernel
theorem dX12_onePart_66 : decode cX12_onePart 66 = .ok (.ifCond .ne 14, 3) := by decide +kernel
theorem dX12_onePart_69 : decode cX12_onePart 69 = .ok (.aload_n 0, 1) := by decide +kernel
theorem dX12_onePart_70 : decode cX12_onePart 70 = .ok (.aload_n 0, 1) := by decide +kernel
theorem dX12_onePart_71 : decode cX12_onePart 71 = .ok (.getfield 51, 3) := by decide +kernel
theorem dX12_onePart_74 : decode cX12_onePart 74 = .ok (.invokevirtual 214, 3) := by decide +kernel
theorem dX12_onePart_77 : decode cX12_onePart 77 = .ok (.ifCond .eq 93, 3) := by decide +kernel
theorem dX12_onePart_80 : decode cX12_onePart 80 = .ok (.aload_n 0, 1) := by decide +kernel
theorem dX12_onePart_81 : decode cX12_onePart 81 = .ok (.aload_n 0, 1) := by decide +kernel
theorem dX12_onePart_82 : decode cX12_onePart 82 = .ok (.getfield 54, 3) := by decide +kernel
theorem dX12_onePart_85 : decode cX12_onePart 85 = .ok (.invokevirtual 218, 3) := by decide +kernel
theorem dX12_onePart_88 : decode cX12_onePart 88 = .ok (.ifCond .eq 8, 3) := by decide +kernel
theorem dX12_onePart_91 : decode cX12_onePart 91 = .ok (.bipush 21, 2) := by decide +kernel
theorem dX12_onePart_93 : decode cX12_onePart 93 = .ok (.goto 21, 3) := by decide +kernel
theorem dX12_onePart_96 : decode cX12_onePart 96 = .ok (.aload_n 0, 1) := by decide +kernel
theorem dX12_onePart_97 : decode cX12_onePart 97 = .ok (.aload_n 0, 1) := by decide +kernel
theorem dX12_onePart_98 : decode cX12_onePart 98 = .ok (.getfield 57, 3) := by decide +kernel
theorem dX12_onePart_101 : decode cX12_onePart 101 = .ok (.invokevirtual 218, 3) := by decide +kernel
theorem dX12_onePart_104 : decode cX12_onePart 104 = .ok (.ifCond .eq 8, 3) := by decide +kernel
theorem dX12_onePart_107 : decode cX12_onePart 107 = .ok (.bipush 22, 2) := by decide +kernel
theorem dX12_onePart_109 : decode cX12_onePart 109 = .ok (.goto 5, 3) := by decide +kernel
theorem dX12_onePart_112 : decode cX12_onePart 112 = .ok (.bipush 25, 2) := by decide +kernel
theorem dX12_onePart_114 : decode cX12_onePart 114 = .ok (.istore_n 3, 1) := by decide +kernel
theorem dX12_onePart_115 : decode cX12_onePart 115 = .ok (.iload_n 3, 1) := by decide +kernel
theorem dX12_onePart_116 : decode cX12_onePart 116 = .ok (.bipush 25, 2) := by decide +kernel
theorem dX12_onePart_118 : decode cX12_onePart 118 = .ok (.if_icmp .ne 11, 3) := by decide +kernel
theorem dX12_onePart_121 : decode cX12_onePart 121 = .ok (.aload_n 0, 1) := by decide +kernel
theorem dX12_onePart_122 : decode cX12_onePart 122 = .ok (.aload_n 0, 1) := by decide +kernel
theorem dX12_onePart_123 : decode cX12_onePart 123 = .ok (.getfield 51, 3) := by decide +kernel
theorem dX12_onePart_126 : decode cX12_onePart 126 = .ok (.invokevirtual 282, 3) := by decide +kernel
theorem dX12_onePart_129 : decode cX12_onePart 129 = .ok (.aload_n 0, 1) := by decide +kernel
theorem dX12_onePart_130 : decode cX12_onePart 130 = .ok (.invokevirtual 203, 3) := by decide +kernel
theorem dX12_onePart_133 : decode cX12_onePart 133 = .ok (.bipush 40, 2) := by decide +kernel
theorem dX12_onePart_135 : decode cX12_onePart 135 = .ok (.if_icmp .ne 10, 3) := by decide +kernel
theorem dX12_onePart_138 : decode cX12_onePart 138 = .ok (.aload_n 0, 1) := by decide +kernel
theorem dX12_onePart_139 : decode cX12_onePart 139 = .ok (.getfield 197, 3) := by decide +kernel
theorem dX12_onePart_142 : decode cX12_onePart 142 = .ok (.goto 4, 3) := by decide +kernel
theorem dX12_onePart_145 : decode cX12_onePart 145 = .ok (.iconst (-1), 1) := by decide +kernel
theorem dX12_onePart_146 : decode cX12_onePart 146 = .ok (.istore 4, 2) := by decide +kernel
theorem dX12_onePart_148 : decode cX12_onePart 148 = .ok (.iload 4, 2) := by decide +kernel
theorem dX12_onePart_150 : decode cX12_onePart 150 = .ok (.iconst (-1), 1) := by decide +kernel
theorem dX12_onePart_151 : decode cX12_onePart 151 = .ok (.if_icmp .eq 10, 3) := by decide +kernel
theorem dX12_onePart_154 : decode cX12_onePart 154 = .ok (.aload_n 0, 1) := by decide +kernel
theorem dX12_onePart_155 : decode cX12_onePart 155 = .ok (.iload_n 3, 1) := by decide +kernel
theorem dX12_onePart_156 : decode cX12_onePart 156 = .ok (.iload 4, 2) := by decide +kernel
theorem dX12_onePart_158 : decode cX12_onePart 158 = .ok (.invokevirtual 279, 3) := by decide +kernel
theorem dX12_onePart_161 : decode cX12_onePart 161 = .ok (.aload_n 0, 1) := by decide +kernel
theorem dX12_onePart_162 : decode cX12_onePart 162 = .ok (.bipush 40, 2) := by decide +kernel
theorem dX12_onePart_164 : decode cX12_onePart 164 = .ok (.invokevirtual 286, 3) := by decide +kernel
theorem dX12_onePart_167 : decode cX12_onePart 167 = .ok (.goto 62, 3) := by decide +kernel
theorem dX12_onePart_170 : decode cX12_onePart 170 = .ok (.iload_n 2, 1) := by decide +kernel
theorem dX12_onePart_171 : decode cX12_onePart 171 = .ok (.invokestatic 207, 3) := by decide +kernel
theorem dX12_onePart_174 : decode cX12_onePart 174 = .ok (.ifCond .eq 11, 3) := by decide +kernel
theorem dX12_onePart_177 : decode cX12_onePart 177 = .ok (.aload_n 0, 1) := by decide +kernel
theorem dX12_onePart_178 : decode cX12_onePart 178 = .ok (.invokevirtual 289, 3) := by decide +kernel
theorem dX12_onePart_181 : decode cX12_onePart 181 = .ok (.istore_n 1, 1) := by decide +kernel
theorem dX12_onePart_182 : decode cX12_onePart 182 = .ok (.goto 47, 3) := by decide +kernel
theorem dX12_onePart_185 : decode cX12_onePart 185 = .ok (.iconst 0, 1) := by decide +kernel
theorem dX12_onePart_186 : decode cX12_onePart 186 = .ok (.istore_n 1, 1) := by decide +kernel
theorem dX12_onePart_187 : decode cX12_onePart 187 = .ok (.aload_n 0, 1) := by decide +kernel
theorem dX12_onePart_188 : decode cX12_onePart 188 = .ok (.getfield 60, 3) := by decide +kernel
theorem dX12_onePart_191 : decode cX12_onePart 191 = .ok (.iconst 4, 1) := by decide +kernel
theorem dX12_onePart_192 : decode cX12_onePart 192 = .ok (.iaload, 1) := by decide +kernel
theorem dX12_onePart_193 : decode cX12_onePart 193 = .ok (.istore_n 3, 1) := by decide +kernel
theorem dX12_onePart_194 : decode cX12_onePart 194 = .ok (.aload_n 0, 1) := by decide +kernel
theorem dX12_onePart_195 : decode cX12_onePart 195 = .ok (.getfield 66, 3) := by decide +kernel
theorem dX12_onePart_198 : decode cX12_onePart 198 = .ok (.iconst 0, 1) := by decide +kernel
theorem dX12_onePart_199 : decode cX12_onePart 199 = .ok (.iload_n 3, 1) := by decide +kernel
theorem dX12_onePart_200 : decode cX12_onePart 200 = .ok (.iadd, 1) := by decide +kernel
theorem dX12_onePart_201 : decode cX12_onePart 201 = .ok (.aload_n 0, 1) := by decide +kernel
theorem dX12_onePart_202 : decode cX12_onePart 202 = .ok (.iconst 0, 1) := by decide +kernel
theorem dX12_onePart_203 : decode cX12_onePart 203 = .ok (.sipush 9999, 3) := by decide +kernel
theorem dX12_onePart_206 : decode cX12_onePart 206 = .ok (.invokevirtual 292, 3) := by decide +kernel
theorem dX12_onePart_209 : decode cX12_onePart 209 = .ok (.iastore, 1) := by decide +kernel
theorem dX12_onePart_210 : decode cX12_onePart 210 = .ok (.aload_n 0, 1) := by decide +kernel
theorem dX12_onePart_211 : decode cX12_onePart 211 = .ok (.getfield 60, 3) := by decide +kernel
theorem dX12_onePart_214 : decode cX12_onePart 214 = .ok (.iconst 4, 1) := by decide +kernel
theorem dX12_onePart_215 : decode cX12_onePart 215 = .ok (.dup2, 1) := by decide +kernel
theorem dX12_onePart_216 : decode cX12_onePart 216 = .ok (.iaload, 1) := by decide +kernel
theorem dX12_onePart_217 : decode cX12_onePart 217 = .ok (.iconst 1, 1) := by decide +kernel
theorem dX12_onePart_218 : decode cX12_onePart 218 = .ok (.iadd, 1) := by decide +kernel
theorem dX12_onePart_219 : decode cX12_onePart 219 = .ok (.iastore, 1) := by decide +kernel
theorem dX12_onePart_220 : decode cX12_onePart 220 = .ok (.aload_n 0, 1) := by decide +kernel
theorem dX12_onePart_221 : decode cX12_onePart 221 = .ok (.sipush 1000, 3) := by decide +kernel
theorem dX12_onePart_224 : decode cX12_onePart 224 = .ok (.iload_n 3, 1) := by decide +kernel
theorem dX12_onePart_225 : decode cX12_onePart 225 = .ok (.iadd, 1) := by decide +kernel
theorem dX12_onePart_226 : decode cX12_onePart 226 = .ok (.invokevirtual 266, 3) := by decide +kernel
theorem dX12_onePart_229 : decode cX12_onePart 229 = .ok (.goto (-227), 3) := by decide +kernel
theorem dX12_onePart_232 : decode cX12_onePart 232 = .ok (.return_, 1) := by decide +kernel
def v_q_onePart : List Cond := .code yX12_onePart cX12_onePart 5 none :: ([.fieldLink RX12 191 "SlopeRunnerModel" "bad" "I", .fieldLink RX12 197 "SlopeRunnerModel" "at" "I", .fieldLink RX12 54 "SlopeRunnerModel" "minWord" "[C", .fieldLink RX12 57 "SlopeRunnerModel" "maxWord" "[C", .fieldLink RX12 51 "SlopeRunnerModel" "absWord" "[C", .fieldLink RX12 60 "SlopeRunnerModel" "has" "[I", .fieldLink RX12 66 "SlopeRunnerModel" "numbers" "[I"] ++ ((wsV RX12 203 RX12 yX12_look v_q_look2) ++ ((wsV RX12 286 RX12 yX12_asksSign v_q_asksSign) ++ ((wsV RX12 279 RX12 yX12_opensOne v_q_opensOne) ++ ((wsV RX12 218 RX12 yX12_takes v_q_takes) ++ ((wsV RX12 282 RX12 yX12_asks v_q_asks) ++ ((wsV RX12 214 RX12 yX12_isHere v_q_isHere) ++ ((wsS RX12 207 yX12_isLetter v_q_isLetter2) ++ ((wsV RX12 292 RX12 yX12_number v_q_number) ++ ((wsV RX12 266 RX12 yX12_code v_q_code) ++ ((wsV RX12 289 RX12 yX12_named1 v_q_named1) ++ wsX120)))))))))))
theorem g_q_onePart_0 : GoodIn v_q_onePart (wsV RX12 203 RX12 yX12_look v_q_look2) := goodIn_sub (fun w h => List.mem_cons_of_mem _ (List.mem_append_right _ (List.mem_append_left _ h))) (by decide +kernel)
theorem g_q_onePart_1 : GoodIn v_q_onePart (wsV RX12 286 RX12 yX12_asksSign v_q_asksSign) := goodIn_sub (fun w h => List.mem_cons_of_mem _ (List.mem_append_right _ (List.mem_append_right _ (List.mem_append_left _ h)))) (by decide +kernel)
theorem g_q_onePart_2 : GoodIn v_q_onePart (wsV RX12 279 RX12 yX12_opensOne v_q_opensOne) := goodIn_sub (fun w h => List.mem_cons_of_mem _ (List.mem_append_right _ (List.mem_append_right _ (List.mem_append_right _ (List.mem_append_left _ h))))) (by decide +kernel)
theorem g_q_onePart_3 : GoodIn v_q_onePart (wsV RX12 218 RX12 yX12_takes v_q_takes) := goodIn_sub (fun w h => List.mem_cons_of_mem _ (List.mem_append_right _ (List.mem_append_right _ (List.mem_append_right _ (List.mem_append_right _ (List.mem_append_left _ h)))))) (by decide +kernel)
theorem g_q_onePart_4 : GoodIn v_q_onePart (wsV RX12 282 RX12 yX12_asks v_q_asks) := goodIn_sub (fun w h => List.mem_cons_of_mem _ (List.mem_append_right _ (List.mem_append_right _ (List.mem_append_right _ (List.mem_append_right _ (List.mem_append_right _ (List.mem_append_left _ h))))))) (by decide +kernel)
theorem g_q_onePart_5 : GoodIn v_q_onePart (wsV RX12 214 RX12 yX12_isHere v_q_isHere) := goodIn_sub (fun w h => List.mem_cons_of_mem _ (List.mem_append_right _ (List.mem_append_right _ (List.mem_append_right _ (List.mem_append_right _ (List.mem_append_right _ (List.mem_append_right _ (List.mem_append_left _ h)))))))) (by decide +kernel)
theorem g_q_onePart_6 : GoodIn v_q_onePart (wsS RX12 207 yX12_isLetter v_q_isLetter2) := goodIn_sub (fun w h => List.mem_cons_of_mem _ (List.mem_append_right _ (List.mem_append_right _ (List.mem_append_right _ (List.mem_append_right _ (List.mem_append_right _ (List.mem_append_right _ (List.mem_append_right _ (List.mem_append_left _ h))))))))) (by decide +kernel)
theorem g_q_onePart_7 : GoodIn v_q_onePart (wsV RX12 292 RX12 yX12_number v_q_number) := goodIn_sub (fun w h => List.mem_cons_of_mem _ (List.mem_append_right _ (List.mem_append_right _ (List.mem_append_right _ (List.mem_append_right _ (List.mem_append_right _ (List.mem_append_right _ (List.mem_append_right _ (List.mem_append_right _ (List.mem_append_left _ h)))))))))) (by decide +kernel)
theorem g_q_onePart_8 : GoodIn v_q_onePart (wsV RX12 266 RX12 yX12_code v_q_code) := goodIn_sub (fun w h => List.mem_cons_of_mem _ (List.mem_append_right _ (List.mem_append_right _ (List.mem_append_right _ (List.mem_append_right _ (List.mem_append_right _ (List.mem_append_right _ (List.mem_append_right _ (List.mem_append_right _ (List.mem_append_right _ (List.mem_append_left _ h))))))))))) (by decide +kernel)
theorem g_q_onePart_9 : GoodIn v_q_onePart (wsV RX12 289 RX12 yX12_named1 v_q_named1) := goodIn_sub (fun w h => List.mem_cons_of_mem _ (List.mem_append_right _ (List.mem_append_right _ (List.mem_append_right _ (List.mem_append_right _ (List.mem_append_right _ (List.mem_append_right _ (List.mem_append_right _ (List.mem_append_right _ (List.mem_append_right _ (List.mem_append_right _ (List.mem_append_left _ h)))))))))))) (by decide +kernel)
set_option maxHeartbeats 4000000 in
set_option maxRecDepth 100000 in
theorem q_onePart (l : Launch) (D : va_G) (y : Nat → ClassId) (sz : Nat) (ad : Nat → Nat) (zw : Nat → Nat → Int32) (σ : OS) (f0 w0 : Nat → Int32) (c0 b : Nat) (o0 : Int) (ha0 : 0 ≤ (σ.1 2).toInt) (ha1 : (σ.1 2).toInt ≤ (σ.1 3).toInt) (ha2 : (σ.1 3).toInt ≤ 700) (hb0 : (σ.1 5).toInt = 0) (hn0 : 0 ≤ (σ.1 33).toInt) (hn1 : (σ.1 33).toInt ≤ 24) (ho0 : 0 ≤ (σ.1 32).toInt) (ho1 : (σ.1 32).toInt ≤ 8) (hw0 : 0 ≤ (σ.1 31).toInt) (hc0 : 0 ≤ (σ.1 29).toInt) (hcw : (σ.1 29).toInt + (σ.1 31).toInt ≤ (σ.1 2).toInt + 20) (h40 : 0 ≤ (σ.2.2.1 24 4).toInt) (h41 : (σ.2.2.1 24 4).toInt ≤ (σ.1 2).toInt + 20) (hes : ES f0 (σ.2.2.1 27) w0 (σ.2.2.1 30) c0 (σ.1 29).toInt.toNat b (σ.1 31).toInt.toNat 0 (1000 + (σ.2.2.1 24 4).toInt) (σ.1 32).toInt o0) (hB35 : bI (σ.2.2.1 35) 0 23) (hB26 : bI (σ.2.2.1 26) 0 9999) : Met l yX12_onePart v_q_onePart ({ frames := 6, cells := 0, slots := 0, locals := 130 } : Room) (va_Pc [.ref (ad 1)] (xPre D (xT y) (mwd y ad zw σ) sz)) (va_Qv (fun (u : Int32 × Int32 × Int32 × Int32 × Int32 × Int32 × (Nat → Int32) × Int32 × (Nat → Int32) × Int32 × (Nat → Int32) × (Nat → Int32)) => ((σ.1 2).toInt ≤ u.1.toInt ∧ u.1.toInt ≤ (σ.1 3).toInt ∧ 0 ≤ u.2.2.2.2.2.2.2.1.toInt ∧ u.2.2.2.2.2.2.2.1.toInt ≤ 8 ∧ 0 ≤ u.2.2.2.2.2.2.2.2.2.1.toInt ∧ (σ.1 29).toInt ≤ u.2.2.2.2.2.1.toInt ∧ u.2.2.2.2.2.1.toInt + u.2.2.2.2.2.2.2.2.2.1.toInt - u.1.toInt ≤ (σ.1 29).toInt + (σ.1 31).toInt - (σ.1 2).toInt + 1 ∧ (∀ k : Nat, k ≠ 4 → u.2.2.2.2.2.2.2.2.2.2.1 k = σ.2.2.1 24 k) ∧ (σ.2.2.1 24 4).toInt ≤ (u.2.2.2.2.2.2.2.2.2.2.1 4).toInt ∧ (u.2.2.2.2.2.2.2.2.2.2.1 4).toInt - u.1.toInt ≤ (σ.2.2.1 24 4).toInt - (σ.1 2).toInt + 1 ∧ (u.2.2.1.toInt = 0 → (σ.1 2).toInt + 1 ≤ u.1.toInt ∧ u.2.2.2.2.2.1.toInt + u.2.2.2.2.2.2.2.2.2.1.toInt - u.1.toInt ≤ (σ.1 29).toInt + (σ.1 31).toInt - (σ.1 2).toInt ∧ (u.2.2.2.2.2.2.2.2.2.2.1 4).toInt - u.1.toInt ≤ (σ.2.2.1 24 4).toInt - (σ.1 2).toInt ∧ ES f0 u.2.2.2.2.2.2.1 w0 u.2.2.2.2.2.2.2.2.1 c0 u.2.2.2.2.2.1.toInt.toNat b u.2.2.2.2.2.2.2.2.2.1.toInt.toNat 1 (1000 + (u.2.2.2.2.2.2.2.2.2.2.1 4).toInt) u.2.2.2.2.2.2.2.1.toInt o0)) ∧ bI u.2.2.2.2.2.2.2.2.2.2.2 0 9999) (fun (u : Int32 × Int32 × Int32 × Int32 × Int32 × Int32 × (Nat → Int32) × Int32 × (Nat → Int32) × Int32 × (Nat → Int32) × (Nat → Int32)) => xB D (xT y) (va_A (mwd y ad zw σ) sz) (mwd y ad zw (tI (tI (sI (tI (sI (tI (sI (sI (sI (sI (sI (sI σ 2 u.1) 4 u.2.1) 5 u.2.2.1) 6 u.2.2.2.1) 23 u.2.2.2.2.1) 29 u.2.2.2.2.2.1) 27 u.2.2.2.2.2.2.1) 32 u.2.2.2.2.2.2.2.1) 30 u.2.2.2.2.2.2.2.2.1) 31 u.2.2.2.2.2.2.2.2.2.1) 24 u.2.2.2.2.2.2.2.2.2.2.1) 26 u.2.2.2.2.2.2.2.2.2.2.2))) (va_A (mwd y ad zw σ) sz)) 0 0 (va_A (mwd y ad zw σ) sz) := by
  refine x_metv (cc := cX12_onePart) (maxL := 5) (by decide) rfl (Nat.le_of_ble_eq_true rfl) ?_
  intro p e s m below meth c A H locs Q hx hb hml hown hts hr hlocks hmn hA hP hK hD hS ls hl hQ
  have hl : lv_has ls 5 [(0, .ref (ad 1))] := hl
  have kk_0 : (0 : Int32).toInt = 0 := rfl
  have fl191 := hts (.fieldLink RX12 191 "SlopeRunnerModel" "bad" "I") (List.mem_of_getElem? (i := 1) rfl)
  have inX12 : ∀ w ∈ wsX120, w ∈ v_q_onePart := (fun w h => List.mem_cons_of_mem _ (List.mem_append_right _ (List.mem_append_right _ (List.mem_append_right _ (List.mem_append_right _ (List.mem_append_right _ (List.mem_append_right _ (List.mem_append_right _ (List.mem_append_right _ (List.mem_append_right _ (List.mem_append_right _ (List.mem_append_right _ h))))))))))))
  have kk_40 : (40 : Int32).toInt = 40 := rfl
  have fl197 := hts (.fieldLink RX12 197 "SlopeRunnerModel" "at" "I") (List.mem_of_getElem? (i := 2) rfl)
  have kk_m1 : ((-1) : Int32).toInt = -1 := rfl
  have fl54 := hts (.fieldLink RX12 54 "SlopeRunnerModel" "minWord" "[C") (List.mem_of_getElem? (i := 3) rfl)
  have fl57 := hts (.fieldLink RX12 57 "SlopeRunnerModel" "maxWord" "[C") (List.mem_of_getElem? (i := 4) rfl)
  have fl51 := hts (.fieldLink RX12 51 "SlopeRunnerModel" "absWord" "[C") (List.mem_of_getElem? (i := 5) rfl)
  have kk_25 : (25 : Int32).toInt = 25 := rfl
  have fl60 := hts (.fieldLink RX12 60 "SlopeRunnerModel" "has" "[I") (List.mem_of_getElem? (i := 6) rfl)
  have fl66 := hts (.fieldLink RX12 66 "SlopeRunnerModel" "numbers" "[I") (List.mem_of_getElem? (i := 7) rfl)
  have kk_9999 : (9999 : Int32).toInt = 9999 := rfl
  have kk_1 : (1 : Int32).toInt = 1 := rfl
  have kk_1000 : (1000 : Int32).toInt = 1000 := rfl
  have kk_20 : (20 : Int32).toInt = 20 := rfl
  refine lv_iconst (v := 1) hx hb dX12_onePart_0 (by decide) ?_
  refine lv_istore_n (lv' := [(1, .int 1), (0, .ref (ad 1))]) hx hb dX12_onePart_1 rfl hl (by decide) rfl (fun ls hl => ?_)
  have hP : va_P D vwCl (mwd y ad zw (tI (tI (sI (tI (sI (tI (sI (sI (sI (sI (sI (sI σ 2 (σ.1 2)) 4 (σ.1 4)) 5 (σ.1 5)) 6 (σ.1 6)) 23 (σ.1 23)) 29 (σ.1 29)) 27 (σ.2.2.1 27)) 32 (σ.1 32)) 30 (σ.2.2.1 30)) 31 (σ.1 31)) 24 (σ.2.2.1 24)) 26 (σ.2.2.1 26))) H := hP
  have hD : va_D A (mwd y ad zw (tI (tI (sI (tI (sI (tI (sI (sI (sI (sI (sI (sI σ 2 (σ.1 2)) 4 (σ.1 4)) 5 (σ.1 5)) 6 (σ.1 6)) 23 (σ.1 23)) 29 (σ.1 29)) 27 (σ.2.2.1 27)) 32 (σ.1 32)) 30 (σ.2.2.1 30)) 31 (σ.1 31)) 24 (σ.2.2.1 24)) 26 (σ.2.2.1 26))) := hD
  have loop : ∀ (fu : Nat) (mo : Int32) (a : Int32) (en : Int32) (bd : Int32) (bp : Int32) (np : Int32) (cd : Int32) (fc : Nat → Int32) (op : Int32) (fw : Nat → Int32) (ws : Int32) (fh : Nat → Int32) (fn : Nat → Int32) (H : Heap) (locs : List Loc) (ls : Array Slot), (0 ≤ mo.toInt) → (mo.toInt ≤ 1) → (bd.toInt = 0) → ((σ.1 2).toInt + 1 ≤ a.toInt + mo.toInt) → ((σ.1 2).toInt ≤ a.toInt) → (a.toInt ≤ (σ.1 3).toInt) → (0 ≤ op.toInt ∧ op.toInt ≤ 8 ∧ 0 ≤ ws.toInt ∧ (σ.1 29).toInt ≤ cd.toInt) → (cd.toInt + ws.toInt - a.toInt ≤ ((σ.1 29).toInt + (σ.1 31).toInt - (σ.1 2).toInt)) → (∀ k : Nat, k ≠ 4 → fh k = σ.2.2.1 24 k) → ((σ.2.2.1 24 4).toInt ≤ (fh 4).toInt ∧ (fh 4).toInt - a.toInt ≤ ((σ.2.2.1 24 4).toInt - (σ.1 2).toInt)) → (XE (mo.toInt = 1) (ES f0 fc w0 fw c0 cd.toInt.toNat b ws.toInt.toNat 0 (1000 + (fh 4).toInt) op.toInt o0) ∧ XE (mo.toInt = 0) (ES f0 fc w0 fw c0 cd.toInt.toNat b ws.toInt.toNat 1 (1000 + (fh 4).toInt) op.toInt o0)) → (bI fn 0 9999) → (2 * ((σ.1 3).toInt - a.toInt) + mo.toInt < (fu : Int)) → va_P D vwCl (mwd y ad zw (tI (tI (sI (tI (sI (tI (sI (sI (sI (sI (sI (sI σ 2 a) 4 en) 5 bd) 6 bp) 23 np) 29 cd) 27 fc) 32 op) 30 fw) 31 ws) 24 fh) 26 fn)) H → va_D A (mwd y ad zw (tI (tI (sI (tI (sI (tI (sI (sI (sI (sI (sI (sI σ 2 a) 4 en) 5 bd) 6 bp) 23 np) 29 cd) 27 fc) 32 op) 30 fw) 31 ws) 24 fh) 26 fn)) → va_S A s.heap H locs → lv_has ls 5 [(1, .int mo), (0, .ref (ad 1))] → W p l e ({ frames := 6, cells := 0, slots := 0, locals := 130 } : Room) s m ([.ref (ad 1)] : List Value).toArray below meth c H locs 0 0 Q (F0 m 2 ls []) := by
    intro fu
    induction fu with
    | zero =>
      intro mo a en bd bp np cd fc op fw ws fh fn H locs ls hmo0 hmo1 hbd hA0 hA2 hA1 hO hpot hh hh4 hE hfn hm
      exact absurd hm (by omega)
    | succ fu ih_loop =>
      intro mo a en bd bp np cd fc op fw ws fh fn H locs ls hmo0 hmo1 hbd hA0 hA2 hA1 hO hpot hh hh4 hE hfn hm hP hD hS hl
      refine lv_iload_n hx hb dX12_onePart_2 rfl (lv_at hl 0 rfl) ?_
      refine lv_if_eq (tgt := 232) hx hb dX12_onePart_3 (by decide) (fun c_1 => ?_) (fun c_1 => ?_)
      · have kc_1 : mo.toInt = 0 := by have h9 := c_1; simp only [ge_iff_le, gt_iff_lt, x_lt, x_le, x_eq, ne_eq, Int32.not_lt, Int32.not_le] at h9; simp only [Int32.reduceToInt] at h9; omega
        exact x_vretW (u := (a, en, bd, bp, np, cd, fc, op, fw, ws, fh, fn)) hx hb hr hQ (by (try dsimp only); exact ⟨⟨by omega, by omega, by omega, by omega, by omega, by omega, by omega, hh, by omega, by omega, fun h9 => ⟨by omega, by omega, by omega, hE.2 (by omega)⟩⟩, hfn⟩) hP hD hK hS dX12_onePart_232 hlocks
      · have kc_1 : mo.toInt ≠ 0 := by have h9 := c_1; simp only [ge_iff_le, gt_iff_lt, x_lt, x_le, x_eq, ne_eq, Int32.not_lt, Int32.not_le] at h9; simp only [Int32.reduceToInt] at h9; omega
        refine lv_aload_n hx hb dX12_onePart_6 rfl (lv_at hl 1 rfl) ?_
        refine va_get (D := D) (ci := 11) (v := .int bd) (C := RX12) (T := TX12) (N := 85) hx hb hts inX12 hown hK hP 0 mwd_o0 rfl 5 (by decide) fl191 (fun _ h9 => h9) rfl dX12_onePart_7 ?_
        refine lv_if_ne (tgt := 232) hx hb dX12_onePart_10 (by decide) (fun c_2 => ?_) (fun c_2 => ?_)
        · have kc_2 : bd.toInt ≠ 0 := by have h9 := c_2; simp only [ge_iff_le, gt_iff_lt, x_lt, x_le, x_eq, ne_eq, Int32.not_lt, Int32.not_le] at h9; simp only [Int32.reduceToInt] at h9; omega
          exfalso
          omega
        · have kc_2 : bd.toInt = 0 := by have h9 := c_2; simp only [ge_iff_le, gt_iff_lt, x_lt, x_le, x_eq, ne_eq, Int32.not_lt, Int32.not_le] at h9; simp only [Int32.reduceToInt] at h9; omega
          have hes0 := hE.1 (by omega)
          refine lv_aload_n hx hb dX12_onePart_13 rfl (lv_at hl 1 rfl) ?_
          refine x_calliW (va_runV (As := []) (rest := []) ⟨hx, hb, hml, hown, hts⟩ (q_look2 l D y H.size ad zw (tI (tI (sI (tI (sI (tI (sI (sI (sI (sI (sI (sI σ 2 a) 4 en) 5 bd) 6 bp) 23 np) 29 cd) 27 fc) 32 op) 30 fw) 31 ws) 24 fh) 26 fn) (show 0 ≤ (a).toInt from by first | omega | decide) (show (a).toInt ≤ ((σ.1 3)).toInt from by first | omega | decide) (show ((σ.1 3)).toInt ≤ 700 from by first | omega | decide)) (cwV 0 hts g_q_onePart_0 rfl rfl rfl (by decide +kernel) ⟨Nat.le_of_ble_eq_true rfl, Nat.le_of_ble_eq_true rfl⟩) (x_preV (q := (RX12, TX12, 85)) hK hP hD (ci := 11) (q0 := 0) rfl mwd_o0) rfl rfl hl.1 rfl (lv_room (Nat.le_of_ble_eq_true rfl)) dX12_onePart_14 ⟨Nat.le_of_ble_eq_true rfl, Nat.le_of_ble_eq_true rfl⟩) hP hD hS hA (fun r_3 u H locs hw hP hD hS => ?_)
          obtain ⟨n_4, rfl⟩ : ∃ z9, z9 = u := ⟨_, rfl⟩
          try dsimp only at hw
          have hP : va_P D vwCl (mwd y ad zw (sI (tI (tI (sI (tI (sI (tI (sI (sI (sI (sI (sI (sI σ 2 a) 4 en) 5 bd) 6 bp) 23 np) 29 cd) 27 fc) 32 op) 30 fw) 31 ws) 24 fh) 26 fn) 2 n_4)) H := hP
          have hD : va_D A (mwd y ad zw (sI (tI (tI (sI (tI (sI (tI (sI (sI (sI (sI (sI (sI σ 2 a) 4 en) 5 bd) 6 bp) 23 np) 29 cd) 27 fc) 32 op) 30 fw) 31 ws) 24 fh) 26 fn) 2 n_4)) := hD
          replace hw : (a).toInt ≤ n_4.toInt ∧ n_4.toInt ≤ ((σ.1 3)).toInt ∧ (r_3.toInt = -1 ∨ (n_4.toInt < ((σ.1 3)).toInt ∧ r_3 = ((σ.2.2.1 0)) (Int32.toNatClampNeg n_4))) := hw
          replace hw : a.toInt ≤ n_4.toInt ∧ n_4.toInt ≤ (σ.1 3).toInt ∧ (r_3.toInt = -1 ∨ n_4.toInt < (σ.1 3).toInt) := ⟨hw.1, hw.2.1, hw.2.2.imp id And.left⟩
          have hlk17 := hw
          refine lv_istore_n (lv' := [(2, .int r_3), (1, .int mo), (0, .ref (ad 1))]) hx hb dX12_onePart_17 rfl hl (by decide) rfl (fun ls hl => ?_)
          refine lv_iload_n hx hb dX12_onePart_18 rfl (lv_at hl 0 rfl) ?_
          refine lv_bipush (v := 40) hx hb dX12_onePart_19 (by decide) ?_
          refine lv_icmp_ne (tgt := 47) hx hb dX12_onePart_21 (by decide) (fun c_5 => ?_) (fun c_5 => ?_)
          · have kc_5 : r_3.toInt ≠ 40 := by have h9 := c_5; simp only [ge_iff_le, gt_iff_lt, x_lt, x_le, x_eq, ne_eq, Int32.not_lt, Int32.not_le] at h9; simp only [Int32.reduceToInt] at h9; omega
            have cut129 : ∀ (wh : Int32) (a2 : Int32) (en2 : Int32) (bd2 : Int32) (bp2 : Int32) (H : Heap) (locs : List Loc) (ls : Array Slot), (wh.toInt = 21 ∨ wh.toInt = 22 ∨ wh.toInt = 25) → (bd2.toInt = 0) → (a2.toInt ≤ (σ.1 3).toInt) → (a.toInt + 3 ≤ a2.toInt) → va_P D vwCl (mwd y ad zw (sI (sI (sI (sI (tI (tI (sI (tI (sI (tI (sI (sI σ 23 np) 29 cd) 27 fc) 32 op) 30 fw) 31 ws) 24 fh) 26 fn) 2 a2) 4 en2) 5 bd2) 6 bp2)) H → va_D A (mwd y ad zw (sI (sI (sI (sI (tI (tI (sI (tI (sI (tI (sI (sI σ 23 np) 29 cd) 27 fc) 32 op) 30 fw) 31 ws) 24 fh) 26 fn) 2 a2) 4 en2) 5 bd2) 6 bp2)) → va_S A s.heap H locs → lv_has ls 5 [(3, .int wh), (1, .int mo), (0, .ref (ad 1))] → W p l e ({ frames := 6, cells := 0, slots := 0, locals := 130 } : Room) s m ([.ref (ad 1)] : List Value).toArray below meth c H locs 0 0 Q (F0 m 129 ls []) := by
              intro wh a2 en2 bd2 bp2 H locs ls hwh hbd2 hc2 hc3 hP hD hS hl
              refine lv_aload_n hx hb dX12_onePart_129 rfl (lv_at hl 2 rfl) ?_
              refine x_calliW (va_runV (As := []) (rest := []) ⟨hx, hb, hml, hown, hts⟩ (q_look2 l D y H.size ad zw (sI (sI (sI (sI (tI (tI (sI (tI (sI (tI (sI (sI σ 23 np) 29 cd) 27 fc) 32 op) 30 fw) 31 ws) 24 fh) 26 fn) 2 a2) 4 en2) 5 bd2) 6 bp2) (show 0 ≤ (a2).toInt from by first | omega | decide) (show (a2).toInt ≤ ((σ.1 3)).toInt from by first | omega | decide) (show ((σ.1 3)).toInt ≤ 700 from by first | omega | decide)) (cwV 0 hts g_q_onePart_0 rfl rfl rfl (by decide +kernel) ⟨Nat.le_of_ble_eq_true rfl, Nat.le_of_ble_eq_true rfl⟩) (x_preV (q := (RX12, TX12, 85)) hK hP hD (ci := 11) (q0 := 0) rfl mwd_o0) rfl rfl hl.1 rfl (lv_room (Nat.le_of_ble_eq_true rfl)) dX12_onePart_130 ⟨Nat.le_of_ble_eq_true rfl, Nat.le_of_ble_eq_true rfl⟩) hP hD hS hA (fun r_6 u H locs hw hP hD hS => ?_)
              obtain ⟨n_7, rfl⟩ : ∃ z9, z9 = u := ⟨_, rfl⟩
              try dsimp only at hw
              have hP : va_P D vwCl (mwd y ad zw (sI (sI (sI (sI (sI (tI (tI (sI (tI (sI (tI (sI (sI σ 23 np) 29 cd) 27 fc) 32 op) 30 fw) 31 ws) 24 fh) 26 fn) 2 a2) 4 en2) 5 bd2) 6 bp2) 2 n_7)) H := hP
              have hD : va_D A (mwd y ad zw (sI (sI (sI (sI (sI (tI (tI (sI (tI (sI (tI (sI (sI σ 23 np) 29 cd) 27 fc) 32 op) 30 fw) 31 ws) 24 fh) 26 fn) 2 a2) 4 en2) 5 bd2) 6 bp2) 2 n_7)) := hD
              replace hw : (a2).toInt ≤ n_7.toInt ∧ n_7.toInt ≤ ((σ.1 3)).toInt ∧ (r_6.toInt = -1 ∨ (n_7.toInt < ((σ.1 3)).toInt ∧ r_6 = ((σ.2.2.1 0)) (Int32.toNatClampNeg n_7))) := hw
              replace hw : a2.toInt ≤ n_7.toInt ∧ n_7.toInt ≤ (σ.1 3).toInt ∧ (r_6.toInt = -1 ∨ n_7.toInt < (σ.1 3).toInt) := ⟨hw.1, hw.2.1, hw.2.2.imp id And.left⟩
              have hlk133 := hw
              refine lv_bipush (v := 40) hx hb dX12_onePart_133 (by decide) ?_
              refine lv_icmp_ne (tgt := 145) hx hb dX12_onePart_135 (by decide) (fun c_8 => ?_) (fun c_8 => ?_)
              · have kc_8 : r_6.toInt ≠ 40 := by have h9 := c_8; simp only [ge_iff_le, gt_iff_lt, x_lt, x_le, x_eq, ne_eq, Int32.not_lt, Int32.not_le] at h9; simp only [Int32.reduceToInt] at h9; omega
                refine lv_iconst (v := (-1)) hx hb dX12_onePart_145 (by decide) ?_
                refine lv_istore (lv' := [(4, .int (-1)), (3, .int wh), (1, .int mo), (0, .ref (ad 1))]) hx hb dX12_onePart_146 hl (by decide) rfl (fun ls hl => ?_)
                refine lv_iload hx hb dX12_onePart_148 (lv_at hl 0 rfl) ?_
                refine lv_iconst (v := (-1)) hx hb dX12_onePart_150 (by decide) ?_
                refine lv_icmp_eq (tgt := 161) hx hb dX12_onePart_151 (by decide) (fun c_9 => ?_) (fun c_9 => ?_)
                · refine lv_aload_n hx hb dX12_onePart_161 rfl (lv_at hl 3 rfl) ?_
                  refine lv_bipush (v := 40) hx hb dX12_onePart_162 (by decide) ?_
                  refine x_callvW (va_runV (As := [.int 40]) (rest := []) ⟨hx, hb, hml, hown, hts⟩ (q_asksSign l D y H.size ad zw (sI (sI (sI (sI (sI (tI (tI (sI (tI (sI (tI (sI (sI σ 23 np) 29 cd) 27 fc) 32 op) 30 fw) 31 ws) 24 fh) 26 fn) 2 a2) 4 en2) 5 bd2) 6 bp2) 2 n_7) 40 (by first | omega | decide) (show 0 ≤ (n_7).toInt from by first | omega | decide) (show (n_7).toInt ≤ ((σ.1 3)).toInt from by first | omega | decide) (show ((σ.1 3)).toInt ≤ 700 from by first | omega | decide)) (cwV 1 hts g_q_onePart_1 rfl rfl rfl (by decide +kernel) ⟨Nat.le_of_ble_eq_true rfl, Nat.le_of_ble_eq_true rfl⟩) (x_preV (q := (RX12, TX12, 85)) hK hP hD (ci := 11) (q0 := 0) rfl mwd_o0) rfl rfl hl.1 rfl (lv_room (Nat.le_of_ble_eq_true rfl)) dX12_onePart_164 ⟨Nat.le_of_ble_eq_true rfl, Nat.le_of_ble_eq_true rfl⟩) hP hD hS hA (fun u H locs hw hP hD hS => ?_)
                  obtain ⟨n_10, n_11, n_12⟩ := u
                  try dsimp only at hw
                  have hP : va_P D vwCl (mwd y ad zw (sI (sI (sI (sI (sI (sI (sI (sI (tI (tI (sI (tI (sI (tI (sI (sI σ 23 np) 29 cd) 27 fc) 32 op) 30 fw) 31 ws) 24 fh) 26 fn) 2 a2) 4 en2) 5 bd2) 6 bp2) 2 n_7) 2 n_10) 5 n_11) 6 n_12)) H := hP
                  have hD : va_D A (mwd y ad zw (sI (sI (sI (sI (sI (sI (sI (sI (tI (tI (sI (tI (sI (tI (sI (sI σ 23 np) 29 cd) 27 fc) 32 op) 30 fw) 31 ws) 24 fh) 26 fn) 2 a2) 4 en2) 5 bd2) 6 bp2) 2 n_7) 2 n_10) 5 n_11) 6 n_12)) := hD
                  replace hw : (n_7).toInt ≤ n_10.toInt ∧ n_10.toInt ≤ ((σ.1 3)).toInt ∧ (n_11.toInt = 0 → (bd2).toInt = 0 ∧ (n_7).toInt + 1 ≤ n_10.toInt) := hw
                  rcases Classical.em (n_11.toInt = 0) with hbz | hbz
                  · have hsp := hw.2.2 hbz
                    replace hw := And.intro hw.1 hw.2.1
                    refine lv_goto (tgt := 229) hx hb dX12_onePart_167 (by decide) ?_
                    refine lv_goto (tgt := 2) hx hb dX12_onePart_229 (by decide) ?_
                    have hP : va_P D vwCl (mwd y ad zw (tI (tI (sI (tI (sI (tI (sI (sI (sI (sI (sI (sI σ 2 n_10) 4 en2) 5 n_11) 6 n_12) 23 np) 29 cd) 27 fc) 32 op) 30 fw) 31 ws) 24 fh) 26 fn)) H := hP
                    have hD : va_D A (mwd y ad zw (tI (tI (sI (tI (sI (tI (sI (sI (sI (sI (sI (sI σ 2 n_10) 4 en2) 5 n_11) 6 n_12) 23 np) 29 cd) 27 fc) 32 op) 30 fw) 31 ws) 24 fh) 26 fn)) := hD
                    exact ih_loop mo n_10 en2 n_11 n_12 np cd fc op fw ws fh fn H locs ls (by omega) (by omega) (by omega) (by omega) (by omega) (by omega) ⟨by omega, by omega, by omega, by omega⟩ (by omega) hh ⟨by omega, by omega⟩ ⟨fun _ => hes0, fun h8 => absurd h8 (by omega)⟩ hfn (by omega) hP hD hS (lv_sub hl [2, 3] rfl)
                  · replace hw := And.intro hw.1 hw.2.1
                    refine lv_goto (tgt := 229) hx hb dX12_onePart_167 (by decide) ?_
                    refine lv_goto (tgt := 2) hx hb dX12_onePart_229 (by decide) ?_
                    refine lv_iload_n hx hb dX12_onePart_2 rfl (lv_at hl 2 rfl) ?_
                    refine lv_if_eq (tgt := 232) hx hb dX12_onePart_3 (by decide) (fun c_13 => ?_) (fun c_13 => ?_)
                    · have kc_13 : mo.toInt = 0 := by have h9 := c_13; simp only [ge_iff_le, gt_iff_lt, x_lt, x_le, x_eq, ne_eq, Int32.not_lt, Int32.not_le] at h9; simp only [Int32.reduceToInt] at h9; omega
                      have hP : va_P D vwCl (mwd y ad zw (tI (tI (sI (tI (sI (tI (sI (sI (sI (sI (sI (sI σ 2 n_10) 4 en2) 5 n_11) 6 n_12) 23 np) 29 cd) 27 fc) 32 op) 30 fw) 31 ws) 24 fh) 26 fn)) H := hP
                      have hD : va_D A (mwd y ad zw (tI (tI (sI (tI (sI (tI (sI (sI (sI (sI (sI (sI σ 2 n_10) 4 en2) 5 n_11) 6 n_12) 23 np) 29 cd) 27 fc) 32 op) 30 fw) 31 ws) 24 fh) 26 fn)) := hD
                      exact x_vretW (u := (n_10, en2, n_11, n_12, np, cd, fc, op, fw, ws, fh, fn)) hx hb hr hQ (by (try dsimp only); exact ⟨⟨by omega, by omega, by omega, by omega, by omega, by omega, by omega, hh, by omega, by omega, fun h9 => absurd h9 (by omega)⟩, hfn⟩) hP hD hK hS dX12_onePart_232 hlocks
                    · have kc_13 : mo.toInt ≠ 0 := by have h9 := c_13; simp only [ge_iff_le, gt_iff_lt, x_lt, x_le, x_eq, ne_eq, Int32.not_lt, Int32.not_le] at h9; simp only [Int32.reduceToInt] at h9; omega
                      refine lv_aload_n hx hb dX12_onePart_6 rfl (lv_at hl 3 rfl) ?_
                      refine va_get (D := D) (ci := 11) (v := .int n_11) (C := RX12) (T := TX12) (N := 85) hx hb hts inX12 hown hK hP 0 mwd_o0 rfl 5 (by decide) fl191 (fun _ h9 => h9) rfl dX12_onePart_7 ?_
                      refine lv_if_ne (tgt := 232) hx hb dX12_onePart_10 (by decide) (fun c_14 => ?_) (fun c_14 => ?_)
                      · have kc_14 : n_11.toInt ≠ 0 := by have h9 := c_14; simp only [ge_iff_le, gt_iff_lt, x_lt, x_le, x_eq, ne_eq, Int32.not_lt, Int32.not_le] at h9; simp only [Int32.reduceToInt] at h9; omega
                        have hP : va_P D vwCl (mwd y ad zw (tI (tI (sI (tI (sI (tI (sI (sI (sI (sI (sI (sI σ 2 n_10) 4 en2) 5 n_11) 6 n_12) 23 np) 29 cd) 27 fc) 32 op) 30 fw) 31 ws) 24 fh) 26 fn)) H := hP
                        have hD : va_D A (mwd y ad zw (tI (tI (sI (tI (sI (tI (sI (sI (sI (sI (sI (sI σ 2 n_10) 4 en2) 5 n_11) 6 n_12) 23 np) 29 cd) 27 fc) 32 op) 30 fw) 31 ws) 24 fh) 26 fn)) := hD
                        exact x_vretW (u := (n_10, en2, n_11, n_12, np, cd, fc, op, fw, ws, fh, fn)) hx hb hr hQ (by (try dsimp only); exact ⟨⟨by omega, by omega, by omega, by omega, by omega, by omega, by omega, hh, by omega, by omega, fun h9 => absurd h9 (by omega)⟩, hfn⟩) hP hD hK hS dX12_onePart_232 hlocks
                      · have kc_14 : n_11.toInt = 0 := by have h9 := c_14; simp only [ge_iff_le, gt_iff_lt, x_lt, x_le, x_eq, ne_eq, Int32.not_lt, Int32.not_le] at h9; simp only [Int32.reduceToInt] at h9; omega
                        exfalso
                        omega
                · exact absurd (by decide) c_9
              · have kc_8 : r_6.toInt = 40 := by have h9 := c_8; simp only [ge_iff_le, gt_iff_lt, x_lt, x_le, x_eq, ne_eq, Int32.not_lt, Int32.not_le] at h9; simp only [Int32.reduceToInt] at h9; omega
                refine lv_aload_n hx hb dX12_onePart_138 rfl (lv_at hl 2 rfl) ?_
                refine va_get (D := D) (ci := 11) (v := .int n_7) (C := RX12) (T := TX12) (N := 85) hx hb hts inX12 hown hK hP 0 mwd_o0 rfl 2 (by decide) fl197 (fun _ h9 => h9) rfl dX12_onePart_139 ?_
                refine lv_goto (tgt := 146) hx hb dX12_onePart_142 (by decide) ?_
                refine lv_istore (lv' := [(4, .int n_7), (3, .int wh), (1, .int mo), (0, .ref (ad 1))]) hx hb dX12_onePart_146 hl (by decide) rfl (fun ls hl => ?_)
                refine lv_iload hx hb dX12_onePart_148 (lv_at hl 0 rfl) ?_
                refine lv_iconst (v := (-1)) hx hb dX12_onePart_150 (by decide) ?_
                refine lv_icmp_eq (tgt := 161) hx hb dX12_onePart_151 (by decide) (fun c_15 => ?_) (fun c_15 => ?_)
                · have kc_15 : n_7.toInt = (-1) := by have h9 := c_15; simp only [ge_iff_le, gt_iff_lt, x_lt, x_le, x_eq, ne_eq, Int32.not_lt, Int32.not_le] at h9; simp only [Int32.reduceToInt] at h9; omega
                  exfalso
                  omega
                · have kc_15 : n_7.toInt ≠ (-1) := by have h9 := c_15; simp only [ge_iff_le, gt_iff_lt, x_lt, x_le, x_eq, ne_eq, Int32.not_lt, Int32.not_le] at h9; simp only [Int32.reduceToInt] at h9; omega
                  refine lv_aload_n hx hb dX12_onePart_154 rfl (lv_at hl 3 rfl) ?_
                  refine lv_iload_n hx hb dX12_onePart_155 rfl (lv_at hl 1 rfl) ?_
                  refine lv_iload hx hb dX12_onePart_156 (lv_at hl 0 rfl) ?_
                  refine x_callvW (va_runV (As := [.int wh, .int n_7]) (rest := []) ⟨hx, hb, hml, hown, hts⟩ (q_opensOne l D y H.size ad zw (sI (sI (sI (sI (sI (tI (tI (sI (tI (sI (tI (sI (sI σ 23 np) 29 cd) 27 fc) 32 op) 30 fw) 31 ws) 24 fh) 26 fn) 2 a2) 4 en2) 5 bd2) 6 bp2) 2 n_7) wh n_7 (show 0 ≤ (op).toInt from by first | omega | decide) (show (op).toInt ≤ 8 from by first | omega | decide) (show 0 ≤ (ws).toInt from by first | omega | decide) (show (ws).toInt < 800 from by first | omega | decide)) (cwV 2 hts g_q_onePart_2 rfl rfl rfl (by decide +kernel) ⟨Nat.le_of_ble_eq_true rfl, Nat.le_of_ble_eq_true rfl⟩) (x_preV (q := (RX12, TX12, 85)) hK hP hD (ci := 11) (q0 := 0) rfl mwd_o0) rfl rfl hl.1 rfl (lv_room (Nat.le_of_ble_eq_true rfl)) dX12_onePart_158 ⟨Nat.le_of_ble_eq_true rfl, Nat.le_of_ble_eq_true rfl⟩) hP hD hS hA (fun u H locs hw hP hD hS => ?_)
                  obtain ⟨n_16, n_17, n_18, f_19, n_20⟩ := u
                  try dsimp only at hw
                  have hP : va_P D vwCl (mwd y ad zw (sI (tI (sI (sI (sI (sI (sI (sI (sI (sI (tI (tI (sI (tI (sI (tI (sI (sI σ 23 np) 29 cd) 27 fc) 32 op) 30 fw) 31 ws) 24 fh) 26 fn) 2 a2) 4 en2) 5 bd2) 6 bp2) 2 n_7) 5 n_16) 6 n_17) 32 n_18) 30 f_19) 31 n_20)) H := hP
                  have hD : va_D A (mwd y ad zw (sI (tI (sI (sI (sI (sI (sI (sI (sI (sI (tI (tI (sI (tI (sI (tI (sI (sI σ 23 np) 29 cd) 27 fc) 32 op) 30 fw) 31 ws) 24 fh) 26 fn) 2 a2) 4 en2) 5 bd2) 6 bp2) 2 n_7) 5 n_16) 6 n_17) 32 n_18) 30 f_19) 31 n_20)) := hD
                  replace hw : (n_16.toInt ≠ 0 ∧ n_20 = (ws) ∧ f_19 = (fw) ∧ n_18 = (op)) ∨ (n_16 = (bd2) ∧ n_18.toInt = (op).toInt + 1 ∧ n_18.toInt ≤ 8 ∧ n_20.toInt = (ws).toInt + 1 ∧ f_19 = upd (fw) (ws).toInt.toNat wh) := hw
                  rcases hw with ⟨hq1, hq2, hq3, hq4⟩ | ⟨hq1, hq2, hq3, hq4, hq5⟩
                  · have hq9 : n_20.toInt = ws.toInt := by rw [hq2]
                    have hq8 : n_18.toInt = op.toInt := by rw [hq4]
                    refine lv_aload_n hx hb dX12_onePart_161 rfl (lv_at hl 3 rfl) ?_
                    refine lv_bipush (v := 40) hx hb dX12_onePart_162 (by decide) ?_
                    refine x_callvW (va_runV (As := [.int 40]) (rest := []) ⟨hx, hb, hml, hown, hts⟩ (q_asksSign l D y H.size ad zw (sI (tI (sI (sI (sI (sI (sI (sI (sI (sI (tI (tI (sI (tI (sI (tI (sI (sI σ 23 np) 29 cd) 27 fc) 32 op) 30 fw) 31 ws) 24 fh) 26 fn) 2 a2) 4 en2) 5 bd2) 6 bp2) 2 n_7) 5 n_16) 6 n_17) 32 n_18) 30 f_19) 31 n_20) 40 (by first | omega | decide) (show 0 ≤ (n_7).toInt from by first | omega | decide) (show (n_7).toInt ≤ ((σ.1 3)).toInt from by first | omega | decide) (show ((σ.1 3)).toInt ≤ 700 from by first | omega | decide)) (cwV 1 hts g_q_onePart_1 rfl rfl rfl (by decide +kernel) ⟨Nat.le_of_ble_eq_true rfl, Nat.le_of_ble_eq_true rfl⟩) (x_preV (q := (RX12, TX12, 85)) hK hP hD (ci := 11) (q0 := 0) rfl mwd_o0) rfl rfl hl.1 rfl (lv_room (Nat.le_of_ble_eq_true rfl)) dX12_onePart_164 ⟨Nat.le_of_ble_eq_true rfl, Nat.le_of_ble_eq_true rfl⟩) hP hD hS hA (fun u H locs hw hP hD hS => ?_)
                    obtain ⟨n_21, n_22, n_23⟩ := u
                    try dsimp only at hw
                    have hP : va_P D vwCl (mwd y ad zw (sI (sI (sI (sI (tI (sI (sI (sI (sI (sI (sI (sI (sI (tI (tI (sI (tI (sI (tI (sI (sI σ 23 np) 29 cd) 27 fc) 32 op) 30 fw) 31 ws) 24 fh) 26 fn) 2 a2) 4 en2) 5 bd2) 6 bp2) 2 n_7) 5 n_16) 6 n_17) 32 n_18) 30 f_19) 31 n_20) 2 n_21) 5 n_22) 6 n_23)) H := hP
                    have hD : va_D A (mwd y ad zw (sI (sI (sI (sI (tI (sI (sI (sI (sI (sI (sI (sI (sI (tI (tI (sI (tI (sI (tI (sI (sI σ 23 np) 29 cd) 27 fc) 32 op) 30 fw) 31 ws) 24 fh) 26 fn) 2 a2) 4 en2) 5 bd2) 6 bp2) 2 n_7) 5 n_16) 6 n_17) 32 n_18) 30 f_19) 31 n_20) 2 n_21) 5 n_22) 6 n_23)) := hD
                    replace hw : (n_7).toInt ≤ n_21.toInt ∧ n_21.toInt ≤ ((σ.1 3)).toInt ∧ (n_22.toInt = 0 → (n_16).toInt = 0 ∧ (n_7).toInt + 1 ≤ n_21.toInt) := hw
                    have hbz : n_22.toInt ≠ 0 := fun h9 => absurd (hw.2.2 h9).1 (by omega)
                    replace hw := And.intro hw.1 hw.2.1
                    refine lv_goto (tgt := 229) hx hb dX12_onePart_167 (by decide) ?_
                    refine lv_goto (tgt := 2) hx hb dX12_onePart_229 (by decide) ?_
                    refine lv_iload_n hx hb dX12_onePart_2 rfl (lv_at hl 2 rfl) ?_
                    refine lv_if_eq (tgt := 232) hx hb dX12_onePart_3 (by decide) (fun c_24 => ?_) (fun c_24 => ?_)
                    · have kc_24 : mo.toInt = 0 := by have h9 := c_24; simp only [ge_iff_le, gt_iff_lt, x_lt, x_le, x_eq, ne_eq, Int32.not_lt, Int32.not_le] at h9; simp only [Int32.reduceToInt] at h9; omega
                      have hP : va_P D vwCl (mwd y ad zw (tI (tI (sI (tI (sI (tI (sI (sI (sI (sI (sI (sI σ 2 n_21) 4 en2) 5 n_22) 6 n_23) 23 np) 29 cd) 27 fc) 32 n_18) 30 f_19) 31 n_20) 24 fh) 26 fn)) H := hP
                      have hD : va_D A (mwd y ad zw (tI (tI (sI (tI (sI (tI (sI (sI (sI (sI (sI (sI σ 2 n_21) 4 en2) 5 n_22) 6 n_23) 23 np) 29 cd) 27 fc) 32 n_18) 30 f_19) 31 n_20) 24 fh) 26 fn)) := hD
                      exact x_vretW (u := (n_21, en2, n_22, n_23, np, cd, fc, n_18, f_19, n_20, fh, fn)) hx hb hr hQ (by (try dsimp only); exact ⟨⟨by omega, by omega, by omega, by omega, by omega, by omega, by omega, hh, by omega, by omega, fun h9 => absurd h9 (by omega)⟩, hfn⟩) hP hD hK hS dX12_onePart_232 hlocks
                    · have kc_24 : mo.toInt ≠ 0 := by have h9 := c_24; simp only [ge_iff_le, gt_iff_lt, x_lt, x_le, x_eq, ne_eq, Int32.not_lt, Int32.not_le] at h9; simp only [Int32.reduceToInt] at h9; omega
                      refine lv_aload_n hx hb dX12_onePart_6 rfl (lv_at hl 3 rfl) ?_
                      refine va_get (D := D) (ci := 11) (v := .int n_22) (C := RX12) (T := TX12) (N := 85) hx hb hts inX12 hown hK hP 0 mwd_o0 rfl 5 (by decide) fl191 (fun _ h9 => h9) rfl dX12_onePart_7 ?_
                      refine lv_if_ne (tgt := 232) hx hb dX12_onePart_10 (by decide) (fun c_25 => ?_) (fun c_25 => ?_)
                      · have kc_25 : n_22.toInt ≠ 0 := by have h9 := c_25; simp only [ge_iff_le, gt_iff_lt, x_lt, x_le, x_eq, ne_eq, Int32.not_lt, Int32.not_le] at h9; simp only [Int32.reduceToInt] at h9; omega
                        have hP : va_P D vwCl (mwd y ad zw (tI (tI (sI (tI (sI (tI (sI (sI (sI (sI (sI (sI σ 2 n_21) 4 en2) 5 n_22) 6 n_23) 23 np) 29 cd) 27 fc) 32 n_18) 30 f_19) 31 n_20) 24 fh) 26 fn)) H := hP
                        have hD : va_D A (mwd y ad zw (tI (tI (sI (tI (sI (tI (sI (sI (sI (sI (sI (sI σ 2 n_21) 4 en2) 5 n_22) 6 n_23) 23 np) 29 cd) 27 fc) 32 n_18) 30 f_19) 31 n_20) 24 fh) 26 fn)) := hD
                        exact x_vretW (u := (n_21, en2, n_22, n_23, np, cd, fc, n_18, f_19, n_20, fh, fn)) hx hb hr hQ (by (try dsimp only); exact ⟨⟨by omega, by omega, by omega, by omega, by omega, by omega, by omega, hh, by omega, by omega, fun h9 => absurd h9 (by omega)⟩, hfn⟩) hP hD hK hS dX12_onePart_232 hlocks
                      · have kc_25 : n_22.toInt = 0 := by have h9 := c_25; simp only [ge_iff_le, gt_iff_lt, x_lt, x_le, x_eq, ne_eq, Int32.not_lt, Int32.not_le] at h9; simp only [Int32.reduceToInt] at h9; omega
                        exfalso
                        omega
                  · have hq7 : n_16.toInt = bd2.toInt := by rw [hq1]
                    have hes9 : ES f0 fc w0 f_19 c0 cd.toInt.toNat b n_20.toInt.toNat 0 (1000 + (fh 4).toInt) n_18.toInt o0 := by rw [hq5, show n_20.toInt.toNat = ws.toInt.toNat + 1 by omega]; exact ES_open hes0 ⟨by omega, by omega, by omega, by omega⟩ hq2
                    refine lv_aload_n hx hb dX12_onePart_161 rfl (lv_at hl 3 rfl) ?_
                    refine lv_bipush (v := 40) hx hb dX12_onePart_162 (by decide) ?_
                    refine x_callvW (va_runV (As := [.int 40]) (rest := []) ⟨hx, hb, hml, hown, hts⟩ (q_asksSign l D y H.size ad zw (sI (tI (sI (sI (sI (sI (sI (sI (sI (sI (tI (tI (sI (tI (sI (tI (sI (sI σ 23 np) 29 cd) 27 fc) 32 op) 30 fw) 31 ws) 24 fh) 26 fn) 2 a2) 4 en2) 5 bd2) 6 bp2) 2 n_7) 5 n_16) 6 n_17) 32 n_18) 30 f_19) 31 n_20) 40 (by first | omega | decide) (show 0 ≤ (n_7).toInt from by first | omega | decide) (show (n_7).toInt ≤ ((σ.1 3)).toInt from by first | omega | decide) (show ((σ.1 3)).toInt ≤ 700 from by first | omega | decide)) (cwV 1 hts g_q_onePart_1 rfl rfl rfl (by decide +kernel) ⟨Nat.le_of_ble_eq_true rfl, Nat.le_of_ble_eq_true rfl⟩) (x_preV (q := (RX12, TX12, 85)) hK hP hD (ci := 11) (q0 := 0) rfl mwd_o0) rfl rfl hl.1 rfl (lv_room (Nat.le_of_ble_eq_true rfl)) dX12_onePart_164 ⟨Nat.le_of_ble_eq_true rfl, Nat.le_of_ble_eq_true rfl⟩) hP hD hS hA (fun u H locs hw hP hD hS => ?_)
                    obtain ⟨n_26, n_27, n_28⟩ := u
                    try dsimp only at hw
                    have hP : va_P D vwCl (mwd y ad zw (sI (sI (sI (sI (tI (sI (sI (sI (sI (sI (sI (sI (sI (tI (tI (sI (tI (sI (tI (sI (sI σ 23 np) 29 cd) 27 fc) 32 op) 30 fw) 31 ws) 24 fh) 26 fn) 2 a2) 4 en2) 5 bd2) 6 bp2) 2 n_7) 5 n_16) 6 n_17) 32 n_18) 30 f_19) 31 n_20) 2 n_26) 5 n_27) 6 n_28)) H := hP
                    have hD : va_D A (mwd y ad zw (sI (sI (sI (sI (tI (sI (sI (sI (sI (sI (sI (sI (sI (tI (tI (sI (tI (sI (tI (sI (sI σ 23 np) 29 cd) 27 fc) 32 op) 30 fw) 31 ws) 24 fh) 26 fn) 2 a2) 4 en2) 5 bd2) 6 bp2) 2 n_7) 5 n_16) 6 n_17) 32 n_18) 30 f_19) 31 n_20) 2 n_26) 5 n_27) 6 n_28)) := hD
                    replace hw : (n_7).toInt ≤ n_26.toInt ∧ n_26.toInt ≤ ((σ.1 3)).toInt ∧ (n_27.toInt = 0 → (n_16).toInt = 0 ∧ (n_7).toInt + 1 ≤ n_26.toInt) := hw
                    rcases Classical.em (n_27.toInt = 0) with hbz | hbz
                    · have hsp := hw.2.2 hbz
                      replace hw := And.intro hw.1 hw.2.1
                      refine lv_goto (tgt := 229) hx hb dX12_onePart_167 (by decide) ?_
                      refine lv_goto (tgt := 2) hx hb dX12_onePart_229 (by decide) ?_
                      have hP : va_P D vwCl (mwd y ad zw (tI (tI (sI (tI (sI (tI (sI (sI (sI (sI (sI (sI σ 2 n_26) 4 en2) 5 n_27) 6 n_28) 23 np) 29 cd) 27 fc) 32 n_18) 30 f_19) 31 n_20) 24 fh) 26 fn)) H := hP
                      have hD : va_D A (mwd y ad zw (tI (tI (sI (tI (sI (tI (sI (sI (sI (sI (sI (sI σ 2 n_26) 4 en2) 5 n_27) 6 n_28) 23 np) 29 cd) 27 fc) 32 n_18) 30 f_19) 31 n_20) 24 fh) 26 fn)) := hD
                      exact ih_loop mo n_26 en2 n_27 n_28 np cd fc n_18 f_19 n_20 fh fn H locs ls (by omega) (by omega) (by omega) (by omega) (by omega) (by omega) ⟨by omega, by omega, by omega, by omega⟩ (by omega) hh ⟨by omega, by omega⟩ ⟨fun _ => hes9, fun h8 => absurd h8 (by omega)⟩ hfn (by omega) hP hD hS (lv_sub hl [2, 3] rfl)
                    · replace hw := And.intro hw.1 hw.2.1
                      refine lv_goto (tgt := 229) hx hb dX12_onePart_167 (by decide) ?_
                      refine lv_goto (tgt := 2) hx hb dX12_onePart_229 (by decide) ?_
                      refine lv_iload_n hx hb dX12_onePart_2 rfl (lv_at hl 2 rfl) ?_
                      refine lv_if_eq (tgt := 232) hx hb dX12_onePart_3 (by decide) (fun c_29 => ?_) (fun c_29 => ?_)
                      · have kc_29 : mo.toInt = 0 := by have h9 := c_29; simp only [ge_iff_le, gt_iff_lt, x_lt, x_le, x_eq, ne_eq, Int32.not_lt, Int32.not_le] at h9; simp only [Int32.reduceToInt] at h9; omega
                        have hP : va_P D vwCl (mwd y ad zw (tI (tI (sI (tI (sI (tI (sI (sI (sI (sI (sI (sI σ 2 n_26) 4 en2) 5 n_27) 6 n_28) 23 np) 29 cd) 27 fc) 32 n_18) 30 f_19) 31 n_20) 24 fh) 26 fn)) H := hP
                        have hD : va_D A (mwd y ad zw (tI (tI (sI (tI (sI (tI (sI (sI (sI (sI (sI (sI σ 2 n_26) 4 en2) 5 n_27) 6 n_28) 23 np) 29 cd) 27 fc) 32 n_18) 30 f_19) 31 n_20) 24 fh) 26 fn)) := hD
                        exact x_vretW (u := (n_26, en2, n_27, n_28, np, cd, fc, n_18, f_19, n_20, fh, fn)) hx hb hr hQ (by (try dsimp only); exact ⟨⟨by omega, by omega, by omega, by omega, by omega, by omega, by omega, hh, by omega, by omega, fun h9 => absurd h9 (by omega)⟩, hfn⟩) hP hD hK hS dX12_onePart_232 hlocks
                      · have kc_29 : mo.toInt ≠ 0 := by have h9 := c_29; simp only [ge_iff_le, gt_iff_lt, x_lt, x_le, x_eq, ne_eq, Int32.not_lt, Int32.not_le] at h9; simp only [Int32.reduceToInt] at h9; omega
                        refine lv_aload_n hx hb dX12_onePart_6 rfl (lv_at hl 3 rfl) ?_
                        refine va_get (D := D) (ci := 11) (v := .int n_27) (C := RX12) (T := TX12) (N := 85) hx hb hts inX12 hown hK hP 0 mwd_o0 rfl 5 (by decide) fl191 (fun _ h9 => h9) rfl dX12_onePart_7 ?_
                        refine lv_if_ne (tgt := 232) hx hb dX12_onePart_10 (by decide) (fun c_30 => ?_) (fun c_30 => ?_)
                        · have kc_30 : n_27.toInt ≠ 0 := by have h9 := c_30; simp only [ge_iff_le, gt_iff_lt, x_lt, x_le, x_eq, ne_eq, Int32.not_lt, Int32.not_le] at h9; simp only [Int32.reduceToInt] at h9; omega
                          have hP : va_P D vwCl (mwd y ad zw (tI (tI (sI (tI (sI (tI (sI (sI (sI (sI (sI (sI σ 2 n_26) 4 en2) 5 n_27) 6 n_28) 23 np) 29 cd) 27 fc) 32 n_18) 30 f_19) 31 n_20) 24 fh) 26 fn)) H := hP
                          have hD : va_D A (mwd y ad zw (tI (tI (sI (tI (sI (tI (sI (sI (sI (sI (sI (sI σ 2 n_26) 4 en2) 5 n_27) 6 n_28) 23 np) 29 cd) 27 fc) 32 n_18) 30 f_19) 31 n_20) 24 fh) 26 fn)) := hD
                          exact x_vretW (u := (n_26, en2, n_27, n_28, np, cd, fc, n_18, f_19, n_20, fh, fn)) hx hb hr hQ (by (try dsimp only); exact ⟨⟨by omega, by omega, by omega, by omega, by omega, by omega, by omega, hh, by omega, by omega, fun h9 => absurd h9 (by omega)⟩, hfn⟩) hP hD hK hS dX12_onePart_232 hlocks
                        · have kc_30 : n_27.toInt = 0 := by have h9 := c_30; simp only [ge_iff_le, gt_iff_lt, x_lt, x_le, x_eq, ne_eq, Int32.not_lt, Int32.not_le] at h9; simp only [Int32.reduceToInt] at h9; omega
                          exfalso
                          omega
            have cut80 : ∀ (a1 : Int32) (H : Heap) (locs : List Loc) (ls : Array Slot), (a.toInt ≤ a1.toInt) → (a1.toInt ≤ (σ.1 3).toInt) → va_P D vwCl (mwd y ad zw (sI (tI (tI (sI (tI (sI (tI (sI (sI (sI (sI (sI σ 4 en) 5 bd) 6 bp) 23 np) 29 cd) 27 fc) 32 op) 30 fw) 31 ws) 24 fh) 26 fn) 2 a1)) H → va_D A (mwd y ad zw (sI (tI (tI (sI (tI (sI (tI (sI (sI (sI (sI (sI σ 4 en) 5 bd) 6 bp) 23 np) 29 cd) 27 fc) 32 op) 30 fw) 31 ws) 24 fh) 26 fn) 2 a1)) → va_S A s.heap H locs → lv_has ls 5 [(1, .int mo), (0, .ref (ad 1))] → W p l e ({ frames := 6, cells := 0, slots := 0, locals := 130 } : Room) s m ([.ref (ad 1)] : List Value).toArray below meth c H locs 0 0 Q (F0 m 80 ls []) := by
              intro a1 H locs ls hd1 hd2 hP hD hS hl
              refine lv_aload_n hx hb dX12_onePart_80 rfl (lv_at hl 1 rfl) ?_
              refine lv_aload_n hx hb dX12_onePart_81 rfl (lv_at hl 1 rfl) ?_
              refine va_get (D := D) (ci := 11) (v := .ref (ad 21)) (C := RX12) (T := TX12) (N := 85) hx hb hts inX12 hown hK hP 0 mwd_o0 rfl 21 (by decide) fl54 (fun _ h9 => h9) rfl dX12_onePart_82 ?_
              refine x_calliW (va_runV (As := [.ref (ad 21)]) (rest := []) ⟨hx, hb, hml, hown, hts⟩ (q_takes l D y H.size ad zw (sI (tI (tI (sI (tI (sI (tI (sI (sI (sI (sI (sI σ 4 en) 5 bd) 6 bp) 23 np) 29 cd) 27 fc) 32 op) 30 fw) 31 ws) 24 fh) 26 fn) 2 a1) (ad 21) 3 14 (zw 21) (fun _ => rfl) (by decide) (by decide) (show 0 ≤ (a1).toInt from by first | omega | decide) (show (a1).toInt ≤ ((σ.1 3)).toInt from by first | omega | decide) (show ((σ.1 3)).toInt ≤ 700 from by first | omega | decide)) (cwV 1 hts g_q_onePart_3 rfl rfl rfl (by decide +kernel) ⟨Nat.le_of_ble_eq_true rfl, Nat.le_of_ble_eq_true rfl⟩) (x_preV (q := (RX12, TX12, 85)) hK hP hD (ci := 11) (q0 := 0) rfl mwd_o0) rfl rfl hl.1 rfl (lv_room (Nat.le_of_ble_eq_true rfl)) dX12_onePart_85 ⟨Nat.le_of_ble_eq_true rfl, Nat.le_of_ble_eq_true rfl⟩) hP hD hS hA (fun r_31 u H locs hw hP hD hS => ?_)
              obtain ⟨n_32, n_33⟩ := u
              try dsimp only at hw
              have hP : va_P D vwCl (mwd y ad zw (sI (sI (sI (tI (tI (sI (tI (sI (tI (sI (sI (sI (sI (sI σ 4 en) 5 bd) 6 bp) 23 np) 29 cd) 27 fc) 32 op) 30 fw) 31 ws) 24 fh) 26 fn) 2 a1) 2 n_32) 4 n_33)) H := hP
              have hD : va_D A (mwd y ad zw (sI (sI (sI (tI (tI (sI (tI (sI (tI (sI (sI (sI (sI (sI σ 4 en) 5 bd) 6 bp) 23 np) 29 cd) 27 fc) 32 op) 30 fw) 31 ws) 24 fh) 26 fn) 2 a1) 2 n_32) 4 n_33)) := hD
              replace hw : (a1).toInt ≤ n_32.toInt ∧ n_32.toInt ≤ ((σ.1 3)).toInt ∧ ((r_31.toInt = 0 ∧ n_33 = (en)) ∨ (r_31.toInt = 1 ∧ (bd).toInt = 0 ∧ (a1).toInt + 3 ≤ n_32.toInt)) := hw
              rcases hw with ⟨ht1, ht2, ⟨ht3, ht4⟩ | ⟨ht3, ht4, ht5⟩⟩
              · skip
                refine lv_if_eq (tgt := 96) hx hb dX12_onePart_88 (by decide) (fun c_34 => ?_) (fun c_34 => ?_)
                · have kc_34 : r_31.toInt = 0 := by have h9 := c_34; simp only [ge_iff_le, gt_iff_lt, x_lt, x_le, x_eq, ne_eq, Int32.not_lt, Int32.not_le] at h9; simp only [Int32.reduceToInt] at h9; omega
                  refine lv_aload_n hx hb dX12_onePart_96 rfl (lv_at hl 1 rfl) ?_
                  refine lv_aload_n hx hb dX12_onePart_97 rfl (lv_at hl 1 rfl) ?_
                  refine va_get (D := D) (ci := 11) (v := .ref (ad 22)) (C := RX12) (T := TX12) (N := 85) hx hb hts inX12 hown hK hP 0 mwd_o0 rfl 22 (by decide) fl57 (fun _ h9 => h9) rfl dX12_onePart_98 ?_
                  refine x_calliW (va_runV (As := [.ref (ad 22)]) (rest := []) ⟨hx, hb, hml, hown, hts⟩ (q_takes l D y H.size ad zw (sI (sI (sI (tI (tI (sI (tI (sI (tI (sI (sI (sI (sI (sI σ 4 en) 5 bd) 6 bp) 23 np) 29 cd) 27 fc) 32 op) 30 fw) 31 ws) 24 fh) 26 fn) 2 a1) 2 n_32) 4 n_33) (ad 22) 3 15 (zw 22) (fun _ => rfl) (by decide) (by decide) (show 0 ≤ (n_32).toInt from by first | omega | decide) (show (n_32).toInt ≤ ((σ.1 3)).toInt from by first | omega | decide) (show ((σ.1 3)).toInt ≤ 700 from by first | omega | decide)) (cwV 1 hts g_q_onePart_3 rfl rfl rfl (by decide +kernel) ⟨Nat.le_of_ble_eq_true rfl, Nat.le_of_ble_eq_true rfl⟩) (x_preV (q := (RX12, TX12, 85)) hK hP hD (ci := 11) (q0 := 0) rfl mwd_o0) rfl rfl hl.1 rfl (lv_room (Nat.le_of_ble_eq_true rfl)) dX12_onePart_101 ⟨Nat.le_of_ble_eq_true rfl, Nat.le_of_ble_eq_true rfl⟩) hP hD hS hA (fun r_35 u H locs hw hP hD hS => ?_)
                  obtain ⟨n_36, n_37⟩ := u
                  try dsimp only at hw
                  have hP : va_P D vwCl (mwd y ad zw (sI (sI (sI (sI (sI (tI (tI (sI (tI (sI (tI (sI (sI (sI (sI (sI σ 4 en) 5 bd) 6 bp) 23 np) 29 cd) 27 fc) 32 op) 30 fw) 31 ws) 24 fh) 26 fn) 2 a1) 2 n_32) 4 n_33) 2 n_36) 4 n_37)) H := hP
                  have hD : va_D A (mwd y ad zw (sI (sI (sI (sI (sI (tI (tI (sI (tI (sI (tI (sI (sI (sI (sI (sI σ 4 en) 5 bd) 6 bp) 23 np) 29 cd) 27 fc) 32 op) 30 fw) 31 ws) 24 fh) 26 fn) 2 a1) 2 n_32) 4 n_33) 2 n_36) 4 n_37)) := hD
                  replace hw : (n_32).toInt ≤ n_36.toInt ∧ n_36.toInt ≤ ((σ.1 3)).toInt ∧ ((r_35.toInt = 0 ∧ n_37 = (n_33)) ∨ (r_35.toInt = 1 ∧ (bd).toInt = 0 ∧ (n_32).toInt + 3 ≤ n_36.toInt)) := hw
                  rcases hw with ⟨ht1, ht2, ⟨ht3, ht4⟩ | ⟨ht3, ht4, ht5⟩⟩
                  · skip
                    refine lv_if_eq (tgt := 112) hx hb dX12_onePart_104 (by decide) (fun c_38 => ?_) (fun c_38 => ?_)
                    · have kc_38 : r_35.toInt = 0 := by have h9 := c_38; simp only [ge_iff_le, gt_iff_lt, x_lt, x_le, x_eq, ne_eq, Int32.not_lt, Int32.not_le] at h9; simp only [Int32.reduceToInt] at h9; omega
                      refine lv_bipush (v := 25) hx hb dX12_onePart_112 (by decide) ?_
                      refine lv_istore_n (lv' := [(3, .int 25), (1, .int mo), (0, .ref (ad 1))]) hx hb dX12_onePart_114 rfl hl (by decide) rfl (fun ls hl => ?_)
                      refine lv_iload_n hx hb dX12_onePart_115 rfl (lv_at hl 0 rfl) ?_
                      refine lv_bipush (v := 25) hx hb dX12_onePart_116 (by decide) ?_
                      refine lv_icmp_ne (tgt := 129) hx hb dX12_onePart_118 (by decide) (fun c_39 => ?_) (fun c_39 => ?_)
                      · exact absurd (by decide) c_39
                      · refine lv_aload_n hx hb dX12_onePart_121 rfl (lv_at hl 2 rfl) ?_
                        refine lv_aload_n hx hb dX12_onePart_122 rfl (lv_at hl 2 rfl) ?_
                        refine va_get (D := D) (ci := 11) (v := .ref (ad 20)) (C := RX12) (T := TX12) (N := 85) hx hb hts inX12 hown hK hP 0 mwd_o0 rfl 20 (by decide) fl51 (fun _ h9 => h9) rfl dX12_onePart_123 ?_
                        refine x_callvW (va_runV (As := [.ref (ad 20)]) (rest := []) ⟨hx, hb, hml, hown, hts⟩ (q_asks l D y H.size ad zw (sI (sI (sI (sI (sI (tI (tI (sI (tI (sI (tI (sI (sI (sI (sI (sI σ 4 en) 5 bd) 6 bp) 23 np) 29 cd) 27 fc) 32 op) 30 fw) 31 ws) 24 fh) 26 fn) 2 a1) 2 n_32) 4 n_33) 2 n_36) 4 n_37) (ad 20) 3 13 (zw 20) (fun _ => rfl) (by decide) (by decide) (show 0 ≤ (n_36).toInt from by first | omega | decide) (show (n_36).toInt ≤ ((σ.1 3)).toInt from by first | omega | decide) (show ((σ.1 3)).toInt ≤ 700 from by first | omega | decide)) (cwV 1 hts g_q_onePart_4 rfl rfl rfl (by decide +kernel) ⟨Nat.le_of_ble_eq_true rfl, Nat.le_of_ble_eq_true rfl⟩) (x_preV (q := (RX12, TX12, 85)) hK hP hD (ci := 11) (q0 := 0) rfl mwd_o0) rfl rfl hl.1 rfl (lv_room (Nat.le_of_ble_eq_true rfl)) dX12_onePart_126 ⟨Nat.le_of_ble_eq_true rfl, Nat.le_of_ble_eq_true rfl⟩) hP hD hS hA (fun u H locs hw hP hD hS => ?_)
                        obtain ⟨n_40, n_41, n_42, n_43⟩ := u
                        try dsimp only at hw
                        have hP : va_P D vwCl (mwd y ad zw (sI (sI (sI (sI (sI (sI (sI (sI (sI (tI (tI (sI (tI (sI (tI (sI (sI (sI (sI (sI σ 4 en) 5 bd) 6 bp) 23 np) 29 cd) 27 fc) 32 op) 30 fw) 31 ws) 24 fh) 26 fn) 2 a1) 2 n_32) 4 n_33) 2 n_36) 4 n_37) 2 n_40) 4 n_41) 5 n_42) 6 n_43)) H := hP
                        have hD : va_D A (mwd y ad zw (sI (sI (sI (sI (sI (sI (sI (sI (sI (tI (tI (sI (tI (sI (tI (sI (sI (sI (sI (sI σ 4 en) 5 bd) 6 bp) 23 np) 29 cd) 27 fc) 32 op) 30 fw) 31 ws) 24 fh) 26 fn) 2 a1) 2 n_32) 4 n_33) 2 n_36) 4 n_37) 2 n_40) 4 n_41) 5 n_42) 6 n_43)) := hD
                        replace hw : (n_36).toInt ≤ n_40.toInt ∧ n_40.toInt ≤ ((σ.1 3)).toInt ∧ (n_42.toInt = 0 → (bd).toInt = 0 ∧ (n_36).toInt + 3 ≤ n_40.toInt) := hw
                        rcases Classical.em (n_42.toInt = 0) with hbz | hbz
                        · have hsp := hw.2.2 hbz
                          replace hw := And.intro hw.1 hw.2.1
                          have hP : va_P D vwCl (mwd y ad zw (sI (sI (sI (sI (tI (tI (sI (tI (sI (tI (sI (sI σ 23 np) 29 cd) 27 fc) 32 op) 30 fw) 31 ws) 24 fh) 26 fn) 2 n_40) 4 n_41) 5 n_42) 6 n_43)) H := hP
                          have hD : va_D A (mwd y ad zw (sI (sI (sI (sI (tI (tI (sI (tI (sI (tI (sI (sI σ 23 np) 29 cd) 27 fc) 32 op) 30 fw) 31 ws) 24 fh) 26 fn) 2 n_40) 4 n_41) 5 n_42) 6 n_43)) := hD
                          exact cut129 25 n_40 n_41 n_42 n_43 H locs ls (by first | omega | decide) (by omega) (by omega) (by omega) hP hD hS (lv_sub hl [0, 1, 2] rfl)
                        · replace hw := And.intro hw.1 hw.2.1
                          refine lv_aload_n hx hb dX12_onePart_129 rfl (lv_at hl 2 rfl) ?_
                          refine x_calliW (va_runV (As := []) (rest := []) ⟨hx, hb, hml, hown, hts⟩ (q_look2 l D y H.size ad zw (sI (sI (sI (sI (sI (sI (sI (sI (sI (tI (tI (sI (tI (sI (tI (sI (sI (sI (sI (sI σ 4 en) 5 bd) 6 bp) 23 np) 29 cd) 27 fc) 32 op) 30 fw) 31 ws) 24 fh) 26 fn) 2 a1) 2 n_32) 4 n_33) 2 n_36) 4 n_37) 2 n_40) 4 n_41) 5 n_42) 6 n_43) (show 0 ≤ (n_40).toInt from by first | omega | decide) (show (n_40).toInt ≤ ((σ.1 3)).toInt from by first | omega | decide) (show ((σ.1 3)).toInt ≤ 700 from by first | omega | decide)) (cwV 0 hts g_q_onePart_0 rfl rfl rfl (by decide +kernel) ⟨Nat.le_of_ble_eq_true rfl, Nat.le_of_ble_eq_true rfl⟩) (x_preV (q := (RX12, TX12, 85)) hK hP hD (ci := 11) (q0 := 0) rfl mwd_o0) rfl rfl hl.1 rfl (lv_room (Nat.le_of_ble_eq_true rfl)) dX12_onePart_130 ⟨Nat.le_of_ble_eq_true rfl, Nat.le_of_ble_eq_true rfl⟩) hP hD hS hA (fun r_44 u H locs hw hP hD hS => ?_)
                          obtain ⟨n_45, rfl⟩ : ∃ z9, z9 = u := ⟨_, rfl⟩
                          try dsimp only at hw
                          have hP : va_P D vwCl (mwd y ad zw (sI (sI (sI (sI (sI (sI (sI (sI (sI (sI (tI (tI (sI (tI (sI (tI (sI (sI (sI (sI (sI σ 4 en) 5 bd) 6 bp) 23 np) 29 cd) 27 fc) 32 op) 30 fw) 31 ws) 24 fh) 26 fn) 2 a1) 2 n_32) 4 n_33) 2 n_36) 4 n_37) 2 n_40) 4 n_41) 5 n_42) 6 n_43) 2 n_45)) H := hP
                          have hD : va_D A (mwd y ad zw (sI (sI (sI (sI (sI (sI (sI (sI (sI (sI (tI (tI (sI (tI (sI (tI (sI (sI (sI (sI (sI σ 4 en) 5 bd) 6 bp) 23 np) 29 cd) 27 fc) 32 op) 30 fw) 31 ws) 24 fh) 26 fn) 2 a1) 2 n_32) 4 n_33) 2 n_36) 4 n_37) 2 n_40) 4 n_41) 5 n_42) 6 n_43) 2 n_45)) := hD
                          replace hw : (n_40).toInt ≤ n_45.toInt ∧ n_45.toInt ≤ ((σ.1 3)).toInt ∧ (r_44.toInt = -1 ∨ (n_45.toInt < ((σ.1 3)).toInt ∧ r_44 = ((σ.2.2.1 0)) (Int32.toNatClampNeg n_45))) := hw
                          replace hw : n_40.toInt ≤ n_45.toInt ∧ n_45.toInt ≤ (σ.1 3).toInt ∧ (r_44.toInt = -1 ∨ n_45.toInt < (σ.1 3).toInt) := ⟨hw.1, hw.2.1, hw.2.2.imp id And.left⟩
                          have hlk133 := hw
                          refine lv_bipush (v := 40) hx hb dX12_onePart_133 (by decide) ?_
                          refine lv_icmp_ne (tgt := 145) hx hb dX12_onePart_135 (by decide) (fun c_46 => ?_) (fun c_46 => ?_)
                          · have kc_46 : r_44.toInt ≠ 40 := by have h9 := c_46; simp only [ge_iff_le, gt_iff_lt, x_lt, x_le, x_eq, ne_eq, Int32.not_lt, Int32.not_le] at h9; simp only [Int32.reduceToInt] at h9; omega
                            refine lv_iconst (v := (-1)) hx hb dX12_onePart_145 (by decide) ?_
                            refine lv_istore (lv' := [(4, .int (-1)), (3, .int 25), (1, .int mo), (0, .ref (ad 1))]) hx hb dX12_onePart_146 hl (by decide) rfl (fun ls hl => ?_)
                            refine lv_iload hx hb dX12_onePart_148 (lv_at hl 0 rfl) ?_
                            refine lv_iconst (v := (-1)) hx hb dX12_onePart_150 (by decide) ?_
                            refine lv_icmp_eq (tgt := 161) hx hb dX12_onePart_151 (by decide) (fun c_47 => ?_) (fun c_47 => ?_)
                            · refine lv_aload_n hx hb dX12_onePart_161 rfl (lv_at hl 3 rfl) ?_
                              refine lv_bipush (v := 40) hx hb dX12_onePart_162 (by decide) ?_
                              refine x_callvW (va_runV (As := [.int 40]) (rest := []) ⟨hx, hb, hml, hown, hts⟩ (q_asksSign l D y H.size ad zw (sI (sI (sI (sI (sI (sI (sI (sI (sI (sI (tI (tI (sI (tI (sI (tI (sI (sI (sI (sI (sI σ 4 en) 5 bd) 6 bp) 23 np) 29 cd) 27 fc) 32 op) 30 fw) 31 ws) 24 fh) 26 fn) 2 a1) 2 n_32) 4 n_33) 2 n_36) 4 n_37) 2 n_40) 4 n_41) 5 n_42) 6 n_43) 2 n_45) 40 (by first | omega | decide) (show 0 ≤ (n_45).toInt from by first | omega | decide) (show (n_45).toInt ≤ ((σ.1 3)).toInt from by first | omega | decide) (show ((σ.1 3)).toInt ≤ 700 from by first | omega | decide)) (cwV 1 hts g_q_onePart_1 rfl rfl rfl (by decide +kernel) ⟨Nat.le_of_ble_eq_true rfl, Nat.le_of_ble_eq_true rfl⟩) (x_preV (q := (RX12, TX12, 85)) hK hP hD (ci := 11) (q0 := 0) rfl mwd_o0) rfl rfl hl.1 rfl (lv_room (Nat.le_of_ble_eq_true rfl)) dX12_onePart_164 ⟨Nat.le_of_ble_eq_true rfl, Nat.le_of_ble_eq_true rfl⟩) hP hD hS hA (fun u H locs hw hP hD hS => ?_)
                              obtain ⟨n_48, n_49, n_50⟩ := u
                              try dsimp only at hw
                              have hP : va_P D vwCl (mwd y ad zw (sI (sI (sI (sI (sI (sI (sI (sI (sI (sI (sI (sI (sI (tI (tI (sI (tI (sI (tI (sI (sI (sI (sI (sI σ 4 en) 5 bd) 6 bp) 23 np) 29 cd) 27 fc) 32 op) 30 fw) 31 ws) 24 fh) 26 fn) 2 a1) 2 n_32) 4 n_33) 2 n_36) 4 n_37) 2 n_40) 4 n_41) 5 n_42) 6 n_43) 2 n_45) 2 n_48) 5 n_49) 6 n_50)) H := hP
                              have hD : va_D A (mwd y ad zw (sI (sI (sI (sI (sI (sI (sI (sI (sI (sI (sI (sI (sI (tI (tI (sI (tI (sI (tI (sI (sI (sI (sI (sI σ 4 en) 5 bd) 6 bp) 23 np) 29 cd) 27 fc) 32 op) 30 fw) 31 ws) 24 fh) 26 fn) 2 a1) 2 n_32) 4 n_33) 2 n_36) 4 n_37) 2 n_40) 4 n_41) 5 n_42) 6 n_43) 2 n_45) 2 n_48) 5 n_49) 6 n_50)) := hD
                              replace hw : (n_45).toInt ≤ n_48.toInt ∧ n_48.toInt ≤ ((σ.1 3)).toInt ∧ (n_49.toInt = 0 → (n_42).toInt = 0 ∧ (n_45).toInt + 1 ≤ n_48.toInt) := hw
                              have hbz : n_49.toInt ≠ 0 := fun h9 => absurd (hw.2.2 h9).1 (by omega)
                              replace hw := And.intro hw.1 hw.2.1
                              refine lv_goto (tgt := 229) hx hb dX12_onePart_167 (by decide) ?_
                              refine lv_goto (tgt := 2) hx hb dX12_onePart_229 (by decide) ?_
                              refine lv_iload_n hx hb dX12_onePart_2 rfl (lv_at hl 2 rfl) ?_
                              refine lv_if_eq (tgt := 232) hx hb dX12_onePart_3 (by decide) (fun c_51 => ?_) (fun c_51 => ?_)
                              · have kc_51 : mo.toInt = 0 := by have h9 := c_51; simp only [ge_iff_le, gt_iff_lt, x_lt, x_le, x_eq, ne_eq, Int32.not_lt, Int32.not_le] at h9; simp only [Int32.reduceToInt] at h9; omega
                                have hP : va_P D vwCl (mwd y ad zw (tI (tI (sI (tI (sI (tI (sI (sI (sI (sI (sI (sI σ 2 n_48) 4 n_41) 5 n_49) 6 n_50) 23 np) 29 cd) 27 fc) 32 op) 30 fw) 31 ws) 24 fh) 26 fn)) H := hP
                                have hD : va_D A (mwd y ad zw (tI (tI (sI (tI (sI (tI (sI (sI (sI (sI (sI (sI σ 2 n_48) 4 n_41) 5 n_49) 6 n_50) 23 np) 29 cd) 27 fc) 32 op) 30 fw) 31 ws) 24 fh) 26 fn)) := hD
                                exact x_vretW (u := (n_48, n_41, n_49, n_50, np, cd, fc, op, fw, ws, fh, fn)) hx hb hr hQ (by (try dsimp only); exact ⟨⟨by omega, by omega, by omega, by omega, by omega, by omega, by omega, hh, by omega, by omega, fun h9 => absurd h9 (by omega)⟩, hfn⟩) hP hD hK hS dX12_onePart_232 hlocks
                              · have kc_51 : mo.toInt ≠ 0 := by have h9 := c_51; simp only [ge_iff_le, gt_iff_lt, x_lt, x_le, x_eq, ne_eq, Int32.not_lt, Int32.not_le] at h9; simp only [Int32.reduceToInt] at h9; omega
                                refine lv_aload_n hx hb dX12_onePart_6 rfl (lv_at hl 3 rfl) ?_
                                refine va_get (D := D) (ci := 11) (v := .int n_49) (C := RX12) (T := TX12) (N := 85) hx hb hts inX12 hown hK hP 0 mwd_o0 rfl 5 (by decide) fl191 (fun _ h9 => h9) rfl dX12_onePart_7 ?_
                                refine lv_if_ne (tgt := 232) hx hb dX12_onePart_10 (by decide) (fun c_52 => ?_) (fun c_52 => ?_)
                                · have kc_52 : n_49.toInt ≠ 0 := by have h9 := c_52; simp only [ge_iff_le, gt_iff_lt, x_lt, x_le, x_eq, ne_eq, Int32.not_lt, Int32.not_le] at h9; simp only [Int32.reduceToInt] at h9; omega
                                  have hP : va_P D vwCl (mwd y ad zw (tI (tI (sI (tI (sI (tI (sI (sI (sI (sI (sI (sI σ 2 n_48) 4 n_41) 5 n_49) 6 n_50) 23 np) 29 cd) 27 fc) 32 op) 30 fw) 31 ws) 24 fh) 26 fn)) H := hP
                                  have hD : va_D A (mwd y ad zw (tI (tI (sI (tI (sI (tI (sI (sI (sI (sI (sI (sI σ 2 n_48) 4 n_41) 5 n_49) 6 n_50) 23 np) 29 cd) 27 fc) 32 op) 30 fw) 31 ws) 24 fh) 26 fn)) := hD
                                  exact x_vretW (u := (n_48, n_41, n_49, n_50, np, cd, fc, op, fw, ws, fh, fn)) hx hb hr hQ (by (try dsimp only); exact ⟨⟨by omega, by omega, by omega, by omega, by omega, by omega, by omega, hh, by omega, by omega, fun h9 => absurd h9 (by omega)⟩, hfn⟩) hP hD hK hS dX12_onePart_232 hlocks
                                · have kc_52 : n_49.toInt = 0 := by have h9 := c_52; simp only [ge_iff_le, gt_iff_lt, x_lt, x_le, x_eq, ne_eq, Int32.not_lt, Int32.not_le] at h9; simp only [Int32.reduceToInt] at h9; omega
                                  exfalso
                                  omega
                            · exact absurd (by decide) c_47
                          · have kc_46 : r_44.toInt = 40 := by have h9 := c_46; simp only [ge_iff_le, gt_iff_lt, x_lt, x_le, x_eq, ne_eq, Int32.not_lt, Int32.not_le] at h9; simp only [Int32.reduceToInt] at h9; omega
                            refine lv_aload_n hx hb dX12_onePart_138 rfl (lv_at hl 2 rfl) ?_
                            refine va_get (D := D) (ci := 11) (v := .int n_45) (C := RX12) (T := TX12) (N := 85) hx hb hts inX12 hown hK hP 0 mwd_o0 rfl 2 (by decide) fl197 (fun _ h9 => h9) rfl dX12_onePart_139 ?_
                            refine lv_goto (tgt := 146) hx hb dX12_onePart_142 (by decide) ?_
                            refine lv_istore (lv' := [(4, .int n_45), (3, .int 25), (1, .int mo), (0, .ref (ad 1))]) hx hb dX12_onePart_146 hl (by decide) rfl (fun ls hl => ?_)
                            refine lv_iload hx hb dX12_onePart_148 (lv_at hl 0 rfl) ?_
                            refine lv_iconst (v := (-1)) hx hb dX12_onePart_150 (by decide) ?_
                            refine lv_icmp_eq (tgt := 161) hx hb dX12_onePart_151 (by decide) (fun c_53 => ?_) (fun c_53 => ?_)
                            · have kc_53 : n_45.toInt = (-1) := by have h9 := c_53; simp only [ge_iff_le, gt_iff_lt, x_lt, x_le, x_eq, ne_eq, Int32.not_lt, Int32.not_le] at h9; simp only [Int32.reduceToInt] at h9; omega
                              exfalso
                              omega
                            · have kc_53 : n_45.toInt ≠ (-1) := by have h9 := c_53; simp only [ge_iff_le, gt_iff_lt, x_lt, x_le, x_eq, ne_eq, Int32.not_lt, Int32.not_le] at h9; simp only [Int32.reduceToInt] at h9; omega
                              refine lv_aload_n hx hb dX12_onePart_154 rfl (lv_at hl 3 rfl) ?_
                              refine lv_iload_n hx hb dX12_onePart_155 rfl (lv_at hl 1 rfl) ?_
                              refine lv_iload hx hb dX12_onePart_156 (lv_at hl 0 rfl) ?_
                              refine x_callvW (va_runV (As := [.int 25, .int n_45]) (rest := []) ⟨hx, hb, hml, hown, hts⟩ (q_opensOne l D y H.size ad zw (sI (sI (sI (sI (sI (sI (sI (sI (sI (sI (tI (tI (sI (tI (sI (tI (sI (sI (sI (sI (sI σ 4 en) 5 bd) 6 bp) 23 np) 29 cd) 27 fc) 32 op) 30 fw) 31 ws) 24 fh) 26 fn) 2 a1) 2 n_32) 4 n_33) 2 n_36) 4 n_37) 2 n_40) 4 n_41) 5 n_42) 6 n_43) 2 n_45) 25 n_45 (show 0 ≤ (op).toInt from by first | omega | decide) (show (op).toInt ≤ 8 from by first | omega | decide) (show 0 ≤ (ws).toInt from by first | omega | decide) (show (ws).toInt < 800 from by first | omega | decide)) (cwV 2 hts g_q_onePart_2 rfl rfl rfl (by decide +kernel) ⟨Nat.le_of_ble_eq_true rfl, Nat.le_of_ble_eq_true rfl⟩) (x_preV (q := (RX12, TX12, 85)) hK hP hD (ci := 11) (q0 := 0) rfl mwd_o0) rfl rfl hl.1 rfl (lv_room (Nat.le_of_ble_eq_true rfl)) dX12_onePart_158 ⟨Nat.le_of_ble_eq_true rfl, Nat.le_of_ble_eq_true rfl⟩) hP hD hS hA (fun u H locs hw hP hD hS => ?_)
                              obtain ⟨n_54, n_55, n_56, f_57, n_58⟩ := u
                              try dsimp only at hw
                              have hP : va_P D vwCl (mwd y ad zw (sI (tI (sI (sI (sI (sI (sI (sI (sI (sI (sI (sI (sI (sI (sI (tI (tI (sI (tI (sI (tI (sI (sI (sI (sI (sI σ 4 en) 5 bd) 6 bp) 23 np) 29 cd) 27 fc) 32 op) 30 fw) 31 ws) 24 fh) 26 fn) 2 a1) 2 n_32) 4 n_33) 2 n_36) 4 n_37) 2 n_40) 4 n_41) 5 n_42) 6 n_43) 2 n_45) 5 n_54) 6 n_55) 32 n_56) 30 f_57) 31 n_58)) H := hP
                              have hD : va_D A (mwd y ad zw (sI (tI (sI (sI (sI (sI (sI (sI (sI (sI (sI (sI (sI (sI (sI (tI (tI (sI (tI (sI (tI (sI (sI (sI (sI (sI σ 4 en) 5 bd) 6 bp) 23 np) 29 cd) 27 fc) 32 op) 30 fw) 31 ws) 24 fh) 26 fn) 2 a1) 2 n_32) 4 n_33) 2 n_36) 4 n_37) 2 n_40) 4 n_41) 5 n_42) 6 n_43) 2 n_45) 5 n_54) 6 n_55) 32 n_56) 30 f_57) 31 n_58)) := hD
                              replace hw : (n_54.toInt ≠ 0 ∧ n_58 = (ws) ∧ f_57 = (fw) ∧ n_56 = (op)) ∨ (n_54 = (n_42) ∧ n_56.toInt = (op).toInt + 1 ∧ n_56.toInt ≤ 8 ∧ n_58.toInt = (ws).toInt + 1 ∧ f_57 = upd (fw) (ws).toInt.toNat (25 : Int32)) := hw
                              rcases hw with ⟨hq1, hq2, hq3, hq4⟩ | ⟨hq1, hq2, hq3, hq4, hq5⟩
                              · have hq9 : n_58.toInt = ws.toInt := by rw [hq2]
                                have hq8 : n_56.toInt = op.toInt := by rw [hq4]
                                refine lv_aload_n hx hb dX12_onePart_161 rfl (lv_at hl 3 rfl) ?_
                                refine lv_bipush (v := 40) hx hb dX12_onePart_162 (by decide) ?_
                                refine x_callvW (va_runV (As := [.int 40]) (rest := []) ⟨hx, hb, hml, hown, hts⟩ (q_asksSign l D y H.size ad zw (sI (tI (sI (sI (sI (sI (sI (sI (sI (sI (sI (sI (sI (sI (sI (tI (tI (sI (tI (sI (tI (sI (sI (sI (sI (sI σ 4 en) 5 bd) 6 bp) 23 np) 29 cd) 27 fc) 32 op) 30 fw) 31 ws) 24 fh) 26 fn) 2 a1) 2 n_32) 4 n_33) 2 n_36) 4 n_37) 2 n_40) 4 n_41) 5 n_42) 6 n_43) 2 n_45) 5 n_54) 6 n_55) 32 n_56) 30 f_57) 31 n_58) 40 (by first | omega | decide) (show 0 ≤ (n_45).toInt from by first | omega | decide) (show (n_45).toInt ≤ ((σ.1 3)).toInt from by first | omega | decide) (show ((σ.1 3)).toInt ≤ 700 from by first | omega | decide)) (cwV 1 hts g_q_onePart_1 rfl rfl rfl (by decide +kernel) ⟨Nat.le_of_ble_eq_true rfl, Nat.le_of_ble_eq_true rfl⟩) (x_preV (q := (RX12, TX12, 85)) hK hP hD (ci := 11) (q0 := 0) rfl mwd_o0) rfl rfl hl.1 rfl (lv_room (Nat.le_of_ble_eq_true rfl)) dX12_onePart_164 ⟨Nat.le_of_ble_eq_true rfl, Nat.le_of_ble_eq_true rfl⟩) hP hD hS hA (fun u H locs hw hP hD hS => ?_)
                                obtain ⟨n_59, n_60, n_61⟩ := u
                                try dsimp only at hw
                                have hP : va_P D vwCl (mwd y ad zw (sI (sI (sI (sI (tI (sI (sI (sI (sI (sI (sI (sI (sI (sI (sI (sI (sI (sI (tI (tI (sI (tI (sI (tI (sI (sI (sI (sI (sI σ 4 en) 5 bd) 6 bp) 23 np) 29 cd) 27 fc) 32 op) 30 fw) 31 ws) 24 fh) 26 fn) 2 a1) 2 n_32) 4 n_33) 2 n_36) 4 n_37) 2 n_40) 4 n_41) 5 n_42) 6 n_43) 2 n_45) 5 n_54) 6 n_55) 32 n_56) 30 f_57) 31 n_58) 2 n_59) 5 n_60) 6 n_61)) H := hP
                                have hD : va_D A (mwd y ad zw (sI (sI (sI (sI (tI (sI (sI (sI (sI (sI (sI (sI (sI (sI (sI (sI (sI (sI (tI (tI (sI (tI (sI (tI (sI (sI (sI (sI (sI σ 4 en) 5 bd) 6 bp) 23 np) 29 cd) 27 fc) 32 op) 30 fw) 31 ws) 24 fh) 26 fn) 2 a1) 2 n_32) 4 n_33) 2 n_36) 4 n_37) 2 n_40) 4 n_41) 5 n_42) 6 n_43) 2 n_45) 5 n_54) 6 n_55) 32 n_56) 30 f_57) 31 n_58) 2 n_59) 5 n_60) 6 n_61)) := hD
                                replace hw : (n_45).toInt ≤ n_59.toInt ∧ n_59.toInt ≤ ((σ.1 3)).toInt ∧ (n_60.toInt = 0 → (n_54).toInt = 0 ∧ (n_45).toInt + 1 ≤ n_59.toInt) := hw
                                have hbz : n_60.toInt ≠ 0 := fun h9 => absurd (hw.2.2 h9).1 (by omega)
                                replace hw := And.intro hw.1 hw.2.1
                                refine lv_goto (tgt := 229) hx hb dX12_onePart_167 (by decide) ?_
                                refine lv_goto (tgt := 2) hx hb dX12_onePart_229 (by decide) ?_
                                refine lv_iload_n hx hb dX12_onePart_2 rfl (lv_at hl 2 rfl) ?_
                                refine lv_if_eq (tgt := 232) hx hb dX12_onePart_3 (by decide) (fun c_62 => ?_) (fun c_62 => ?_)
                                · have kc_62 : mo.toInt = 0 := by have h9 := c_62; simp only [ge_iff_le, gt_iff_lt, x_lt, x_le, x_eq, ne_eq, Int32.not_lt, Int32.not_le] at h9; simp only [Int32.reduceToInt] at h9; omega
                                  have hP : va_P D vwCl (mwd y ad zw (tI (tI (sI (tI (sI (tI (sI (sI (sI (sI (sI (sI σ 2 n_59) 4 n_41) 5 n_60) 6 n_61) 23 np) 29 cd) 27 fc) 32 n_56) 30 f_57) 31 n_58) 24 fh) 26 fn)) H := hP
                                  have hD : va_D A (mwd y ad zw (tI (tI (sI (tI (sI (tI (sI (sI (sI (sI (sI (sI σ 2 n_59) 4 n_41) 5 n_60) 6 n_61) 23 np) 29 cd) 27 fc) 32 n_56) 30 f_57) 31 n_58) 24 fh) 26 fn)) := hD
                                  exact x_vretW (u := (n_59, n_41, n_60, n_61, np, cd, fc, n_56, f_57, n_58, fh, fn)) hx hb hr hQ (by (try dsimp only); exact ⟨⟨by omega, by omega, by omega, by omega, by omega, by omega, by omega, hh, by omega, by omega, fun h9 => absurd h9 (by omega)⟩, hfn⟩) hP hD hK hS dX12_onePart_232 hlocks
                                · have kc_62 : mo.toInt ≠ 0 := by have h9 := c_62; simp only [ge_iff_le, gt_iff_lt, x_lt, x_le, x_eq, ne_eq, Int32.not_lt, Int32.not_le] at h9; simp only [Int32.reduceToInt] at h9; omega
                                  refine lv_aload_n hx hb dX12_onePart_6 rfl (lv_at hl 3 rfl) ?_
                                  refine va_get (D := D) (ci := 11) (v := .int n_60) (C := RX12) (T := TX12) (N := 85) hx hb hts inX12 hown hK hP 0 mwd_o0 rfl 5 (by decide) fl191 (fun _ h9 => h9) rfl dX12_onePart_7 ?_
                                  refine lv_if_ne (tgt := 232) hx hb dX12_onePart_10 (by decide) (fun c_63 => ?_) (fun c_63 => ?_)
                                  · have kc_63 : n_60.toInt ≠ 0 := by have h9 := c_63; simp only [ge_iff_le, gt_iff_lt, x_lt, x_le, x_eq, ne_eq, Int32.not_lt, Int32.not_le] at h9; simp only [Int32.reduceToInt] at h9; omega
                                    have hP : va_P D vwCl (mwd y ad zw (tI (tI (sI (tI (sI (tI (sI (sI (sI (sI (sI (sI σ 2 n_59) 4 n_41) 5 n_60) 6 n_61) 23 np) 29 cd) 27 fc) 32 n_56) 30 f_57) 31 n_58) 24 fh) 26 fn)) H := hP
                                    have hD : va_D A (mwd y ad zw (tI (tI (sI (tI (sI (tI (sI (sI (sI (sI (sI (sI σ 2 n_59) 4 n_41) 5 n_60) 6 n_61) 23 np) 29 cd) 27 fc) 32 n_56) 30 f_57) 31 n_58) 24 fh) 26 fn)) := hD
                                    exact x_vretW (u := (n_59, n_41, n_60, n_61, np, cd, fc, n_56, f_57, n_58, fh, fn)) hx hb hr hQ (by (try dsimp only); exact ⟨⟨by omega, by omega, by omega, by omega, by omega, by omega, by omega, hh, by omega, by omega, fun h9 => absurd h9 (by omega)⟩, hfn⟩) hP hD hK hS dX12_onePart_232 hlocks
                                  · have kc_63 : n_60.toInt = 0 := by have h9 := c_63; simp only [ge_iff_le, gt_iff_lt, x_lt, x_le, x_eq, ne_eq, Int32.not_lt, Int32.not_le] at h9; simp only [Int32.reduceToInt] at h9; omega
                                    exfalso
                                    omega
                              · have hq7 : n_54.toInt = n_42.toInt := by rw [hq1]
                                refine lv_aload_n hx hb dX12_onePart_161 rfl (lv_at hl 3 rfl) ?_
                                refine lv_bipush (v := 40) hx hb dX12_onePart_162 (by decide) ?_
                                refine x_callvW (va_runV (As := [.int 40]) (rest := []) ⟨hx, hb, hml, hown, hts⟩ (q_asksSign l D y H.size ad zw (sI (tI (sI (sI (sI (sI (sI (sI (sI (sI (sI (sI (sI (sI (sI (tI (tI (sI (tI (sI (tI (sI (sI (sI (sI (sI σ 4 en) 5 bd) 6 bp) 23 np) 29 cd) 27 fc) 32 op) 30 fw) 31 ws) 24 fh) 26 fn) 2 a1) 2 n_32) 4 n_33) 2 n_36) 4 n_37) 2 n_40) 4 n_41) 5 n_42) 6 n_43) 2 n_45) 5 n_54) 6 n_55) 32 n_56) 30 f_57) 31 n_58) 40 (by first | omega | decide) (show 0 ≤ (n_45).toInt from by first | omega | decide) (show (n_45).toInt ≤ ((σ.1 3)).toInt from by first | omega | decide) (show ((σ.1 3)).toInt ≤ 700 from by first | omega | decide)) (cwV 1 hts g_q_onePart_1 rfl rfl rfl (by decide +kernel) ⟨Nat.le_of_ble_eq_true rfl, Nat.le_of_ble_eq_true rfl⟩) (x_preV (q := (RX12, TX12, 85)) hK hP hD (ci := 11) (q0 := 0) rfl mwd_o0) rfl rfl hl.1 rfl (lv_room (Nat.le_of_ble_eq_true rfl)) dX12_onePart_164 ⟨Nat.le_of_ble_eq_true rfl, Nat.le_of_ble_eq_true rfl⟩) hP hD hS hA (fun u H locs hw hP hD hS => ?_)
                                obtain ⟨n_64, n_65, n_66⟩ := u
                                try dsimp only at hw
                                have hP : va_P D vwCl (mwd y ad zw (sI (sI (sI (sI (tI (sI (sI (sI (sI (sI (sI (sI (sI (sI (sI (sI (sI (sI (tI (tI (sI (tI (sI (tI (sI (sI (sI (sI (sI σ 4 en) 5 bd) 6 bp) 23 np) 29 cd) 27 fc) 32 op) 30 fw) 31 ws) 24 fh) 26 fn) 2 a1) 2 n_32) 4 n_33) 2 n_36) 4 n_37) 2 n_40) 4 n_41) 5 n_42) 6 n_43) 2 n_45) 5 n_54) 6 n_55) 32 n_56) 30 f_57) 31 n_58) 2 n_64) 5 n_65) 6 n_66)) H := hP
                                have hD : va_D A (mwd y ad zw (sI (sI (sI (sI (tI (sI (sI (sI (sI (sI (sI (sI (sI (sI (sI (sI (sI (sI (tI (tI (sI (tI (sI (tI (sI (sI (sI (sI (sI σ 4 en) 5 bd) 6 bp) 23 np) 29 cd) 27 fc) 32 op) 30 fw) 31 ws) 24 fh) 26 fn) 2 a1) 2 n_32) 4 n_33) 2 n_36) 4 n_37) 2 n_40) 4 n_41) 5 n_42) 6 n_43) 2 n_45) 5 n_54) 6 n_55) 32 n_56) 30 f_57) 31 n_58) 2 n_64) 5 n_65) 6 n_66)) := hD
                                replace hw : (n_45).toInt ≤ n_64.toInt ∧ n_64.toInt ≤ ((σ.1 3)).toInt ∧ (n_65.toInt = 0 → (n_54).toInt = 0 ∧ (n_45).toInt + 1 ≤ n_64.toInt) := hw
                                have hbz : n_65.toInt ≠ 0 := fun h9 => absurd (hw.2.2 h9).1 (by omega)
                                replace hw := And.intro hw.1 hw.2.1
                                refine lv_goto (tgt := 229) hx hb dX12_onePart_167 (by decide) ?_
                                refine lv_goto (tgt := 2) hx hb dX12_onePart_229 (by decide) ?_
                                refine lv_iload_n hx hb dX12_onePart_2 rfl (lv_at hl 2 rfl) ?_
                                refine lv_if_eq (tgt := 232) hx hb dX12_onePart_3 (by decide) (fun c_67 => ?_) (fun c_67 => ?_)
                                · have kc_67 : mo.toInt = 0 := by have h9 := c_67; simp only [ge_iff_le, gt_iff_lt, x_lt, x_le, x_eq, ne_eq, Int32.not_lt, Int32.not_le] at h9; simp only [Int32.reduceToInt] at h9; omega
                                  have hP : va_P D vwCl (mwd y ad zw (tI (tI (sI (tI (sI (tI (sI (sI (sI (sI (sI (sI σ 2 n_64) 4 n_41) 5 n_65) 6 n_66) 23 np) 29 cd) 27 fc) 32 n_56) 30 f_57) 31 n_58) 24 fh) 26 fn)) H := hP
                                  have hD : va_D A (mwd y ad zw (tI (tI (sI (tI (sI (tI (sI (sI (sI (sI (sI (sI σ 2 n_64) 4 n_41) 5 n_65) 6 n_66) 23 np) 29 cd) 27 fc) 32 n_56) 30 f_57) 31 n_58) 24 fh) 26 fn)) := hD
                                  exact x_vretW (u := (n_64, n_41, n_65, n_66, np, cd, fc, n_56, f_57, n_58, fh, fn)) hx hb hr hQ (by (try dsimp only); exact ⟨⟨by omega, by omega, by omega, by omega, by omega, by omega, by omega, hh, by omega, by omega, fun h9 => absurd h9 (by omega)⟩, hfn⟩) hP hD hK hS dX12_onePart_232 hlocks
                                · have kc_67 : mo.toInt ≠ 0 := by have h9 := c_67; simp only [ge_iff_le, gt_iff_lt, x_lt, x_le, x_eq, ne_eq, Int32.not_lt, Int32.not_le] at h9; simp only [Int32.reduceToInt] at h9; omega
                                  refine lv_aload_n hx hb dX12_onePart_6 rfl (lv_at hl 3 rfl) ?_
                                  refine va_get (D := D) (ci := 11) (v := .int n_65) (C := RX12) (T := TX12) (N := 85) hx hb hts inX12 hown hK hP 0 mwd_o0 rfl 5 (by decide) fl191 (fun _ h9 => h9) rfl dX12_onePart_7 ?_
                                  refine lv_if_ne (tgt := 232) hx hb dX12_onePart_10 (by decide) (fun c_68 => ?_) (fun c_68 => ?_)
                                  · have kc_68 : n_65.toInt ≠ 0 := by have h9 := c_68; simp only [ge_iff_le, gt_iff_lt, x_lt, x_le, x_eq, ne_eq, Int32.not_lt, Int32.not_le] at h9; simp only [Int32.reduceToInt] at h9; omega
                                    have hP : va_P D vwCl (mwd y ad zw (tI (tI (sI (tI (sI (tI (sI (sI (sI (sI (sI (sI σ 2 n_64) 4 n_41) 5 n_65) 6 n_66) 23 np) 29 cd) 27 fc) 32 n_56) 30 f_57) 31 n_58) 24 fh) 26 fn)) H := hP
                                    have hD : va_D A (mwd y ad zw (tI (tI (sI (tI (sI (tI (sI (sI (sI (sI (sI (sI σ 2 n_64) 4 n_41) 5 n_65) 6 n_66) 23 np) 29 cd) 27 fc) 32 n_56) 30 f_57) 31 n_58) 24 fh) 26 fn)) := hD
                                    exact x_vretW (u := (n_64, n_41, n_65, n_66, np, cd, fc, n_56, f_57, n_58, fh, fn)) hx hb hr hQ (by (try dsimp only); exact ⟨⟨by omega, by omega, by omega, by omega, by omega, by omega, by omega, hh, by omega, by omega, fun h9 => absurd h9 (by omega)⟩, hfn⟩) hP hD hK hS dX12_onePart_232 hlocks
                                  · have kc_68 : n_65.toInt = 0 := by have h9 := c_68; simp only [ge_iff_le, gt_iff_lt, x_lt, x_le, x_eq, ne_eq, Int32.not_lt, Int32.not_le] at h9; simp only [Int32.reduceToInt] at h9; omega
                                    exfalso
                                    omega
                    · have kc_38 : r_35.toInt ≠ 0 := by have h9 := c_38; simp only [ge_iff_le, gt_iff_lt, x_lt, x_le, x_eq, ne_eq, Int32.not_lt, Int32.not_le] at h9; simp only [Int32.reduceToInt] at h9; omega
                      exfalso
                      omega
                  · skip
                    refine lv_if_eq (tgt := 112) hx hb dX12_onePart_104 (by decide) (fun c_69 => ?_) (fun c_69 => ?_)
                    · have kc_69 : r_35.toInt = 0 := by have h9 := c_69; simp only [ge_iff_le, gt_iff_lt, x_lt, x_le, x_eq, ne_eq, Int32.not_lt, Int32.not_le] at h9; simp only [Int32.reduceToInt] at h9; omega
                      exfalso
                      omega
                    · have kc_69 : r_35.toInt ≠ 0 := by have h9 := c_69; simp only [ge_iff_le, gt_iff_lt, x_lt, x_le, x_eq, ne_eq, Int32.not_lt, Int32.not_le] at h9; simp only [Int32.reduceToInt] at h9; omega
                      refine lv_bipush (v := 22) hx hb dX12_onePart_107 (by decide) ?_
                      refine lv_goto (tgt := 114) hx hb dX12_onePart_109 (by decide) ?_
                      refine lv_istore_n (lv' := [(3, .int 22), (1, .int mo), (0, .ref (ad 1))]) hx hb dX12_onePart_114 rfl hl (by decide) rfl (fun ls hl => ?_)
                      refine lv_iload_n hx hb dX12_onePart_115 rfl (lv_at hl 0 rfl) ?_
                      refine lv_bipush (v := 25) hx hb dX12_onePart_116 (by decide) ?_
                      refine lv_icmp_ne (tgt := 129) hx hb dX12_onePart_118 (by decide) (fun c_70 => ?_) (fun c_70 => ?_)
                      · have hP : va_P D vwCl (mwd y ad zw (sI (sI (sI (sI (tI (tI (sI (tI (sI (tI (sI (sI σ 23 np) 29 cd) 27 fc) 32 op) 30 fw) 31 ws) 24 fh) 26 fn) 2 n_36) 4 n_37) 5 bd) 6 bp)) H := hP
                        have hD : va_D A (mwd y ad zw (sI (sI (sI (sI (tI (tI (sI (tI (sI (tI (sI (sI σ 23 np) 29 cd) 27 fc) 32 op) 30 fw) 31 ws) 24 fh) 26 fn) 2 n_36) 4 n_37) 5 bd) 6 bp)) := hD
                        exact cut129 22 n_36 n_37 bd bp H locs ls (by first | omega | decide) (by omega) (by omega) (by omega) hP hD hS (lv_sub hl [0, 1, 2] rfl)
                      · exact absurd c_70 (by decide)
                · have kc_34 : r_31.toInt ≠ 0 := by have h9 := c_34; simp only [ge_iff_le, gt_iff_lt, x_lt, x_le, x_eq, ne_eq, Int32.not_lt, Int32.not_le] at h9; simp only [Int32.reduceToInt] at h9; omega
                  exfalso
                  omega
              · skip
                refine lv_if_eq (tgt := 96) hx hb dX12_onePart_88 (by decide) (fun c_71 => ?_) (fun c_71 => ?_)
                · have kc_71 : r_31.toInt = 0 := by have h9 := c_71; simp only [ge_iff_le, gt_iff_lt, x_lt, x_le, x_eq, ne_eq, Int32.not_lt, Int32.not_le] at h9; simp only [Int32.reduceToInt] at h9; omega
                  exfalso
                  omega
                · have kc_71 : r_31.toInt ≠ 0 := by have h9 := c_71; simp only [ge_iff_le, gt_iff_lt, x_lt, x_le, x_eq, ne_eq, Int32.not_lt, Int32.not_le] at h9; simp only [Int32.reduceToInt] at h9; omega
                  refine lv_bipush (v := 21) hx hb dX12_onePart_91 (by decide) ?_
                  refine lv_goto (tgt := 114) hx hb dX12_onePart_93 (by decide) ?_
                  refine lv_istore_n (lv' := [(3, .int 21), (1, .int mo), (0, .ref (ad 1))]) hx hb dX12_onePart_114 rfl hl (by decide) rfl (fun ls hl => ?_)
                  refine lv_iload_n hx hb dX12_onePart_115 rfl (lv_at hl 0 rfl) ?_
                  refine lv_bipush (v := 25) hx hb dX12_onePart_116 (by decide) ?_
                  refine lv_icmp_ne (tgt := 129) hx hb dX12_onePart_118 (by decide) (fun c_72 => ?_) (fun c_72 => ?_)
                  · have hP : va_P D vwCl (mwd y ad zw (sI (sI (sI (sI (tI (tI (sI (tI (sI (tI (sI (sI σ 23 np) 29 cd) 27 fc) 32 op) 30 fw) 31 ws) 24 fh) 26 fn) 2 n_32) 4 n_33) 5 bd) 6 bp)) H := hP
                    have hD : va_D A (mwd y ad zw (sI (sI (sI (sI (tI (tI (sI (tI (sI (tI (sI (sI σ 23 np) 29 cd) 27 fc) 32 op) 30 fw) 31 ws) 24 fh) 26 fn) 2 n_32) 4 n_33) 5 bd) 6 bp)) := hD
                    exact cut129 21 n_32 n_33 bd bp H locs ls (by first | omega | decide) (by omega) (by omega) (by omega) hP hD hS (lv_sub hl [0, 1, 2] rfl)
                  · exact absurd c_72 (by decide)
            refine lv_aload_n hx hb dX12_onePart_47 rfl (lv_at hl 2 rfl) ?_
            refine lv_aload_n hx hb dX12_onePart_48 rfl (lv_at hl 2 rfl) ?_
            refine va_get (D := D) (ci := 11) (v := .ref (ad 21)) (C := RX12) (T := TX12) (N := 85) hx hb hts inX12 hown hK hP 0 mwd_o0 rfl 21 (by decide) fl54 (fun _ h9 => h9) rfl dX12_onePart_49 ?_
            refine x_calliW (va_runV (As := [.ref (ad 21)]) (rest := []) ⟨hx, hb, hml, hown, hts⟩ (q_isHere l D y H.size ad zw (sI (tI (tI (sI (tI (sI (tI (sI (sI (sI (sI (sI (sI σ 2 a) 4 en) 5 bd) 6 bp) 23 np) 29 cd) 27 fc) 32 op) 30 fw) 31 ws) 24 fh) 26 fn) 2 n_4) (ad 21) 3 14 (zw 21) (fun _ => rfl) (by decide) (by decide) (show 0 ≤ (n_4).toInt from by first | omega | decide) (show (n_4).toInt ≤ ((σ.1 3)).toInt from by first | omega | decide) (show ((σ.1 3)).toInt ≤ 700 from by first | omega | decide)) (cwV 1 hts g_q_onePart_5 rfl rfl rfl (by decide +kernel) ⟨Nat.le_of_ble_eq_true rfl, Nat.le_of_ble_eq_true rfl⟩) (x_preV (q := (RX12, TX12, 85)) hK hP hD (ci := 11) (q0 := 0) rfl mwd_o0) rfl rfl hl.1 rfl (lv_room (Nat.le_of_ble_eq_true rfl)) dX12_onePart_52 ⟨Nat.le_of_ble_eq_true rfl, Nat.le_of_ble_eq_true rfl⟩) hP hD hS hA (fun r_73 u H locs hw hP hD hS => ?_)
            obtain ⟨n_74, rfl⟩ : ∃ z9, z9 = u := ⟨_, rfl⟩
            try dsimp only at hw
            have hP : va_P D vwCl (mwd y ad zw (sI (sI (tI (tI (sI (tI (sI (tI (sI (sI (sI (sI (sI (sI σ 2 a) 4 en) 5 bd) 6 bp) 23 np) 29 cd) 27 fc) 32 op) 30 fw) 31 ws) 24 fh) 26 fn) 2 n_4) 2 n_74)) H := hP
            have hD : va_D A (mwd y ad zw (sI (sI (tI (tI (sI (tI (sI (tI (sI (sI (sI (sI (sI (sI σ 2 a) 4 en) 5 bd) 6 bp) 23 np) 29 cd) 27 fc) 32 op) 30 fw) 31 ws) 24 fh) 26 fn) 2 n_4) 2 n_74)) := hD
            replace hw : (n_4).toInt ≤ n_74.toInt ∧ n_74.toInt ≤ ((σ.1 3)).toInt ∧ (r_73.toInt = 0 ∨ (r_73.toInt = 1 ∧ (bd).toInt = 0 ∧ n_74.toInt + 3 ≤ ((σ.1 3)).toInt)) := hw
            replace hw := And.intro hw.1 hw.2.1
            refine lv_if_ne (tgt := 80) hx hb dX12_onePart_55 (by decide) (fun c_75 => ?_) (fun c_75 => ?_)
            · have kc_75 : r_73.toInt ≠ 0 := by have h9 := c_75; simp only [ge_iff_le, gt_iff_lt, x_lt, x_le, x_eq, ne_eq, Int32.not_lt, Int32.not_le] at h9; simp only [Int32.reduceToInt] at h9; omega
              have hP : va_P D vwCl (mwd y ad zw (sI (tI (tI (sI (tI (sI (tI (sI (sI (sI (sI (sI σ 4 en) 5 bd) 6 bp) 23 np) 29 cd) 27 fc) 32 op) 30 fw) 31 ws) 24 fh) 26 fn) 2 n_74)) H := hP
              have hD : va_D A (mwd y ad zw (sI (tI (tI (sI (tI (sI (tI (sI (sI (sI (sI (sI σ 4 en) 5 bd) 6 bp) 23 np) 29 cd) 27 fc) 32 op) 30 fw) 31 ws) 24 fh) 26 fn) 2 n_74)) := hD
              exact cut80 n_74 H locs ls (by omega) (by omega) hP hD hS (lv_sub hl [1, 2] rfl)
            · have kc_75 : r_73.toInt = 0 := by have h9 := c_75; simp only [ge_iff_le, gt_iff_lt, x_lt, x_le, x_eq, ne_eq, Int32.not_lt, Int32.not_le] at h9; simp only [Int32.reduceToInt] at h9; omega
              refine lv_aload_n hx hb dX12_onePart_58 rfl (lv_at hl 2 rfl) ?_
              refine lv_aload_n hx hb dX12_onePart_59 rfl (lv_at hl 2 rfl) ?_
              refine va_get (D := D) (ci := 11) (v := .ref (ad 22)) (C := RX12) (T := TX12) (N := 85) hx hb hts inX12 hown hK hP 0 mwd_o0 rfl 22 (by decide) fl57 (fun _ h9 => h9) rfl dX12_onePart_60 ?_
              refine x_calliW (va_runV (As := [.ref (ad 22)]) (rest := []) ⟨hx, hb, hml, hown, hts⟩ (q_isHere l D y H.size ad zw (sI (sI (tI (tI (sI (tI (sI (tI (sI (sI (sI (sI (sI (sI σ 2 a) 4 en) 5 bd) 6 bp) 23 np) 29 cd) 27 fc) 32 op) 30 fw) 31 ws) 24 fh) 26 fn) 2 n_4) 2 n_74) (ad 22) 3 15 (zw 22) (fun _ => rfl) (by decide) (by decide) (show 0 ≤ (n_74).toInt from by first | omega | decide) (show (n_74).toInt ≤ ((σ.1 3)).toInt from by first | omega | decide) (show ((σ.1 3)).toInt ≤ 700 from by first | omega | decide)) (cwV 1 hts g_q_onePart_5 rfl rfl rfl (by decide +kernel) ⟨Nat.le_of_ble_eq_true rfl, Nat.le_of_ble_eq_true rfl⟩) (x_preV (q := (RX12, TX12, 85)) hK hP hD (ci := 11) (q0 := 0) rfl mwd_o0) rfl rfl hl.1 rfl (lv_room (Nat.le_of_ble_eq_true rfl)) dX12_onePart_63 ⟨Nat.le_of_ble_eq_true rfl, Nat.le_of_ble_eq_true rfl⟩) hP hD hS hA (fun r_76 u H locs hw hP hD hS => ?_)
              obtain ⟨n_77, rfl⟩ : ∃ z9, z9 = u := ⟨_, rfl⟩
              try dsimp only at hw
              have hP : va_P D vwCl (mwd y ad zw (sI (sI (sI (tI (tI (sI (tI (sI (tI (sI (sI (sI (sI (sI (sI σ 2 a) 4 en) 5 bd) 6 bp) 23 np) 29 cd) 27 fc) 32 op) 30 fw) 31 ws) 24 fh) 26 fn) 2 n_4) 2 n_74) 2 n_77)) H := hP
              have hD : va_D A (mwd y ad zw (sI (sI (sI (tI (tI (sI (tI (sI (tI (sI (sI (sI (sI (sI (sI σ 2 a) 4 en) 5 bd) 6 bp) 23 np) 29 cd) 27 fc) 32 op) 30 fw) 31 ws) 24 fh) 26 fn) 2 n_4) 2 n_74) 2 n_77)) := hD
              replace hw : (n_74).toInt ≤ n_77.toInt ∧ n_77.toInt ≤ ((σ.1 3)).toInt ∧ (r_76.toInt = 0 ∨ (r_76.toInt = 1 ∧ (bd).toInt = 0 ∧ n_77.toInt + 3 ≤ ((σ.1 3)).toInt)) := hw
              replace hw := And.intro hw.1 hw.2.1
              refine lv_if_ne (tgt := 80) hx hb dX12_onePart_66 (by decide) (fun c_78 => ?_) (fun c_78 => ?_)
              · have kc_78 : r_76.toInt ≠ 0 := by have h9 := c_78; simp only [ge_iff_le, gt_iff_lt, x_lt, x_le, x_eq, ne_eq, Int32.not_lt, Int32.not_le] at h9; simp only [Int32.reduceToInt] at h9; omega
                have hP : va_P D vwCl (mwd y ad zw (sI (tI (tI (sI (tI (sI (tI (sI (sI (sI (sI (sI σ 4 en) 5 bd) 6 bp) 23 np) 29 cd) 27 fc) 32 op) 30 fw) 31 ws) 24 fh) 26 fn) 2 n_77)) H := hP
                have hD : va_D A (mwd y ad zw (sI (tI (tI (sI (tI (sI (tI (sI (sI (sI (sI (sI σ 4 en) 5 bd) 6 bp) 23 np) 29 cd) 27 fc) 32 op) 30 fw) 31 ws) 24 fh) 26 fn) 2 n_77)) := hD
                exact cut80 n_77 H locs ls (by omega) (by omega) hP hD hS (lv_sub hl [1, 2] rfl)
              · have kc_78 : r_76.toInt = 0 := by have h9 := c_78; simp only [ge_iff_le, gt_iff_lt, x_lt, x_le, x_eq, ne_eq, Int32.not_lt, Int32.not_le] at h9; simp only [Int32.reduceToInt] at h9; omega
                refine lv_aload_n hx hb dX12_onePart_69 rfl (lv_at hl 2 rfl) ?_
                refine lv_aload_n hx hb dX12_onePart_70 rfl (lv_at hl 2 rfl) ?_
                refine va_get (D := D) (ci := 11) (v := .ref (ad 20)) (C := RX12) (T := TX12) (N := 85) hx hb hts inX12 hown hK hP 0 mwd_o0 rfl 20 (by decide) fl51 (fun _ h9 => h9) rfl dX12_onePart_71 ?_
                refine x_calliW (va_runV (As := [.ref (ad 20)]) (rest := []) ⟨hx, hb, hml, hown, hts⟩ (q_isHere l D y H.size ad zw (sI (sI (sI (tI (tI (sI (tI (sI (tI (sI (sI (sI (sI (sI (sI σ 2 a) 4 en) 5 bd) 6 bp) 23 np) 29 cd) 27 fc) 32 op) 30 fw) 31 ws) 24 fh) 26 fn) 2 n_4) 2 n_74) 2 n_77) (ad 20) 3 13 (zw 20) (fun _ => rfl) (by decide) (by decide) (show 0 ≤ (n_77).toInt from by first | omega | decide) (show (n_77).toInt ≤ ((σ.1 3)).toInt from by first | omega | decide) (show ((σ.1 3)).toInt ≤ 700 from by first | omega | decide)) (cwV 1 hts g_q_onePart_5 rfl rfl rfl (by decide +kernel) ⟨Nat.le_of_ble_eq_true rfl, Nat.le_of_ble_eq_true rfl⟩) (x_preV (q := (RX12, TX12, 85)) hK hP hD (ci := 11) (q0 := 0) rfl mwd_o0) rfl rfl hl.1 rfl (lv_room (Nat.le_of_ble_eq_true rfl)) dX12_onePart_74 ⟨Nat.le_of_ble_eq_true rfl, Nat.le_of_ble_eq_true rfl⟩) hP hD hS hA (fun r_79 u H locs hw hP hD hS => ?_)
                obtain ⟨n_80, rfl⟩ : ∃ z9, z9 = u := ⟨_, rfl⟩
                try dsimp only at hw
                have hP : va_P D vwCl (mwd y ad zw (sI (sI (sI (sI (tI (tI (sI (tI (sI (tI (sI (sI (sI (sI (sI (sI σ 2 a) 4 en) 5 bd) 6 bp) 23 np) 29 cd) 27 fc) 32 op) 30 fw) 31 ws) 24 fh) 26 fn) 2 n_4) 2 n_74) 2 n_77) 2 n_80)) H := hP
                have hD : va_D A (mwd y ad zw (sI (sI (sI (sI (tI (tI (sI (tI (sI (tI (sI (sI (sI (sI (sI (sI σ 2 a) 4 en) 5 bd) 6 bp) 23 np) 29 cd) 27 fc) 32 op) 30 fw) 31 ws) 24 fh) 26 fn) 2 n_4) 2 n_74) 2 n_77) 2 n_80)) := hD
                replace hw : (n_77).toInt ≤ n_80.toInt ∧ n_80.toInt ≤ ((σ.1 3)).toInt ∧ (r_79.toInt = 0 ∨ (r_79.toInt = 1 ∧ (bd).toInt = 0 ∧ n_80.toInt + 3 ≤ ((σ.1 3)).toInt)) := hw
                replace hw := And.intro hw.1 hw.2.1
                refine lv_if_eq (tgt := 170) hx hb dX12_onePart_77 (by decide) (fun c_81 => ?_) (fun c_81 => ?_)
                · have kc_81 : r_79.toInt = 0 := by have h9 := c_81; simp only [ge_iff_le, gt_iff_lt, x_lt, x_le, x_eq, ne_eq, Int32.not_lt, Int32.not_le] at h9; simp only [Int32.reduceToInt] at h9; omega
                  refine lv_iload_n hx hb dX12_onePart_170 rfl (lv_at hl 0 rfl) ?_
                  refine x_calliN (va_runS (As := [.int r_3]) (rest := []) ⟨hx, hb, hml, hown, hts⟩ (q_isLetter2 l D y H.size r_3) (cwS 1 hts g_q_onePart_6 rfl rfl rfl (by decide +kernel) ⟨Nat.le_of_ble_eq_true rfl, Nat.le_of_ble_eq_true rfl⟩) (x_preS hK (x_nilP D H) (x_nilD A)) rfl rfl hl.1 rfl (lv_room (Nat.le_of_ble_eq_true rfl)) dX12_onePart_171 ⟨Nat.le_of_ble_eq_true rfl, Nat.le_of_ble_eq_true rfl⟩) hP hD hS hA (fun r_82 u H locs hw hP hD hS => ?_)
                  try dsimp only at hw
                  refine lv_if_eq (tgt := 185) hx hb dX12_onePart_174 (by decide) (fun c_83 => ?_) (fun c_83 => ?_)
                  · have kc_83 : r_82.toInt = 0 := by have h9 := c_83; simp only [ge_iff_le, gt_iff_lt, x_lt, x_le, x_eq, ne_eq, Int32.not_lt, Int32.not_le] at h9; simp only [Int32.reduceToInt] at h9; omega
                    refine lv_iconst (v := 0) hx hb dX12_onePart_185 (by decide) ?_
                    refine lv_istore_n (lv' := [(1, .int 0), (2, .int r_3), (0, .ref (ad 1))]) hx hb dX12_onePart_186 rfl hl (by decide) rfl (fun ls hl => ?_)
                    refine lv_aload_n hx hb dX12_onePart_187 rfl (lv_at hl 2 rfl) ?_
                    refine va_get (D := D) (ci := 11) (v := .ref (ad 24)) (C := RX12) (T := TX12) (N := 85) hx hb hts inX12 hown hK hP 0 mwd_o0 rfl 24 (by decide) fl60 (fun _ h9 => h9) rfl dX12_onePart_188 ?_
                    refine lv_iconst (v := 4) hx hb dX12_onePart_191 (by decide) ?_
                    refine va_iald hx hb hK hP 16 2 mwd_a16 rfl (x_in (by decide) (by decide)) dX12_onePart_192 ?_
                    refine lv_topi (fun i_84 ei_84 => ?_)
                    have ei_84 : i_84 = fh (Int32.toNatClampNeg 4) := ei_84
                    have gi_84 : i_84.toInt = (fh 4).toInt := by rw [ei_84]; rfl
                    refine lv_istore_n (lv' := [(3, .int i_84), (1, .int 0), (2, .int r_3), (0, .ref (ad 1))]) hx hb dX12_onePart_193 rfl hl (by decide) rfl (fun ls hl => ?_)
                    refine lv_aload_n hx hb dX12_onePart_194 rfl (lv_at hl 3 rfl) ?_
                    refine va_get (D := D) (ci := 11) (v := .ref (ad 26)) (C := RX12) (T := TX12) (N := 85) hx hb hts inX12 hown hK hP 0 mwd_o0 rfl 26 (by decide) fl66 (fun _ h9 => h9) rfl dX12_onePart_195 ?_
                    refine lv_iconst (v := 0) hx hb dX12_onePart_198 (by decide) ?_
                    refine lv_iload_n hx hb dX12_onePart_199 rfl (lv_at hl 0 rfl) ?_
                    refine lv_iadd hx hb dX12_onePart_200 ?_
                    refine lv_topi (fun i_85 ei_85 => ?_)
                    have vi_85 : i_85.toInt = 0 + i_84.toInt := by have h9 := x_add ei_85 (by omega) (by omega); omega
                    refine lv_aload_n hx hb dX12_onePart_201 rfl (lv_at hl 3 rfl) ?_
                    refine lv_iconst (v := 0) hx hb dX12_onePart_202 (by decide) ?_
                    refine lv_sipush (v := 9999) hx hb dX12_onePart_203 (by decide) ?_
                    refine x_calliW (va_runV (As := [.int 0, .int 9999]) (rest := [.int i_85, .ref (ad 26)]) ⟨hx, hb, hml, hown, hts⟩ (q_number l D y H.size ad zw (sI (sI (sI (sI (tI (tI (sI (tI (sI (tI (sI (sI (sI (sI (sI (sI σ 2 a) 4 en) 5 bd) 6 bp) 23 np) 29 cd) 27 fc) 32 op) 30 fw) 31 ws) 24 fh) 26 fn) 2 n_4) 2 n_74) 2 n_77) 2 n_80) 0 9999 (show 0 ≤ (n_80).toInt from by first | omega | decide) (show (n_80).toInt ≤ ((σ.1 3)).toInt from by first | omega | decide) (show ((σ.1 3)).toInt ≤ 700 from by first | omega | decide)) (cwV 2 hts g_q_onePart_7 rfl rfl rfl (by decide +kernel) ⟨Nat.le_of_ble_eq_true rfl, Nat.le_of_ble_eq_true rfl⟩) (x_preV (q := (RX12, TX12, 85)) hK hP hD (ci := 11) (q0 := 0) rfl mwd_o0) rfl rfl hl.1 rfl (lv_room (Nat.le_of_ble_eq_true rfl)) dX12_onePart_206 ⟨Nat.le_of_ble_eq_true rfl, Nat.le_of_ble_eq_true rfl⟩) hP hD hS hA (fun r_86 u H locs hw hP hD hS => ?_)
                    obtain ⟨n_87, n_88, n_89, n_90⟩ := u
                    try dsimp only at hw
                    have hP : va_P D vwCl (mwd y ad zw (sI (sI (sI (sI (sI (sI (sI (sI (tI (tI (sI (tI (sI (tI (sI (sI (sI (sI (sI (sI σ 2 a) 4 en) 5 bd) 6 bp) 23 np) 29 cd) 27 fc) 32 op) 30 fw) 31 ws) 24 fh) 26 fn) 2 n_4) 2 n_74) 2 n_77) 2 n_80) 2 n_87) 4 n_88) 5 n_89) 6 n_90)) H := hP
                    have hD : va_D A (mwd y ad zw (sI (sI (sI (sI (sI (sI (sI (sI (tI (tI (sI (tI (sI (tI (sI (sI (sI (sI (sI (sI σ 2 a) 4 en) 5 bd) 6 bp) 23 np) 29 cd) 27 fc) 32 op) 30 fw) 31 ws) 24 fh) 26 fn) 2 n_4) 2 n_74) 2 n_77) 2 n_80) 2 n_87) 4 n_88) 5 n_89) 6 n_90)) := hD
                    replace hw : (n_80).toInt ≤ n_87.toInt ∧ n_87.toInt ≤ ((σ.1 3)).toInt ∧ 0 ≤ r_86.toInt ∧ r_86.toInt ≤ 9999 ∧ (n_89.toInt = 0 → (bd).toInt = 0 ∧ (n_80).toInt + 1 ≤ n_87.toInt ∧ (0 : Int32).toInt ≤ r_86.toInt ∧ r_86.toInt ≤ (9999 : Int32).toInt) := hw
                    have hi9 := hw.2.2.2.2
                    replace hw : n_80.toInt ≤ n_87.toInt ∧ n_87.toInt ≤ (σ.1 3).toInt ∧ 0 ≤ r_86.toInt ∧ r_86.toInt ≤ 9999 := ⟨hw.1, hw.2.1, hw.2.2.1, hw.2.2.2.1⟩
                    rcases Classical.em (n_89.toInt = 0) with hbz | hbz
                    · have hsp := (hi9 hbz).2.1
                      clear hi9
                      refine va_iast hx hb hK hP hD hS 18 2 mwd_a18 rfl (x_in (by omega) (by omega)) dX12_onePart_209 (fun H locs hP hD hS => ?_)
                      obtain ⟨f_91, ef_91⟩ : ∃ z9 : Nat → Int32, z9 = (upd fn (Int32.toNatClampNeg i_85) r_86) := ⟨_, rfl⟩
                      have hP : va_P D vwCl (mwd y ad zw (tI (sI (sI (sI (sI (sI (sI (sI (sI (tI (tI (sI (tI (sI (tI (sI (sI (sI (sI (sI (sI σ 2 a) 4 en) 5 bd) 6 bp) 23 np) 29 cd) 27 fc) 32 op) 30 fw) 31 ws) 24 fh) 26 fn) 2 n_4) 2 n_74) 2 n_77) 2 n_80) 2 n_87) 4 n_88) 5 n_89) 6 n_90) 26 f_91)) H := by rw [ef_91]; exact x_trP hP mwd_s18
                      have hD : va_D A (mwd y ad zw (tI (sI (sI (sI (sI (sI (sI (sI (sI (tI (tI (sI (tI (sI (tI (sI (sI (sI (sI (sI (sI σ 2 a) 4 en) 5 bd) 6 bp) 23 np) 29 cd) 27 fc) 32 op) 30 fw) 31 ws) 24 fh) 26 fn) 2 n_4) 2 n_74) 2 n_77) 2 n_80) 2 n_87) 4 n_88) 5 n_89) 6 n_90) 26 f_91)) := by rw [ef_91]; exact x_trD hD mwd_s18
                      have hvf_91 : bI f_91 0 9999 := by rw [ef_91]; exact b_upd hfn (by omega) (by omega)
                      refine lv_aload_n hx hb dX12_onePart_210 rfl (lv_at hl 3 rfl) ?_
                      refine va_get (D := D) (ci := 11) (v := .ref (ad 24)) (C := RX12) (T := TX12) (N := 85) hx hb hts inX12 hown hK hP 0 mwd_o0 rfl 24 (by decide) fl60 (fun _ h9 => h9) rfl dX12_onePart_211 ?_
                      refine lv_iconst (v := 4) hx hb dX12_onePart_214 (by decide) ?_
                      refine lv_dup2_11 hx hb dX12_onePart_215 rfl rfl ?_
                      refine va_iald hx hb hK hP 16 2 mwd_a16 rfl (x_in (by decide) (by decide)) dX12_onePart_216 ?_
                      refine lv_topi (fun i_92 ei_92 => ?_)
                      have ei_92 : i_92 = fh (Int32.toNatClampNeg 4) := ei_92
                      have gi_92 : i_92.toInt = (fh 4).toInt := by rw [ei_92]; rfl
                      refine lv_iconst (v := 1) hx hb dX12_onePart_217 (by decide) ?_
                      refine lv_iadd hx hb dX12_onePart_218 ?_
                      refine lv_topi (fun i_93 ei_93 => ?_)
                      have vi_93 : i_93.toInt = i_92.toInt + 1 := by have h9 := x_add ei_93 (by omega) (by omega); omega
                      refine va_iast hx hb hK hP hD hS 16 2 mwd_a16 rfl (x_in (by decide) (by decide)) dX12_onePart_219 (fun H locs hP hD hS => ?_)
                      obtain ⟨f_94, ef_94⟩ : ∃ z9 : Nat → Int32, z9 = (upd fh (Int32.toNatClampNeg 4) i_93) := ⟨_, rfl⟩
                      have hP : va_P D vwCl (mwd y ad zw (tI (tI (sI (sI (sI (sI (sI (sI (sI (sI (tI (tI (sI (tI (sI (tI (sI (sI (sI (sI (sI (sI σ 2 a) 4 en) 5 bd) 6 bp) 23 np) 29 cd) 27 fc) 32 op) 30 fw) 31 ws) 24 fh) 26 fn) 2 n_4) 2 n_74) 2 n_77) 2 n_80) 2 n_87) 4 n_88) 5 n_89) 6 n_90) 26 f_91) 24 f_94)) H := by rw [ef_94]; exact x_trP hP mwd_s16
                      have hD : va_D A (mwd y ad zw (tI (tI (sI (sI (sI (sI (sI (sI (sI (sI (tI (tI (sI (tI (sI (tI (sI (sI (sI (sI (sI (sI σ 2 a) 4 en) 5 bd) 6 bp) 23 np) 29 cd) 27 fc) 32 op) 30 fw) 31 ws) 24 fh) 26 fn) 2 n_4) 2 n_74) 2 n_77) 2 n_80) 2 n_87) 4 n_88) 5 n_89) 6 n_90) 26 f_91) 24 f_94)) := by rw [ef_94]; exact x_trD hD mwd_s16
                      have sf_94 : (f_94 4).toInt = i_93.toInt := by rw [ef_94]; exact congrArg Int32.toInt (x_upd_same _ 4 _)
                      have tf_94 : ∀ k : Nat, k ≠ 4 → f_94 k = σ.2.2.1 24 k := fun k h9 => by rw [ef_94]; exact (x_upd_ne _ _ h9).trans (hh k h9)
                      refine lv_aload_n hx hb dX12_onePart_220 rfl (lv_at hl 3 rfl) ?_
                      refine lv_sipush (v := 1000) hx hb dX12_onePart_221 (by decide) ?_
                      refine lv_iload_n hx hb dX12_onePart_224 rfl (lv_at hl 0 rfl) ?_
                      refine lv_iadd hx hb dX12_onePart_225 ?_
                      refine lv_topi (fun i_95 ei_95 => ?_)
                      have vi_95 : i_95.toInt = 1000 + i_84.toInt := by have h9 := x_add ei_95 (by omega) (by omega); omega
                      refine x_callvW (va_runV (As := [.int i_95]) (rest := []) ⟨hx, hb, hml, hown, hts⟩ (q_code l D y H.size ad zw (tI (tI (sI (sI (sI (sI (sI (sI (sI (sI (tI (tI (sI (tI (sI (tI (sI (sI (sI (sI (sI (sI σ 2 a) 4 en) 5 bd) 6 bp) 23 np) 29 cd) 27 fc) 32 op) 30 fw) 31 ws) 24 fh) 26 fn) 2 n_4) 2 n_74) 2 n_77) 2 n_80) 2 n_87) 4 n_88) 5 n_89) 6 n_90) 26 f_91) 24 f_94) i_95 (show 0 ≤ (cd).toInt from by first | omega | decide) (show (cd).toInt < 1200 from by first | omega | decide)) (cwV 1 hts g_q_onePart_8 rfl rfl rfl (by decide +kernel) ⟨Nat.le_of_ble_eq_true rfl, Nat.le_of_ble_eq_true rfl⟩) (x_preV (q := (RX12, TX12, 85)) hK hP hD (ci := 11) (q0 := 0) rfl mwd_o0) rfl rfl hl.1 rfl (lv_room (Nat.le_of_ble_eq_true rfl)) dX12_onePart_226 ⟨Nat.le_of_ble_eq_true rfl, Nat.le_of_ble_eq_true rfl⟩) hP hD hS hA (fun u H locs hw hP hD hS => ?_)
                      obtain ⟨n_96, f_97⟩ := u
                      try dsimp only at hw
                      have hP : va_P D vwCl (mwd y ad zw (tI (sI (tI (tI (sI (sI (sI (sI (sI (sI (sI (sI (tI (tI (sI (tI (sI (tI (sI (sI (sI (sI (sI (sI σ 2 a) 4 en) 5 bd) 6 bp) 23 np) 29 cd) 27 fc) 32 op) 30 fw) 31 ws) 24 fh) 26 fn) 2 n_4) 2 n_74) 2 n_77) 2 n_80) 2 n_87) 4 n_88) 5 n_89) 6 n_90) 26 f_91) 24 f_94) 29 n_96) 27 f_97)) H := hP
                      have hD : va_D A (mwd y ad zw (tI (sI (tI (tI (sI (sI (sI (sI (sI (sI (sI (sI (tI (tI (sI (tI (sI (tI (sI (sI (sI (sI (sI (sI σ 2 a) 4 en) 5 bd) 6 bp) 23 np) 29 cd) 27 fc) 32 op) 30 fw) 31 ws) 24 fh) 26 fn) 2 n_4) 2 n_74) 2 n_77) 2 n_80) 2 n_87) 4 n_88) 5 n_89) 6 n_90) 26 f_91) 24 f_94) 29 n_96) 27 f_97)) := hD
                      replace hw : n_96.toInt = (cd).toInt + 1 ∧ f_97 = upd (fc) (cd).toInt.toNat i_95 := hw
                      obtain ⟨hcd1, hcd2⟩ := hw
                      have hes9 : ES f0 f_97 w0 fw c0 n_96.toInt.toNat b ws.toInt.toNat 1 (1000 + (f_94 4).toInt) op.toInt o0 := by rw [hcd2, show n_96.toInt.toNat = cd.toInt.toNat + 1 by omega]; exact ES_code (ES_mono hes0 (by omega)) (Or.inl (by omega)) (by omega)
                      refine lv_goto (tgt := 2) hx hb dX12_onePart_229 (by decide) ?_
                      have hP : va_P D vwCl (mwd y ad zw (tI (tI (sI (tI (sI (tI (sI (sI (sI (sI (sI (sI σ 2 n_87) 4 n_88) 5 n_89) 6 n_90) 23 np) 29 n_96) 27 f_97) 32 op) 30 fw) 31 ws) 24 f_94) 26 f_91)) H := hP
                      have hD : va_D A (mwd y ad zw (tI (tI (sI (tI (sI (tI (sI (sI (sI (sI (sI (sI σ 2 n_87) 4 n_88) 5 n_89) 6 n_90) 23 np) 29 n_96) 27 f_97) 32 op) 30 fw) 31 ws) 24 f_94) 26 f_91)) := hD
                      exact ih_loop 0 n_87 n_88 n_89 n_90 np n_96 f_97 op fw ws f_94 f_91 H locs ls (by omega) (by omega) (by omega) (by omega) (by omega) (by omega) ⟨by omega, by omega, by omega, by omega⟩ (by omega) tf_94 ⟨by omega, by omega⟩ ⟨fun h8 => absurd h8 (by omega), fun _ => hes9⟩ hvf_91 (by omega) hP hD hS (lv_sub hl [1, 3] rfl)
                    · clear hi9
                      refine va_iast hx hb hK hP hD hS 18 2 mwd_a18 rfl (x_in (by omega) (by omega)) dX12_onePart_209 (fun H locs hP hD hS => ?_)
                      obtain ⟨f_98, ef_98⟩ : ∃ z9 : Nat → Int32, z9 = (upd fn (Int32.toNatClampNeg i_85) r_86) := ⟨_, rfl⟩
                      have hP : va_P D vwCl (mwd y ad zw (tI (sI (sI (sI (sI (sI (sI (sI (sI (tI (tI (sI (tI (sI (tI (sI (sI (sI (sI (sI (sI σ 2 a) 4 en) 5 bd) 6 bp) 23 np) 29 cd) 27 fc) 32 op) 30 fw) 31 ws) 24 fh) 26 fn) 2 n_4) 2 n_74) 2 n_77) 2 n_80) 2 n_87) 4 n_88) 5 n_89) 6 n_90) 26 f_98)) H := by rw [ef_98]; exact x_trP hP mwd_s18
                      have hD : va_D A (mwd y ad zw (tI (sI (sI (sI (sI (sI (sI (sI (sI (tI (tI (sI (tI (sI (tI (sI (sI (sI (sI (sI (sI σ 2 a) 4 en) 5 bd) 6 bp) 23 np) 29 cd) 27 fc) 32 op) 30 fw) 31 ws) 24 fh) 26 fn) 2 n_4) 2 n_74) 2 n_77) 2 n_80) 2 n_87) 4 n_88) 5 n_89) 6 n_90) 26 f_98)) := by rw [ef_98]; exact x_trD hD mwd_s18
                      have hvf_98 : bI f_98 0 9999 := by rw [ef_98]; exact b_upd hfn (by omega) (by omega)
                      refine lv_aload_n hx hb dX12_onePart_210 rfl (lv_at hl 3 rfl) ?_
                      refine va_get (D := D) (ci := 11) (v := .ref (ad 24)) (C := RX12) (T := TX12) (N := 85) hx hb hts inX12 hown hK hP 0 mwd_o0 rfl 24 (by decide) fl60 (fun _ h9 => h9) rfl dX12_onePart_211 ?_
                      refine lv_iconst (v := 4) hx hb dX12_onePart_214 (by decide) ?_
                      refine lv_dup2_11 hx hb dX12_onePart_215 rfl rfl ?_
                      refine va_iald hx hb hK hP 16 2 mwd_a16 rfl (x_in (by decide) (by decide)) dX12_onePart_216 ?_
                      refine lv_topi (fun i_99 ei_99 => ?_)
                      have ei_99 : i_99 = fh (Int32.toNatClampNeg 4) := ei_99
                      have gi_99 : i_99.toInt = (fh 4).toInt := by rw [ei_99]; rfl
                      refine lv_iconst (v := 1) hx hb dX12_onePart_217 (by decide) ?_
                      refine lv_iadd hx hb dX12_onePart_218 ?_
                      refine lv_topi (fun i_100 ei_100 => ?_)
                      have vi_100 : i_100.toInt = i_99.toInt + 1 := by have h9 := x_add ei_100 (by omega) (by omega); omega
                      refine va_iast hx hb hK hP hD hS 16 2 mwd_a16 rfl (x_in (by decide) (by decide)) dX12_onePart_219 (fun H locs hP hD hS => ?_)
                      obtain ⟨f_101, ef_101⟩ : ∃ z9 : Nat → Int32, z9 = (upd fh (Int32.toNatClampNeg 4) i_100) := ⟨_, rfl⟩
                      have hP : va_P D vwCl (mwd y ad zw (tI (tI (sI (sI (sI (sI (sI (sI (sI (sI (tI (tI (sI (tI (sI (tI (sI (sI (sI (sI (sI (sI σ 2 a) 4 en) 5 bd) 6 bp) 23 np) 29 cd) 27 fc) 32 op) 30 fw) 31 ws) 24 fh) 26 fn) 2 n_4) 2 n_74) 2 n_77) 2 n_80) 2 n_87) 4 n_88) 5 n_89) 6 n_90) 26 f_98) 24 f_101)) H := by rw [ef_101]; exact x_trP hP mwd_s16
                      have hD : va_D A (mwd y ad zw (tI (tI (sI (sI (sI (sI (sI (sI (sI (sI (tI (tI (sI (tI (sI (tI (sI (sI (sI (sI (sI (sI σ 2 a) 4 en) 5 bd) 6 bp) 23 np) 29 cd) 27 fc) 32 op) 30 fw) 31 ws) 24 fh) 26 fn) 2 n_4) 2 n_74) 2 n_77) 2 n_80) 2 n_87) 4 n_88) 5 n_89) 6 n_90) 26 f_98) 24 f_101)) := by rw [ef_101]; exact x_trD hD mwd_s16
                      have sf_101 : (f_101 4).toInt = i_100.toInt := by rw [ef_101]; exact congrArg Int32.toInt (x_upd_same _ 4 _)
                      have tf_101 : ∀ k : Nat, k ≠ 4 → f_101 k = σ.2.2.1 24 k := fun k h9 => by rw [ef_101]; exact (x_upd_ne _ _ h9).trans (hh k h9)
                      refine lv_aload_n hx hb dX12_onePart_220 rfl (lv_at hl 3 rfl) ?_
                      refine lv_sipush (v := 1000) hx hb dX12_onePart_221 (by decide) ?_
                      refine lv_iload_n hx hb dX12_onePart_224 rfl (lv_at hl 0 rfl) ?_
                      refine lv_iadd hx hb dX12_onePart_225 ?_
                      refine lv_topi (fun i_102 ei_102 => ?_)
                      have vi_102 : i_102.toInt = 1000 + i_84.toInt := by have h9 := x_add ei_102 (by omega) (by omega); omega
                      refine x_callvW (va_runV (As := [.int i_102]) (rest := []) ⟨hx, hb, hml, hown, hts⟩ (q_code l D y H.size ad zw (tI (tI (sI (sI (sI (sI (sI (sI (sI (sI (tI (tI (sI (tI (sI (tI (sI (sI (sI (sI (sI (sI σ 2 a) 4 en) 5 bd) 6 bp) 23 np) 29 cd) 27 fc) 32 op) 30 fw) 31 ws) 24 fh) 26 fn) 2 n_4) 2 n_74) 2 n_77) 2 n_80) 2 n_87) 4 n_88) 5 n_89) 6 n_90) 26 f_98) 24 f_101) i_102 (show 0 ≤ (cd).toInt from by first | omega | decide) (show (cd).toInt < 1200 from by first | omega | decide)) (cwV 1 hts g_q_onePart_8 rfl rfl rfl (by decide +kernel) ⟨Nat.le_of_ble_eq_true rfl, Nat.le_of_ble_eq_true rfl⟩) (x_preV (q := (RX12, TX12, 85)) hK hP hD (ci := 11) (q0 := 0) rfl mwd_o0) rfl rfl hl.1 rfl (lv_room (Nat.le_of_ble_eq_true rfl)) dX12_onePart_226 ⟨Nat.le_of_ble_eq_true rfl, Nat.le_of_ble_eq_true rfl⟩) hP hD hS hA (fun u H locs hw hP hD hS => ?_)
                      obtain ⟨n_103, f_104⟩ := u
                      try dsimp only at hw
                      have hP : va_P D vwCl (mwd y ad zw (tI (sI (tI (tI (sI (sI (sI (sI (sI (sI (sI (sI (tI (tI (sI (tI (sI (tI (sI (sI (sI (sI (sI (sI σ 2 a) 4 en) 5 bd) 6 bp) 23 np) 29 cd) 27 fc) 32 op) 30 fw) 31 ws) 24 fh) 26 fn) 2 n_4) 2 n_74) 2 n_77) 2 n_80) 2 n_87) 4 n_88) 5 n_89) 6 n_90) 26 f_98) 24 f_101) 29 n_103) 27 f_104)) H := hP
                      have hD : va_D A (mwd y ad zw (tI (sI (tI (tI (sI (sI (sI (sI (sI (sI (sI (sI (tI (tI (sI (tI (sI (tI (sI (sI (sI (sI (sI (sI σ 2 a) 4 en) 5 bd) 6 bp) 23 np) 29 cd) 27 fc) 32 op) 30 fw) 31 ws) 24 fh) 26 fn) 2 n_4) 2 n_74) 2 n_77) 2 n_80) 2 n_87) 4 n_88) 5 n_89) 6 n_90) 26 f_98) 24 f_101) 29 n_103) 27 f_104)) := hD
                      replace hw : n_103.toInt = (cd).toInt + 1 ∧ f_104 = upd (fc) (cd).toInt.toNat i_102 := hw
                      obtain ⟨hcd1, hcd2⟩ := hw
                      refine lv_goto (tgt := 2) hx hb dX12_onePart_229 (by decide) ?_
                      refine lv_iload_n hx hb dX12_onePart_2 rfl (lv_at hl 1 rfl) ?_
                      refine lv_if_eq (tgt := 232) hx hb dX12_onePart_3 (by decide) (fun c_105 => ?_) (fun c_105 => ?_)
                      · have hP : va_P D vwCl (mwd y ad zw (tI (tI (sI (tI (sI (tI (sI (sI (sI (sI (sI (sI σ 2 n_87) 4 n_88) 5 n_89) 6 n_90) 23 np) 29 n_103) 27 f_104) 32 op) 30 fw) 31 ws) 24 f_101) 26 f_98)) H := hP
                        have hD : va_D A (mwd y ad zw (tI (tI (sI (tI (sI (tI (sI (sI (sI (sI (sI (sI σ 2 n_87) 4 n_88) 5 n_89) 6 n_90) 23 np) 29 n_103) 27 f_104) 32 op) 30 fw) 31 ws) 24 f_101) 26 f_98)) := hD
                        exact x_vretW (u := (n_87, n_88, n_89, n_90, np, n_103, f_104, op, fw, ws, f_101, f_98)) hx hb hr hQ (by (try dsimp only); exact ⟨⟨by omega, by omega, by omega, by omega, by omega, by omega, by omega, tf_101, by omega, by omega, fun h9 => absurd h9 (by omega)⟩, hvf_98⟩) hP hD hK hS dX12_onePart_232 hlocks
                      · exact absurd (by decide) c_105
                  · have kc_83 : r_82.toInt ≠ 0 := by have h9 := c_83; simp only [ge_iff_le, gt_iff_lt, x_lt, x_le, x_eq, ne_eq, Int32.not_lt, Int32.not_le] at h9; simp only [Int32.reduceToInt] at h9; omega
                    refine lv_aload_n hx hb dX12_onePart_177 rfl (lv_at hl 2 rfl) ?_
                    refine x_calliW (va_runV (As := []) (rest := []) ⟨hx, hb, hml, hown, hts⟩ (q_named1 l D y H.size ad zw (sI (sI (sI (sI (tI (tI (sI (tI (sI (tI (sI (sI (sI (sI (sI (sI σ 2 a) 4 en) 5 bd) 6 bp) 23 np) 29 cd) 27 fc) 32 op) 30 fw) 31 ws) 24 fh) 26 fn) 2 n_4) 2 n_74) 2 n_77) 2 n_80) f0 w0 c0 b (1000 + (fh 4).toInt) o0 (show 0 ≤ (n_80).toInt from by first | omega | decide) (show (n_80).toInt ≤ ((σ.1 3)).toInt from by first | omega | decide) (show ((σ.1 3)).toInt ≤ 700 from by first | omega | decide) (show (bd).toInt = 0 from by first | omega | decide) (show 0 ≤ ((σ.1 33)).toInt from by first | omega | decide) (show ((σ.1 33)).toInt ≤ 24 from by first | omega | decide) (show 0 ≤ (op).toInt from by first | omega | decide) (show (op).toInt ≤ 8 from by first | omega | decide) (show 0 ≤ (ws).toInt from by first | omega | decide) (show 0 ≤ (cd).toInt from by first | omega | decide) (show (cd).toInt + (ws).toInt ≤ (n_80).toInt + 20 from by first | omega | decide) (by first | omega | decide) hes0 hB35) (cwV 0 hts g_q_onePart_9 rfl rfl rfl (by decide +kernel) ⟨Nat.le_of_ble_eq_true rfl, Nat.le_of_ble_eq_true rfl⟩) (x_preV (q := (RX12, TX12, 85)) hK hP hD (ci := 11) (q0 := 0) rfl mwd_o0) rfl rfl hl.1 rfl (lv_room (Nat.le_of_ble_eq_true rfl)) dX12_onePart_178 ⟨Nat.le_of_ble_eq_true rfl, Nat.le_of_ble_eq_true rfl⟩) hP hD hS hA (fun r_106 u H locs hw hP hD hS => ?_)
                    obtain ⟨n_107, n_108, n_109, n_110, n_111, n_112, f_113, n_114, f_115, n_116⟩ := u
                    try dsimp only at hw
                    have hP : va_P D vwCl (mwd y ad zw (sI (tI (sI (tI (sI (sI (sI (sI (sI (sI (sI (sI (sI (sI (tI (tI (sI (tI (sI (tI (sI (sI (sI (sI (sI (sI σ 2 a) 4 en) 5 bd) 6 bp) 23 np) 29 cd) 27 fc) 32 op) 30 fw) 31 ws) 24 fh) 26 fn) 2 n_4) 2 n_74) 2 n_77) 2 n_80) 2 n_107) 4 n_108) 5 n_109) 6 n_110) 23 n_111) 29 n_112) 27 f_113) 32 n_114) 30 f_115) 31 n_116)) H := hP
                    have hD : va_D A (mwd y ad zw (sI (tI (sI (tI (sI (sI (sI (sI (sI (sI (sI (sI (sI (sI (tI (tI (sI (tI (sI (tI (sI (sI (sI (sI (sI (sI σ 2 a) 4 en) 5 bd) 6 bp) 23 np) 29 cd) 27 fc) 32 op) 30 fw) 31 ws) 24 fh) 26 fn) 2 n_4) 2 n_74) 2 n_77) 2 n_80) 2 n_107) 4 n_108) 5 n_109) 6 n_110) 23 n_111) 29 n_112) 27 f_113) 32 n_114) 30 f_115) 31 n_116)) := hD
                    replace hw : (n_80).toInt ≤ n_107.toInt ∧ n_107.toInt ≤ ((σ.1 3)).toInt ∧ (r_106.toInt = 0 ∨ r_106.toInt = 1) ∧ 0 ≤ n_114.toInt ∧ n_114.toInt ≤ 8 ∧ 0 ≤ n_116.toInt ∧ (cd).toInt ≤ n_112.toInt ∧ n_112.toInt + n_116.toInt - n_107.toInt ≤ (cd).toInt + (ws).toInt - (n_80).toInt ∧ (n_109.toInt = 0 → (n_80).toInt + 1 ≤ n_107.toInt ∧ (r_106.toInt = 0 → ES f0 f_113 w0 f_115 c0 n_112.toInt.toNat b n_116.toInt.toNat 1 (1000 + (fh 4).toInt) n_114.toInt o0) ∧ (r_106.toInt = 1 → ES f0 f_113 w0 f_115 c0 n_112.toInt.toNat b n_116.toInt.toNat 0 (1000 + (fh 4).toInt) n_114.toInt o0)) := hw
                    have hi9 := hw.2.2.2.2.2.2.2.2
                    replace hw : n_80.toInt ≤ n_107.toInt ∧ n_107.toInt ≤ (σ.1 3).toInt ∧ (r_106.toInt = 0 ∨ r_106.toInt = 1) ∧ 0 ≤ n_114.toInt ∧ n_114.toInt ≤ 8 ∧ 0 ≤ n_116.toInt ∧ cd.toInt ≤ n_112.toInt ∧ n_112.toInt + n_116.toInt - n_107.toInt ≤ cd.toInt + ws.toInt - n_80.toInt := ⟨hw.1, hw.2.1, hw.2.2.1, hw.2.2.2.1, hw.2.2.2.2.1, hw.2.2.2.2.2.1, hw.2.2.2.2.2.2.1, hw.2.2.2.2.2.2.2.1⟩
                    rcases Classical.em (n_109.toInt = 0) with hbz | hbz
                    · have hsp := hi9 hbz
                      clear hi9
                      obtain ⟨hna, hnb1, hnc1⟩ := hsp
                      have hnb : XE (r_106.toInt = 0) (ES f0 f_113 w0 f_115 c0 n_112.toInt.toNat b n_116.toInt.toNat 1 (1000 + (fh 4).toInt) n_114.toInt o0) := hnb1
                      have hnc : XE (r_106.toInt = 1) (ES f0 f_113 w0 f_115 c0 n_112.toInt.toNat b n_116.toInt.toNat 0 (1000 + (fh 4).toInt) n_114.toInt o0) := hnc1
                      clear hnb1 hnc1
                      refine lv_istore_n (lv' := [(1, .int r_106), (2, .int r_3), (0, .ref (ad 1))]) hx hb dX12_onePart_181 rfl hl (by decide) rfl (fun ls hl => ?_)
                      refine lv_goto (tgt := 229) hx hb dX12_onePart_182 (by decide) ?_
                      refine lv_goto (tgt := 2) hx hb dX12_onePart_229 (by decide) ?_
                      have hP : va_P D vwCl (mwd y ad zw (tI (tI (sI (tI (sI (tI (sI (sI (sI (sI (sI (sI σ 2 n_107) 4 n_108) 5 n_109) 6 n_110) 23 n_111) 29 n_112) 27 f_113) 32 n_114) 30 f_115) 31 n_116) 24 fh) 26 fn)) H := hP
                      have hD : va_D A (mwd y ad zw (tI (tI (sI (tI (sI (tI (sI (sI (sI (sI (sI (sI σ 2 n_107) 4 n_108) 5 n_109) 6 n_110) 23 n_111) 29 n_112) 27 f_113) 32 n_114) 30 f_115) 31 n_116) 24 fh) 26 fn)) := hD
                      exact ih_loop r_106 n_107 n_108 n_109 n_110 n_111 n_112 f_113 n_114 f_115 n_116 fh fn H locs ls (by omega) (by omega) (by omega) (by omega) (by omega) (by omega) ⟨by omega, by omega, by omega, by omega⟩ (by omega) hh ⟨by omega, by omega⟩ ⟨hnc, hnb⟩ hfn (by omega) hP hD hS (lv_sub hl [0, 2] rfl)
                    · clear hi9
                      refine lv_istore_n (lv' := [(1, .int r_106), (2, .int r_3), (0, .ref (ad 1))]) hx hb dX12_onePart_181 rfl hl (by decide) rfl (fun ls hl => ?_)
                      refine lv_goto (tgt := 229) hx hb dX12_onePart_182 (by decide) ?_
                      refine lv_goto (tgt := 2) hx hb dX12_onePart_229 (by decide) ?_
                      refine lv_iload_n hx hb dX12_onePart_2 rfl (lv_at hl 0 rfl) ?_
                      refine lv_if_eq (tgt := 232) hx hb dX12_onePart_3 (by decide) (fun c_117 => ?_) (fun c_117 => ?_)
                      · have kc_117 : r_106.toInt = 0 := by have h9 := c_117; simp only [ge_iff_le, gt_iff_lt, x_lt, x_le, x_eq, ne_eq, Int32.not_lt, Int32.not_le] at h9; simp only [Int32.reduceToInt] at h9; omega
                        have hP : va_P D vwCl (mwd y ad zw (tI (tI (sI (tI (sI (tI (sI (sI (sI (sI (sI (sI σ 2 n_107) 4 n_108) 5 n_109) 6 n_110) 23 n_111) 29 n_112) 27 f_113) 32 n_114) 30 f_115) 31 n_116) 24 fh) 26 fn)) H := hP
                        have hD : va_D A (mwd y ad zw (tI (tI (sI (tI (sI (tI (sI (sI (sI (sI (sI (sI σ 2 n_107) 4 n_108) 5 n_109) 6 n_110) 23 n_111) 29 n_112) 27 f_113) 32 n_114) 30 f_115) 31 n_116) 24 fh) 26 fn)) := hD
                        exact x_vretW (u := (n_107, n_108, n_109, n_110, n_111, n_112, f_113, n_114, f_115, n_116, fh, fn)) hx hb hr hQ (by (try dsimp only); exact ⟨⟨by omega, by omega, by omega, by omega, by omega, by omega, by omega, hh, by omega, by omega, fun h9 => absurd h9 (by omega)⟩, hfn⟩) hP hD hK hS dX12_onePart_232 hlocks
                      · have kc_117 : r_106.toInt ≠ 0 := by have h9 := c_117; simp only [ge_iff_le, gt_iff_lt, x_lt, x_le, x_eq, ne_eq, Int32.not_lt, Int32.not_le] at h9; simp only [Int32.reduceToInt] at h9; omega
                        refine lv_aload_n hx hb dX12_onePart_6 rfl (lv_at hl 2 rfl) ?_
                        refine va_get (D := D) (ci := 11) (v := .int n_109) (C := RX12) (T := TX12) (N := 85) hx hb hts inX12 hown hK hP 0 mwd_o0 rfl 5 (by decide) fl191 (fun _ h9 => h9) rfl dX12_onePart_7 ?_
                        refine lv_if_ne (tgt := 232) hx hb dX12_onePart_10 (by decide) (fun c_118 => ?_) (fun c_118 => ?_)
                        · have kc_118 : n_109.toInt ≠ 0 := by have h9 := c_118; simp only [ge_iff_le, gt_iff_lt, x_lt, x_le, x_eq, ne_eq, Int32.not_lt, Int32.not_le] at h9; simp only [Int32.reduceToInt] at h9; omega
                          have hP : va_P D vwCl (mwd y ad zw (tI (tI (sI (tI (sI (tI (sI (sI (sI (sI (sI (sI σ 2 n_107) 4 n_108) 5 n_109) 6 n_110) 23 n_111) 29 n_112) 27 f_113) 32 n_114) 30 f_115) 31 n_116) 24 fh) 26 fn)) H := hP
                          have hD : va_D A (mwd y ad zw (tI (tI (sI (tI (sI (tI (sI (sI (sI (sI (sI (sI σ 2 n_107) 4 n_108) 5 n_109) 6 n_110) 23 n_111) 29 n_112) 27 f_113) 32 n_114) 30 f_115) 31 n_116) 24 fh) 26 fn)) := hD
                          exact x_vretW (u := (n_107, n_108, n_109, n_110, n_111, n_112, f_113, n_114, f_115, n_116, fh, fn)) hx hb hr hQ (by (try dsimp only); exact ⟨⟨by omega, by omega, by omega, by omega, by omega, by omega, by omega, hh, by omega, by omega, fun h9 => absurd h9 (by omega)⟩, hfn⟩) hP hD hK hS dX12_onePart_232 hlocks
                        · have kc_118 : n_109.toInt = 0 := by have h9 := c_118; simp only [ge_iff_le, gt_iff_lt, x_lt, x_le, x_eq, ne_eq, Int32.not_lt, Int32.not_le] at h9; simp only [Int32.reduceToInt] at h9; omega
                          exfalso
                          omega
                · have kc_81 : r_79.toInt ≠ 0 := by have h9 := c_81; simp only [ge_iff_le, gt_iff_lt, x_lt, x_le, x_eq, ne_eq, Int32.not_lt, Int32.not_le] at h9; simp only [Int32.reduceToInt] at h9; omega
                  have hP : va_P D vwCl (mwd y ad zw (sI (tI (tI (sI (tI (sI (tI (sI (sI (sI (sI (sI σ 4 en) 5 bd) 6 bp) 23 np) 29 cd) 27 fc) 32 op) 30 fw) 31 ws) 24 fh) 26 fn) 2 n_80)) H := hP
                  have hD : va_D A (mwd y ad zw (sI (tI (tI (sI (tI (sI (tI (sI (sI (sI (sI (sI σ 4 en) 5 bd) 6 bp) 23 np) 29 cd) 27 fc) 32 op) 30 fw) 31 ws) 24 fh) 26 fn) 2 n_80)) := hD
                  exact cut80 n_80 H locs ls (by omega) (by omega) hP hD hS (lv_sub hl [1, 2] rfl)
          · have kc_5 : r_3.toInt = 40 := by have h9 := c_5; simp only [ge_iff_le, gt_iff_lt, x_lt, x_le, x_eq, ne_eq, Int32.not_lt, Int32.not_le] at h9; simp only [Int32.reduceToInt] at h9; omega
            refine lv_aload_n hx hb dX12_onePart_24 rfl (lv_at hl 2 rfl) ?_
            refine lv_bipush (v := 20) hx hb dX12_onePart_25 (by decide) ?_
            refine lv_aload_n hx hb dX12_onePart_27 rfl (lv_at hl 2 rfl) ?_
            refine va_get (D := D) (ci := 11) (v := .int n_4) (C := RX12) (T := TX12) (N := 85) hx hb hts inX12 hown hK hP 0 mwd_o0 rfl 2 (by decide) fl197 (fun _ h9 => h9) rfl dX12_onePart_28 ?_
            refine x_callvW (va_runV (As := [.int 20, .int n_4]) (rest := []) ⟨hx, hb, hml, hown, hts⟩ (q_opensOne l D y H.size ad zw (sI (tI (tI (sI (tI (sI (tI (sI (sI (sI (sI (sI (sI σ 2 a) 4 en) 5 bd) 6 bp) 23 np) 29 cd) 27 fc) 32 op) 30 fw) 31 ws) 24 fh) 26 fn) 2 n_4) 20 n_4 (show 0 ≤ (op).toInt from by first | omega | decide) (show (op).toInt ≤ 8 from by first | omega | decide) (show 0 ≤ (ws).toInt from by first | omega | decide) (show (ws).toInt < 800 from by first | omega | decide)) (cwV 2 hts g_q_onePart_2 rfl rfl rfl (by decide +kernel) ⟨Nat.le_of_ble_eq_true rfl, Nat.le_of_ble_eq_true rfl⟩) (x_preV (q := (RX12, TX12, 85)) hK hP hD (ci := 11) (q0 := 0) rfl mwd_o0) rfl rfl hl.1 rfl (lv_room (Nat.le_of_ble_eq_true rfl)) dX12_onePart_31 ⟨Nat.le_of_ble_eq_true rfl, Nat.le_of_ble_eq_true rfl⟩) hP hD hS hA (fun u H locs hw hP hD hS => ?_)
            obtain ⟨n_119, n_120, n_121, f_122, n_123⟩ := u
            try dsimp only at hw
            have hP : va_P D vwCl (mwd y ad zw (sI (tI (sI (sI (sI (sI (tI (tI (sI (tI (sI (tI (sI (sI (sI (sI (sI (sI σ 2 a) 4 en) 5 bd) 6 bp) 23 np) 29 cd) 27 fc) 32 op) 30 fw) 31 ws) 24 fh) 26 fn) 2 n_4) 5 n_119) 6 n_120) 32 n_121) 30 f_122) 31 n_123)) H := hP
            have hD : va_D A (mwd y ad zw (sI (tI (sI (sI (sI (sI (tI (tI (sI (tI (sI (tI (sI (sI (sI (sI (sI (sI σ 2 a) 4 en) 5 bd) 6 bp) 23 np) 29 cd) 27 fc) 32 op) 30 fw) 31 ws) 24 fh) 26 fn) 2 n_4) 5 n_119) 6 n_120) 32 n_121) 30 f_122) 31 n_123)) := hD
            replace hw : (n_119.toInt ≠ 0 ∧ n_123 = (ws) ∧ f_122 = (fw) ∧ n_121 = (op)) ∨ (n_119 = (bd) ∧ n_121.toInt = (op).toInt + 1 ∧ n_121.toInt ≤ 8 ∧ n_123.toInt = (ws).toInt + 1 ∧ f_122 = upd (fw) (ws).toInt.toNat (20 : Int32)) := hw
            rcases hw with ⟨hq1, hq2, hq3, hq4⟩ | ⟨hq1, hq2, hq3, hq4, hq5⟩
            · have hq9 : n_123.toInt = ws.toInt := by rw [hq2]
              have hq8 : n_121.toInt = op.toInt := by rw [hq4]
              refine lv_aload_n hx hb dX12_onePart_34 rfl (lv_at hl 2 rfl) ?_
              refine lv_dup hx hb dX12_onePart_35 rfl ?_
              refine va_get (D := D) (ci := 11) (v := .int n_4) (C := RX12) (T := TX12) (N := 85) hx hb hts inX12 hown hK hP 0 mwd_o0 rfl 2 (by decide) fl197 (fun _ h9 => h9) rfl dX12_onePart_36 ?_
              refine lv_iconst (v := 1) hx hb dX12_onePart_39 (by decide) ?_
              refine lv_iadd hx hb dX12_onePart_40 ?_
              refine lv_topi (fun i_124 ei_124 => ?_)
              have vi_124 : i_124.toInt = n_4.toInt + 1 := by have h9 := x_add ei_124 (by omega) (by omega); omega
              refine va_put (D := D) (ci := 11) (v := .int i_124) (ty := .int) (C := RX12) (T := TX12) (N := 85) hx hb hts inX12 tyX12 tyX12_ok nmX12 hown hK hP hD hS 0 mwd_o0 rfl 2 (by decide) fl197 (fun _ h9 => h9) rfl (by decide +kernel) rfl rfl (Nat.le_of_ble_eq_true rfl) dX12_onePart_41 (fun H locs hP hD hS => ?_)
              have hP : va_P D vwCl (mwd y ad zw (sI (sI (tI (sI (sI (sI (sI (tI (tI (sI (tI (sI (tI (sI (sI (sI (sI (sI (sI σ 2 a) 4 en) 5 bd) 6 bp) 23 np) 29 cd) 27 fc) 32 op) 30 fw) 31 ws) 24 fh) 26 fn) 2 n_4) 5 n_119) 6 n_120) 32 n_121) 30 f_122) 31 n_123) 2 i_124)) H := x_trP hP mwd_p0_2
              have hD : va_D A (mwd y ad zw (sI (sI (tI (sI (sI (sI (sI (tI (tI (sI (tI (sI (tI (sI (sI (sI (sI (sI (sI σ 2 a) 4 en) 5 bd) 6 bp) 23 np) 29 cd) 27 fc) 32 op) 30 fw) 31 ws) 24 fh) 26 fn) 2 n_4) 5 n_119) 6 n_120) 32 n_121) 30 f_122) 31 n_123) 2 i_124)) := x_trD hD mwd_p0_2
              refine lv_goto (tgt := 229) hx hb dX12_onePart_44 (by decide) ?_
              refine lv_goto (tgt := 2) hx hb dX12_onePart_229 (by decide) ?_
              refine lv_iload_n hx hb dX12_onePart_2 rfl (lv_at hl 1 rfl) ?_
              refine lv_if_eq (tgt := 232) hx hb dX12_onePart_3 (by decide) (fun c_125 => ?_) (fun c_125 => ?_)
              · have kc_125 : mo.toInt = 0 := by have h9 := c_125; simp only [ge_iff_le, gt_iff_lt, x_lt, x_le, x_eq, ne_eq, Int32.not_lt, Int32.not_le] at h9; simp only [Int32.reduceToInt] at h9; omega
                have hP : va_P D vwCl (mwd y ad zw (tI (tI (sI (tI (sI (tI (sI (sI (sI (sI (sI (sI σ 2 i_124) 4 en) 5 n_119) 6 n_120) 23 np) 29 cd) 27 fc) 32 n_121) 30 f_122) 31 n_123) 24 fh) 26 fn)) H := hP
                have hD : va_D A (mwd y ad zw (tI (tI (sI (tI (sI (tI (sI (sI (sI (sI (sI (sI σ 2 i_124) 4 en) 5 n_119) 6 n_120) 23 np) 29 cd) 27 fc) 32 n_121) 30 f_122) 31 n_123) 24 fh) 26 fn)) := hD
                exact x_vretW (u := (i_124, en, n_119, n_120, np, cd, fc, n_121, f_122, n_123, fh, fn)) hx hb hr hQ (by (try dsimp only); exact ⟨⟨by omega, by omega, by omega, by omega, by omega, by omega, by omega, hh, by omega, by omega, fun h9 => absurd h9 (by omega)⟩, hfn⟩) hP hD hK hS dX12_onePart_232 hlocks
              · have kc_125 : mo.toInt ≠ 0 := by have h9 := c_125; simp only [ge_iff_le, gt_iff_lt, x_lt, x_le, x_eq, ne_eq, Int32.not_lt, Int32.not_le] at h9; simp only [Int32.reduceToInt] at h9; omega
                refine lv_aload_n hx hb dX12_onePart_6 rfl (lv_at hl 2 rfl) ?_
                refine va_get (D := D) (ci := 11) (v := .int n_119) (C := RX12) (T := TX12) (N := 85) hx hb hts inX12 hown hK hP 0 mwd_o0 rfl 5 (by decide) fl191 (fun _ h9 => h9) rfl dX12_onePart_7 ?_
                refine lv_if_ne (tgt := 232) hx hb dX12_onePart_10 (by decide) (fun c_126 => ?_) (fun c_126 => ?_)
                · have kc_126 : n_119.toInt ≠ 0 := by have h9 := c_126; simp only [ge_iff_le, gt_iff_lt, x_lt, x_le, x_eq, ne_eq, Int32.not_lt, Int32.not_le] at h9; simp only [Int32.reduceToInt] at h9; omega
                  have hP : va_P D vwCl (mwd y ad zw (tI (tI (sI (tI (sI (tI (sI (sI (sI (sI (sI (sI σ 2 i_124) 4 en) 5 n_119) 6 n_120) 23 np) 29 cd) 27 fc) 32 n_121) 30 f_122) 31 n_123) 24 fh) 26 fn)) H := hP
                  have hD : va_D A (mwd y ad zw (tI (tI (sI (tI (sI (tI (sI (sI (sI (sI (sI (sI σ 2 i_124) 4 en) 5 n_119) 6 n_120) 23 np) 29 cd) 27 fc) 32 n_121) 30 f_122) 31 n_123) 24 fh) 26 fn)) := hD
                  exact x_vretW (u := (i_124, en, n_119, n_120, np, cd, fc, n_121, f_122, n_123, fh, fn)) hx hb hr hQ (by (try dsimp only); exact ⟨⟨by omega, by omega, by omega, by omega, by omega, by omega, by omega, hh, by omega, by omega, fun h9 => absurd h9 (by omega)⟩, hfn⟩) hP hD hK hS dX12_onePart_232 hlocks
                · have kc_126 : n_119.toInt = 0 := by have h9 := c_126; simp only [ge_iff_le, gt_iff_lt, x_lt, x_le, x_eq, ne_eq, Int32.not_lt, Int32.not_le] at h9; simp only [Int32.reduceToInt] at h9; omega
                  exfalso
                  omega
            · have hq7 : n_119.toInt = bd.toInt := by rw [hq1]
              have hes9 : ES f0 fc w0 f_122 c0 cd.toInt.toNat b n_123.toInt.toNat 0 (1000 + (fh 4).toInt) n_121.toInt o0 := by rw [hq5, show n_123.toInt.toNat = ws.toInt.toNat + 1 by omega]; exact ES_open hes0 ⟨by omega, by omega, by omega, by omega⟩ hq2
              refine lv_aload_n hx hb dX12_onePart_34 rfl (lv_at hl 2 rfl) ?_
              refine lv_dup hx hb dX12_onePart_35 rfl ?_
              refine va_get (D := D) (ci := 11) (v := .int n_4) (C := RX12) (T := TX12) (N := 85) hx hb hts inX12 hown hK hP 0 mwd_o0 rfl 2 (by decide) fl197 (fun _ h9 => h9) rfl dX12_onePart_36 ?_
              refine lv_iconst (v := 1) hx hb dX12_onePart_39 (by decide) ?_
              refine lv_iadd hx hb dX12_onePart_40 ?_
              refine lv_topi (fun i_127 ei_127 => ?_)
              have vi_127 : i_127.toInt = n_4.toInt + 1 := by have h9 := x_add ei_127 (by omega) (by omega); omega
              refine va_put (D := D) (ci := 11) (v := .int i_127) (ty := .int) (C := RX12) (T := TX12) (N := 85) hx hb hts inX12 tyX12 tyX12_ok nmX12 hown hK hP hD hS 0 mwd_o0 rfl 2 (by decide) fl197 (fun _ h9 => h9) rfl (by decide +kernel) rfl rfl (Nat.le_of_ble_eq_true rfl) dX12_onePart_41 (fun H locs hP hD hS => ?_)
              have hP : va_P D vwCl (mwd y ad zw (sI (sI (tI (sI (sI (sI (sI (tI (tI (sI (tI (sI (tI (sI (sI (sI (sI (sI (sI σ 2 a) 4 en) 5 bd) 6 bp) 23 np) 29 cd) 27 fc) 32 op) 30 fw) 31 ws) 24 fh) 26 fn) 2 n_4) 5 n_119) 6 n_120) 32 n_121) 30 f_122) 31 n_123) 2 i_127)) H := x_trP hP mwd_p0_2
              have hD : va_D A (mwd y ad zw (sI (sI (tI (sI (sI (sI (sI (tI (tI (sI (tI (sI (tI (sI (sI (sI (sI (sI (sI σ 2 a) 4 en) 5 bd) 6 bp) 23 np) 29 cd) 27 fc) 32 op) 30 fw) 31 ws) 24 fh) 26 fn) 2 n_4) 5 n_119) 6 n_120) 32 n_121) 30 f_122) 31 n_123) 2 i_127)) := x_trD hD mwd_p0_2
              refine lv_goto (tgt := 229) hx hb dX12_onePart_44 (by decide) ?_
              refine lv_goto (tgt := 2) hx hb dX12_onePart_229 (by decide) ?_
              have hP : va_P D vwCl (mwd y ad zw (tI (tI (sI (tI (sI (tI (sI (sI (sI (sI (sI (sI σ 2 i_127) 4 en) 5 n_119) 6 n_120) 23 np) 29 cd) 27 fc) 32 n_121) 30 f_122) 31 n_123) 24 fh) 26 fn)) H := hP
              have hD : va_D A (mwd y ad zw (tI (tI (sI (tI (sI (tI (sI (sI (sI (sI (sI (sI σ 2 i_127) 4 en) 5 n_119) 6 n_120) 23 np) 29 cd) 27 fc) 32 n_121) 30 f_122) 31 n_123) 24 fh) 26 fn)) := hD
              exact ih_loop mo i_127 en n_119 n_120 np cd fc n_121 f_122 n_123 fh fn H locs ls (by omega) (by omega) (by omega) (by omega) (by omega) (by omega) ⟨by omega, by omega, by omega, by omega⟩ (by omega) hh ⟨by omega, by omega⟩ ⟨fun _ => hes9, fun h8 => absurd h8 (by omega)⟩ hfn (by omega) hP hD hS (lv_sub hl [1, 2] rfl)
  exact loop 1500 1 (σ.1 2) (σ.1 4) (σ.1 5) (σ.1 6) (σ.1 23) (σ.1 29) (σ.2.2.1 27) (σ.1 32) (σ.2.2.1 30) (σ.1 31) (σ.2.2.1 24) (σ.2.2.1 26) H locs ls (by decide) (by decide) hb0 (by have h7 : (1 : Int32).toInt = 1 := rfl; omega) (by omega) (by omega) ⟨by omega, by omega, by omega, by omega⟩ (by omega) (fun _ _ => rfl) ⟨by omega, by omega⟩ ⟨fun _ => hes, fun h8 => absurd h8 (by decide)⟩ hB26 (by have h7 : (1 : Int32).toInt = 1 := rfl; omega) hP hD hS (lv_sub hl [0, 1] rfl)

