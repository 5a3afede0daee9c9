/-- two pieces of code that change their places -/
theorem PC_swap {f0 f1 f2 fy w0 w1 w2 w3 w4 : Nat → Int32} {c0 c1 c2 b b2 : Nat} {X1 X2 : Int} {t1 t2 : List Bool} (h1 : PC f0 f1 w0 w1 c0 c1 b X1 t1) (h2 : PC f1 f2 w2 w3 c1 c2 b2 X2 t2) (hx : X1 ≤ X2) (hlo : ∀ q, q < c0 → fy q = f2 q) (hB : ∀ q, q < c2 - c1 → fy (c0 + q) = f2 (c1 + q)) (hA : ∀ q, q < c1 - c0 → fy (c0 + (c2 - c1) + q) = f1 (c0 + q)) : PC f0 fy w4 w4 c0 c2 0 X2 (t1 ++ t2) := by
  have a1 := h1.1
  have a2 := h2.1
  refine ⟨by omega, fun k k1 k2 => ?_, fun k k1 => (hlo k k1).trans ((h2.2.2.1 k (by omega)).trans (h1.2.2.1 k k1)), fun k hk => rfl, fun T => ?_⟩
  · by_cases e : k < c0 + (c2 - c1)
    · have e1 := hB (k - c0) (by omega)
      rw [show c0 + (k - c0) = k by omega] at e1
      rw [e1]
      exact h2.2.1 _ (by omega) (by omega)
    · have e1 := hA (k - (c0 + (c2 - c1))) (by omega)
      rw [show c0 + (c2 - c1) + (k - (c0 + (c2 - c1))) = k by omega] at e1
      rw [e1]
      exact Int.lt_of_lt_of_le (h1.2.1 _ (by omega) (by omega)) hx
  · rw [show c2 - c0 = (c2 - c1) + (c1 - c0) by omega, trun_add]
    rw [trun_congr (g := f2) (b := c1) T (fun k hk => hB k hk), h2.2.2.2.2 T]
    show trun fy (c0 + (c2 - c1)) (c1 - c0) (t2 ++ T) = _
    rw [trun_congr (g := f1) (b := c0) (t2 ++ T) (fun k hk => hA k hk), h1.2.2.2.2, List.append_assoc]
theorem PE_setw {f0 f w0 w : Nat → Int32} {c0 c m : Nat} {nk nk' : Int} {bs bf bj : Nat → Int32} {v : Int32} (h : PE f0 c0 nk m bs bf bj [] true none) (h2 : PC f0 f w0 w c0 c 0 (1000 + nk') [true]) (hk : nk ≤ nk') (hv : (300 ≤ v.toInt ∧ v.toInt < 320) ∨ v.toInt = 500) : PE (upd f c v) (c + 1) nk' m bs bf bj [] true none := by
  have h3 := PE_PC h h2 hk
  have h4 := PE_frame h3 (f' := upd f c v) (fun k hk => x_upd_ne _ _ (by omega)) (Int.le_refl _) (fun _ _ => ⟨rfl, rfl, rfl⟩)
  exact PE_set h4 (by rw [x_upd_same]; exact hv)
theorem PE_setrw {f0 f w0 w : Nat → Int32} {c0 c m : Nat} {nk nk' : Int} {bs bf bj : Nat → Int32} {v : Int32} (h : PE f0 c0 nk m bs bf bj [] true none) (h2 : PC f0 f w0 w c0 c 0 (1000 + nk') [true, true]) (hk : nk ≤ nk') (hv : 400 ≤ v.toInt ∧ v.toInt < 404) : PE (upd f c v) (c + 1) nk' m bs bf bj [] true none := by
  have h3 := PE_PC h h2 hk
  have h4 := PE_frame h3 (f' := upd f c v) (fun k hk => x_upd_ne _ _ (by omega)) (Int.le_refl _) (fun _ _ => ⟨rfl, rfl, rfl⟩)
  exact PE_setrow h4 (by rw [x_upd_same]; exact hv)
theorem oc_0 (w : Nat → Int32) {n : Nat} (h : n = 0) : (oc w n : Int) = 0 := by subst h; rfl

theorem dX12_setStatement_0 : decode cX12_setStatement 0 = .ok (.aload_n 0, 1) := by decide +kernel
theorem dX12_setStatement_1 : decode cX12_setStatement 1 = .ok (.invokevirtual 296, 3) := by decide +kernel
theorem dX12_setStatement_4 : decode cX12_setStatement 4 = .ok (.istore_n 1, 1) := by decide +kernel
theorem dX12_setStatement_5 : decode cX12_setStatement 5 = .ok (.aload_n 0, 1) := by decide +kernel
theorem dX12_setStatement_6 : decode cX12_setStatement 6 = .ok (.getfield 246, 3) := by decide +kernel
theorem dX12_setStatement_9 : decode cX12_setStatement 9 = .ok (.istore_n 2, 1) := by decide +kernel
theorem dX12_setStatement_10 : decode cX12_setStatement 10 = .ok (.aload_n 0, 1) := by decide +kernel
theorem dX12_setStatement_11 : decode cX12_setStatement 11 = .ok (.getfield 191, 3) := by decide +kernel
theorem dX12_setStatement_14 : decode cX12_setStatement 14 = .ok (.ifCond .ne 79, 3) := by decide +kernel
theorem dX12_setStatement_17 : decode cX12_setStatement 17 = .ok (.iload_n 1, 1) := by decide +kernel
theorem dX12_setStatement_18 : decode cX12_setStatement 18 = .ok (.bipush 20, 2) := by decide +kernel
theorem dX12_setStatement_20 : decode cX12_setStatement 20 = .ok (.if_icmp .lt 73, 3) := by decide +kernel
theorem dX12_setStatement_23 : decode cX12_setStatement 23 = .ok (.aload_n 0, 1) := by decide +kernel
theorem dX12_setStatement_24 : decode cX12_setStatement 24 = .ok (.invokevirtual 203, 3) := by decide +kernel
theorem dX12_setStatement_27 : decode cX12_setStatement 27 = .ok (.bipush 91, 2) := by decide +kernel
theorem dX12_setStatement_29 : decode cX12_setStatement 29 = .ok (.if_icmp .ne 31, 3) := by decide +kernel
theorem dX12_setStatement_32 : decode cX12_setStatement 32 = .ok (.aload_n 0, 1) := by decide +kernel
theorem dX12_setStatement_33 : decode cX12_setStatement 33 = .ok (.getfield 260, 3) := by decide +kernel
theorem dX12_setStatement_36 : decode cX12_setStatement 36 = .ok (.bipush 8, 2) := by decide +kernel
theorem dX12_setStatement_38 : decode cX12_setStatement 38 = .ok (.if_icmp .ne 12, 3) := by decide +kernel
theorem dX12_setStatement_41 : decode cX12_setStatement 41 = .ok (.aload_n 0, 1) := by decide +kernel
theorem dX12_setStatement_42 : decode cX12_setStatement 42 = .ok (.iconst 4, 1) := by decide +kernel
theorem dX12_setStatement_43 : decode cX12_setStatement 43 = .ok (.aload_n 0, 1) := by decide +kernel
theorem dX12_setStatement_44 : decode cX12_setStatement 44 = .ok (.getfield 197, 3) := by decide +kernel
theorem dX12_setStatement_47 : decode cX12_setStatement 47 = .ok (.invokevirtual 221, 3) := by decide +kernel
theorem dX12_setStatement_50 : decode cX12_setStatement 50 = .ok (.aload_n 0, 1) := by decide +kernel
theorem dX12_setStatement_51 : decode cX12_setStatement 51 = .ok (.dup, 1) := by decide +kernel
theorem dX12_setStatement_52 : decode cX12_setStatement 52 = .ok (.getfield 260, 3) := by decide +kernel
theorem dX12_setStatement_55 : decode cX12_setStatement 55 = .ok (.iconst 1, 1) := by decide +kernel
theorem dX12_setStatement_56 : decode cX12_setStatement 56 = .ok (.iadd, 1) := by decide +kernel
theorem dX12_setStatement_57 : decode cX12_setStatement 57 = .ok (.putfield 260, 3) := by decide +kernel
theorem dX12_setStatement_60 : decode cX12_setStatement 60 = .ok (.aload_n 0, 1) := by decide +kernel
theorem dX12_setStatement_61 : decode cX12_setStatement 61 = .ok (.bipush 91, 2) := by decide +kernel
theorem dX12_setStatement_63 : decode cX12_setStatement 63 = .ok (.invokevirtual 286, 3) := by decide +kernel
theorem dX12_setStatement_66 : decode cX12_setStatement 66 = .ok (.aload_n 0, 1) := by decide +kernel
theorem dX12_setStatement_67 : decode cX12_setStatement 67 = .ok (.getfield 191, 3) := by decide +kernel
theorem dX12_setStatement_70 : decode cX12_setStatement 70 = .ok (.ifCond .ne 7, 3) := by decide +kernel
theorem dX12_setStatement_73 : decode cX12_setStatement 73 = .ok (.aload_n 0, 1) := by decide +kernel
theorem dX12_setStatement_74 : decode cX12_setStatement 74 = .ok (.invokevirtual 317, 3) := by decide +kernel
theorem dX12_setStatement_77 : decode cX12_setStatement 77 = .ok (.aload_n 0, 1) := by decide +kernel
theorem dX12_setStatement_78 : decode cX12_setStatement 78 = .ok (.bipush 93, 2) := by decide +kernel
theorem dX12_setStatement_80 : decode cX12_setStatement 80 = .ok (.invokevirtual 286, 3) := by decide +kernel
theorem dX12_setStatement_83 : decode cX12_setStatement 83 = .ok (.aload_n 0, 1) := by decide +kernel
theorem dX12_setStatement_84 : decode cX12_setStatement 84 = .ok (.dup, 1) := by decide +kernel
theorem dX12_setStatement_85 : decode cX12_setStatement 85 = .ok (.getfield 260, 3) := by decide +kernel
theorem dX12_setStatement_88 : decode cX12_setStatement 88 = .ok (.iconst 1, 1) := by decide +kernel
theorem dX12_setStatement_89 : decode cX12_setStatement 89 = .ok (.isub, 1) := by decide +kernel
theorem dX12_setStatement_90 : decode cX12_setStatement 90 = .ok (.putfield 260, 3) := by decide +kernel
theorem dX12_setStatement_93 : decode cX12_setStatement 93 = .ok (.aload_n 0, 1) := by decide +kernel
theorem dX12_setStatement_94 : decode cX12_setStatement 94 = .ok (.bipush 61, 2) := by decide +kernel
theorem dX12_setStatement_96 : decode cX12_setStatement 96 = .ok (.invokevirtual 286, 3) := by decide +kernel
theorem dX12_setStatement_99 : decode cX12_setStatement 99 = .ok (.aload_n 0, 1) := by decide +kernel
theorem dX12_setStatement_100 : decode cX12_setStatement 100 = .ok (.getfield 246, 3) := by decide +kernel
theorem dX12_setStatement_103 : decode cX12_setStatement 103 = .ok (.iload_n 2, 1) := by decide +kernel
theorem dX12_setStatement_104 : decode cX12_setStatement 104 = .ok (.isub, 1) := by decide +kernel
theorem dX12_setStatement_105 : decode cX12_setStatement 105 = .ok (.istore_n 3, 1) := by decide +kernel
theorem dX12_setStatement_106 : decode cX12_setStatement 106 = .ok (.iconst 0, 1) := by decide +kernel
theorem dX12_setStatement_107 : decode cX12_setStatement 107 = .ok (.istore 4, 2) := by decide +kernel
theorem dX12_setStatement_109 : decode cX12_setStatement 109 = .ok (.iload 4, 2) := by decide +kernel
theorem dX12_setStatement_111 : decode cX12_setStatement 111 = .ok (.iload_n 3, 1) := by decide +kernel
theorem dX12_setStatement_112 : decode cX12_setStatement 112 = .ok (.if_icmp .ge 25, 3) := by decide +kernel
theorem dX12_setStatement_115 : decode cX12_setStatement 115 = .ok (.aload_n 0, 1) := by decide +kernel
theorem dX12_setStatement_116 : decode cX12_setStatement 116 = .ok (.getfield 94, 3) := by decide +kernel
theorem dX12_setStatement_119 : decode cX12_setStatement 119 = .ok (.iload 4, 2) := by decide +kernel
theorem dX12_setStatement_121 : decode cX12_setStatement 121 = .ok (.aload_n 0, 1) := by decide +kernel
theorem dX12_setStatement_122 : decode cX12_setStatement 122 = .ok (.getfield 69, 3) := by decide +kernel
theorem dX12_setStatement_125 : decode cX12_setStatement 125 = .ok (.iload_n 2, 1) := by decide +kernel
theorem dX12_setStatement_126 : decode cX12_setStatement 126 = .ok (.iload 4, 2) := by decide +kernel
theorem dX12_setStatement_128 : decode cX12_setStatement 128 = .ok (.iadd, 1) := by decide +kernel
theorem dX12_setStatement_129 : decode cX12_setStatement 129 = .ok (.iaload, 1) := by decide +kernel
theorem dX12_setStatement_130 : decode cX12_setStatement 130 = .ok (.iastore, 1) := by decide +kernel
theorem dX12_setStatement_131 : decode cX12_setStatement 131 = .ok (.iinc 4 1, 3) := by decide +kernel
theorem dX12_setStatement_134 : decode cX12_setStatement 134 = .ok (.goto (-25), 3) := by decide +kernel
theorem dX12_setStatement_137 : decode cX12_setStatement 137 = .ok (.aload_n 0, 1) := by decide +kernel
theorem dX12_setStatement_138 : decode cX12_setStatement 138 = .ok (.getfield 246, 3) := by decide +kernel
theorem dX12_setStatement_141 : decode cX12_setStatement 141 = .ok (.istore 4, 2) := by decide +kernel
theorem dX12_setStatement_143 : decode cX12_setStatement 143 = .ok (.aload_n 0, 1) := by decide +kernel
theorem dX12_setStatement_144 : decode cX12_setStatement 144 = .ok (.getfield 191, 3) := by decide +kernel
theorem dX12_setStatement_147 : decode cX12_setStatement 147 = .ok (.ifCond .ne 7, 3) := by decide +kernel
theorem dX12_setStatement_150 : decode cX12_setStatement 150 = .ok (.aload_n 0, 1) := by decide +kernel
theorem dX12_setStatement_151 : decode cX12_setStatement 151 = .ok (.invokevirtual 317, 3) := by decide +kernel
theorem dX12_setStatement_154 : decode cX12_setStatement 154 = .ok (.iload 4, 2) := by decide +kernel
theorem dX12_setStatement_156 : decode cX12_setStatement 156 = .ok (.istore 5, 2) := by decide +kernel
theorem dX12_setStatement_158 : decode cX12_setStatement 158 = .ok (.iload 5, 2) := by decide +kernel
theorem dX12_setStatement_160 : decode cX12_setStatement 160 = .ok (.aload_n 0, 1) := by decide +kernel
theorem dX12_setStatement_161 : decode cX12_setStatement 161 = .ok (.getfield 246, 3) := by decide +kernel
theorem dX12_setStatement_164 : decode cX12_setStatement 164 = .ok (.if_icmp .ge 25, 3) := by decide +kernel
theorem dX12_setStatement_167 : decode cX12_setStatement 167 = .ok (.aload_n 0, 1) := by decide +kernel
theorem dX12_setStatement_168 : decode cX12_setStatement 168 = .ok (.getfield 69, 3) := by decide +kernel
theorem dX12_setStatement_171 : decode cX12_setStatement 171 = .ok (.iload 5, 2) := by decide +kernel
theorem dX12_setStatement_173 : decode cX12_setStatement 173 = .ok (.iload_n 3, 1) := by decide +kernel
theorem dX12_setStatement_174 : decode cX12_setStatement 174 = .ok (.isub, 1) := by decide +kernel
theorem dX12_setStatement_175 : decode cX12_setStatement 175 = .ok (.aload_n 0, 1) := by decide +kernel
theorem dX12_setStatement_176 : decode cX12_setStatement 176 = .ok (.getfield 69, 3) := by decide +kernel
theorem dX12_setStatement_179 : decode cX12_setStatement 179 = .ok (.iload 5, 2) := by decide +kernel
theorem dX12_setStatement_181 : decode cX12_setStatement 181 = .ok (.iaload, 1) := by decide +kernel
theorem dX12_setStatement_182 : decode cX12_setStatement 182 = .ok (.iastore, 1) := by decide +kernel
theorem dX12_setStatement_183 : decode cX12_setStatement 183 = .ok (.iinc 5 1, 3) := by decide +kernel
theorem dX12_setStatement_186 : decode cX12_setStatement 186 = .ok (.goto (-28), 3) := by decide +kernel
theorem dX12_setStatement_189 : decode cX12_setStatement 189 = .ok (.iconst 0, 1) := by decide +kernel
theorem dX12_setStatement_190 : decode cX12_setStatement 190 = .ok (.istore 5, 2) := by decide +kernel
theorem dX12_setStatement_192 : decode cX12_setStatement 192 = .ok (.iload 5, 2) := by decide +kernel
theorem dX12_setStatement_194 : decode cX12_setStatement 194 = .ok (.iload_n 3, 1) := by decide +kernel
theorem dX12_setStatement_195 : decode cX12_setStatement 195 = .ok (.if_icmp .ge 30, 3) := by decide +kernel
theorem dX12_setStatement_198 : decode cX12_setStatement 198 = .ok (.aload_n 0, 1) := by decide +kernel
theorem dX12_setStatement_199 : decode cX12_setStatement 199 = .ok (.getfield 69, 3) := by decide +kernel
theorem dX12_setStatement_202 : decode cX12_setStatement 202 = .ok (.aload_n 0, 1) := by decide +kernel
theorem dX12_setStatement_203 : decode cX12_setStatement 203 = .ok (.getfield 246, 3) := by decide +kernel
theorem dX12_setStatement_206 : decode cX12_setStatement 206 = .ok (.iload_n 3, 1) := by decide +kernel
theorem dX12_setStatement_207 : decode cX12_setStatement 207 = .ok (.isub, 1) := by decide +kernel
theorem dX12_setStatement_208 : decode cX12_setStatement 208 = .ok (.iload 5, 2) := by decide +kernel
theorem dX12_setStatement_210 : decode cX12_setStatement 210 = .ok (.iadd, 1) := by decide +kernel
theorem dX12_setStatement_211 : decode cX12_setStatement 211 = .ok (.aload_n 0, 1) := by decide +kernel
theorem dX12_setStatement_212 : decode cX12_setStatement 212 = .ok (.getfield 94, 3) := by decide +kernel
theorem dX12_setStatement_215 : decode cX12_setStatement 215 = .ok (.iload 5, 2) := by decide +kernel
theorem dX12_setStatement_217 : decode cX12_setStatement 217 = .ok (.iaload, 1) := by decide +kernel
theorem dX12_setStatement_218 : decode cX12_setStatement 218 = .ok (.iastore, 1) := by decide +kernel
theorem dX12_setStatement_219 : decode cX12_setStatement 219 = .ok (.iinc 5 1, 3) := by decide +kernel
theorem dX12_setStatement_222 : decode cX12_setStatement 222 = .ok (.goto (-30), 3) := by decide +kernel
theorem dX12_setStatement_225 : decode cX12_setStatement 225 = .ok (.aload_n 0, 1) := by decide +kernel
theorem dX12_setStatement_226 : decode cX12_setStatement 226 = .ok (.iload_n 1, 1) := by decide +kernel
theorem dX12_setStatement_227 : decode cX12_setStatement 227 = .ok (.bipush 20, 2) := by decide +kernel
theorem dX12_setStatement_229 : decode cX12_setStatement 229 = .ok (.if_icmp .ge 11, 3) := by decide +kernel
theorem dX12_setStatement_232 : decode cX12_setStatement 232 = .ok (.sipush 300, 3) := by decide +kernel
theorem dX12_setStatement_235 : decode cX12_setStatement 235 = .ok (.iload_n 1, 1) := by decide +kernel
theorem dX12_setStatement_236 : decode cX12_setStatement 236 = .ok (.iadd, 1) := by decide +kernel
theorem dX12_setStatement_237 : decode cX12_setStatement 237 = .ok (.goto 11, 3) := by decide +kernel
theorem dX12_setStatement_240 : decode cX12_setStatement 240 = .ok (.sipush 400, 3) := by decide +kernel
theorem dX12_setStatement_243 : decode cX12_setStatement 243 = .ok (.iload_n 1, 1) := by decide +kernel
theorem dX12_setStatement_244 : decode cX12_setStatement 244 = .ok (.iadd, 1) := by decide +kernel
theorem dX12_setStatement_245 : decode cX12_setStatement 245 = .ok (.bipush 20, 2) := by decide +kernel
theorem dX12_setStatement_247 : decode cX12_setStatement 247 = .ok (.isub, 1) := by decide +kernel
theorem dX12_setStatement_248 : decode cX12_setStatement 248 = .ok (.invokevirtual 266, 3) := by decide +kernel
theorem dX12_setStatement_251 : decode cX12_setStatement 251 = .ok (.aload_n 0, 1) := by decide +kernel
theorem dX12_setStatement_252 : decode cX12_setStatement 252 = .ok (.bipush 59, 2) := by decide +kernel
theorem dX12_setStatement_254 : decode cX12_setStatement 254 = .ok (.invokevirtual 286, 3) := by decide +kernel
theorem dX12_setStatement_257 : decode cX12_setStatement 257 = .ok (.return_, 1) := by decide +kernel
def v_q_setStatement : List Cond := .code yX12_setStatement cX12_setStatement 6 none :: ([.fieldLink RX12 246 "SlopeRunnerModel" "coded" "I", .fieldLink RX12 69 "SlopeRunnerModel" "codes" "[I", .fieldLink RX12 94 "SlopeRunnerModel" "moved" "[I", .fieldLink RX12 191 "SlopeRunnerModel" "bad" "I", .fieldLink RX12 260 "SlopeRunnerModel" "open" "I", .fieldLink RX12 197 "SlopeRunnerModel" "at" "I"] ++ ((wsV RX12 286 RX12 yX12_asksSign v_q_asksSign) ++ ((wsV RX12 266 RX12 yX12_code v_q_code) ++ ((wsV RX12 317 RX12 yX12_sums v_q_sums) ++ ((wsV RX12 296 RX12 yX12_nameTold v_q_nameTold) ++ ((wsV RX12 203 RX12 yX12_look v_q_look3) ++ ((wsV RX12 286 RX12 yX12_asksSign v_q_asksSignN) ++ ((wsV RX12 221 RX12 yX12_fail v_q_fail) ++ wsX120))))))))
theorem g_q_setStatement_0 : GoodIn v_q_setStatement (wsV RX12 286 RX12 yX12_asksSign v_q_asksSign) := goodIn_sub (fun w h => List.mem_cons_of_mem _ (List.mem_append_right _ (List.mem_append_left _ h))) (by decide +kernel)
theorem g_q_setStatement_1 : GoodIn v_q_setStatement (wsV RX12 266 RX12 yX12_code v_q_code) := goodIn_sub (fun w h => List.mem_cons_of_mem _ (List.mem_append_right _ (List.mem_append_right _ (List.mem_append_left _ h)))) (by decide +kernel)
theorem g_q_setStatement_2 : GoodIn v_q_setStatement (wsV RX12 317 RX12 yX12_sums v_q_sums) := goodIn_sub (fun w h => List.mem_cons_of_mem _ (List.mem_append_right _ (List.mem_append_right _ (List.mem_append_right _ (List.mem_append_left _ h))))) (by decide +kernel)
theorem g_q_setStatement_3 : GoodIn v_q_setStatement (wsV RX12 296 RX12 yX12_nameTold v_q_nameTold) := goodIn_sub (fun w h => List.mem_cons_of_mem _ (List.mem_append_right _ (List.mem_append_right _ (List.mem_append_right _ (List.mem_append_right _ (List.mem_append_left _ h)))))) (by decide +kernel)
theorem g_q_setStatement_4 : GoodIn v_q_setStatement (wsV RX12 203 RX12 yX12_look v_q_look3) := goodIn_sub (fun w h => List.mem_cons_of_mem _ (List.mem_append_right _ (List.mem_append_right _ (List.mem_append_right _ (List.mem_append_right _ (List.mem_append_right _ (List.mem_append_left _ h))))))) (by decide +kernel)
theorem g_q_setStatement_5 : GoodIn v_q_setStatement (wsV RX12 286 RX12 yX12_asksSign v_q_asksSignN) := goodIn_sub (fun w h => List.mem_cons_of_mem _ (List.mem_append_right _ (List.mem_append_right _ (List.mem_append_right _ (List.mem_append_right _ (List.mem_append_right _ (List.mem_append_right _ (List.mem_append_left _ h)))))))) (by decide +kernel)
theorem g_q_setStatement_6 : GoodIn v_q_setStatement (wsV RX12 221 RX12 yX12_fail v_q_fail) := goodIn_sub (fun w h => List.mem_cons_of_mem _ (List.mem_append_right _ (List.mem_append_right _ (List.mem_append_right _ (List.mem_append_right _ (List.mem_append_right _ (List.mem_append_right _ (List.mem_append_right _ (List.mem_append_left _ h))))))))) (by decide +kernel)
set_option maxHeartbeats 4000000 in
set_option maxRecDepth 100000 in
theorem q_setStatement (l : Launch) (D : va_G) (y : Nat → ClassId) (sz : Nat) (ad : Nat → Nat) (zw : Nat → Nat → Int32) (σ : OS) (ha0 : 0 ≤ (σ.1 2).toInt) (ha1 : (σ.1 2).toInt ≤ (σ.1 3).toInt) (ha2 : (σ.1 3).toInt ≤ 700) (hb0 : (σ.1 5).toInt = 0) (hn0 : 0 ≤ (σ.1 33).toInt) (hn1 : (σ.1 33).toInt ≤ 24) (ho0 : 0 ≤ (σ.1 32).toInt) (ho1 : (σ.1 32).toInt ≤ 8) (hc0 : 0 ≤ (σ.1 29).toInt) (hha0 : 0 ≤ (σ.2.2.1 24 4).toInt) (hhb0 : (σ.2.2.1 24 4).toInt ≤ (σ.1 2).toInt + 20) (hwz : (σ.1 31).toInt = 0) (hbl0 : 0 ≤ (σ.1 39).toInt) (hcb : (σ.1 29).toInt + (σ.1 39).toInt + 3 ≤ (σ.1 2).toInt) (hpe : PE (σ.2.2.1 27) (σ.1 29).toInt.toNat (σ.2.2.1 24 4).toInt (σ.1 39).toInt.toNat (σ.2.2.1 36) (σ.2.2.1 37) (σ.2.2.1 38) [] true none) (hB35 : bI (σ.2.2.1 35) 0 23) (hB26 : bI (σ.2.2.1 26) 0 9999) : Met l yX12_setStatement v_q_setStatement ({ frames := 8, cells := 0, slots := 0, locals := 176 } : Room) (va_Pc [.ref (ad 1)] (xPre D (xT y) (mwd y ad zw σ) sz)) (va_Qv (fun (u : Int32 × Int32 × Int32 × Int32 × Int32 × Int32 × (Nat → Int32) × Int32 × (Nat → Int32) × Int32 × (Nat → Int32) × (Nat → Int32) × Int32 × (Nat → Int32)) => ((σ.1 2).toInt ≤ u.1.toInt ∧ u.1.toInt ≤ (σ.1 3).toInt ∧ (∀ k : Nat, k ≠ 4 → u.2.2.2.2.2.2.2.2.2.2.1 k = σ.2.2.1 24 k) ∧ (σ.2.2.1 24 4).toInt ≤ (u.2.2.2.2.2.2.2.2.2.2.1 4).toInt ∧ (u.2.2.1.toInt = 0 → (σ.1 2).toInt + 1 ≤ u.1.toInt ∧ (u.2.2.2.2.2.2.2.2.2.2.1 4).toInt - u.1.toInt ≤ (σ.2.2.1 24 4).toInt - (σ.1 2).toInt ∧ u.2.2.2.2.2.2.2.1.toInt = (σ.1 32).toInt ∧ 0 ≤ u.2.2.2.2.2.1.toInt ∧ u.2.2.2.2.2.1.toInt + (σ.1 39).toInt ≤ u.1.toInt ∧ PE u.2.2.2.2.2.2.1 u.2.2.2.2.2.1.toInt.toNat (u.2.2.2.2.2.2.2.2.2.2.1 4).toInt (σ.1 39).toInt.toNat (σ.2.2.1 36) (σ.2.2.1 37) (σ.2.2.1 38) [] true none)) ∧ bI u.2.2.2.2.2.2.2.2.2.2.2.1 0 9999) (fun (u : Int32 × Int32 × Int32 × Int32 × Int32 × Int32 × (Nat → Int32) × Int32 × (Nat → Int32) × Int32 × (Nat → Int32) × (Nat → Int32) × Int32 × (Nat → Int32)) => xB D (xT y) (va_A (mwd y ad zw σ) sz) (mwd y ad zw (tI (sI (tI (tI (sI (tI (sI (tI (sI (sI (sI (sI (sI (sI σ 2 u.1) 4 u.2.1) 5 u.2.2.1) 6 u.2.2.2.1) 23 u.2.2.2.2.1) 29 u.2.2.2.2.2.1) 27 u.2.2.2.2.2.2.1) 32 u.2.2.2.2.2.2.2.1) 30 u.2.2.2.2.2.2.2.2.1) 31 u.2.2.2.2.2.2.2.2.2.1) 24 u.2.2.2.2.2.2.2.2.2.2.1) 26 u.2.2.2.2.2.2.2.2.2.2.2.1) 40 u.2.2.2.2.2.2.2.2.2.2.2.2.1) 41 u.2.2.2.2.2.2.2.2.2.2.2.2.2))) (va_A (mwd y ad zw σ) sz)) 0 0 (va_A (mwd y ad zw σ) sz) := by
  refine x_metv (cc := cX12_setStatement) (maxL := 6) (by decide) rfl (Nat.le_of_ble_eq_true rfl) ?_
  intro p e s m below meth c A H locs Q hx hb hml hown hts hr hlocks hmn hA hP hK hD hS ls hl hQ
  have hl : lv_has ls 6 [(0, .ref (ad 1))] := hl
  have kk_61 : (61 : Int32).toInt = 61 := rfl
  have fl246 := hts (.fieldLink RX12 246 "SlopeRunnerModel" "coded" "I") (List.mem_of_getElem? (i := 1) rfl)
  have inX12 : ∀ w ∈ wsX120, w ∈ v_q_setStatement := (fun w h => List.mem_cons_of_mem _ (List.mem_append_right _ (List.mem_append_right _ (List.mem_append_right _ (List.mem_append_right _ (List.mem_append_right _ (List.mem_append_right _ (List.mem_append_right _ (List.mem_append_right _ h)))))))))
  have kk_20 : (20 : Int32).toInt = 20 := rfl
  have kk_400 : (400 : Int32).toInt = 400 := rfl
  have kk_59 : (59 : Int32).toInt = 59 := rfl
  have kk_300 : (300 : Int32).toInt = 300 := rfl
  have fl69 := hts (.fieldLink RX12 69 "SlopeRunnerModel" "codes" "[I") (List.mem_of_getElem? (i := 2) rfl)
  have fl94 := hts (.fieldLink RX12 94 "SlopeRunnerModel" "moved" "[I") (List.mem_of_getElem? (i := 3) rfl)
  have kk_1 : (1 : Int32).toInt = 1 := rfl
  have fl191 := hts (.fieldLink RX12 191 "SlopeRunnerModel" "bad" "I") (List.mem_of_getElem? (i := 4) rfl)
  have kk_0 : (0 : Int32).toInt = 0 := rfl
  have kk_91 : (91 : Int32).toInt = 91 := rfl
  have kk_93 : (93 : Int32).toInt = 93 := rfl
  have fl260 := hts (.fieldLink RX12 260 "SlopeRunnerModel" "open" "I") (List.mem_of_getElem? (i := 5) rfl)
  have kk_8 : (8 : Int32).toInt = 8 := rfl
  have fl197 := hts (.fieldLink RX12 197 "SlopeRunnerModel" "at" "I") (List.mem_of_getElem? (i := 6) rfl)
  have kk_4 : (4 : Int32).toInt = 4 := rfl
  have cut93 : ∀ (k : Int32) (a : Int32) (en : Int32) (bd : Int32) (bp : Int32) (np : Int32) (cd : Int32) (fc : Nat → Int32) (op : Int32) (fw : Nat → Int32) (ws : Int32) (fh : Nat → Int32) (fn : Nat → Int32) (ba : Int32) (H : Heap) (locs : List Loc) (ls : Array Slot), (0 ≤ k.toInt) → (k.toInt ≤ 23) → ((σ.1 2).toInt ≤ a.toInt) → (a.toInt ≤ (σ.1 3).toInt) → ((σ.1 29).toInt ≤ cd.toInt) → (cd.toInt - a.toInt ≤ (σ.1 29).toInt - (σ.1 2).toInt + 1) → (∀ q : Nat, q ≠ 4 → fh q = σ.2.2.1 24 q) → ((σ.2.2.1 24 4).toInt ≤ (fh 4).toInt) → (XE (bd.toInt = 0) ((σ.1 2).toInt + 1 ≤ a.toInt ∧ cd.toInt - a.toInt ≤ (σ.1 29).toInt - (σ.1 2).toInt ∧ (fh 4).toInt - a.toInt ≤ (σ.2.2.1 24 4).toInt - (σ.1 2).toInt ∧ ws.toInt = 0 ∧ op.toInt = (σ.1 32).toInt ∧ PC (σ.2.2.1 27) fc (σ.2.2.1 30) fw ((σ.1 29).toInt.toNat) (cd.toInt.toNat) 0 (1000 + (fh 4).toInt) (if k.toInt < 20 then [] else [true]))) → (bI fn 0 9999) → va_P D vwCl (mwd y ad zw (sI (tI (tI (sI (tI (sI (tI (sI (sI (sI (sI (sI (sI σ 2 a) 4 en) 5 bd) 6 bp) 23 np) 29 cd) 27 fc) 32 op) 30 fw) 31 ws) 24 fh) 26 fn) 40 ba)) H → va_D A (mwd y ad zw (sI (tI (tI (sI (tI (sI (tI (sI (sI (sI (sI (sI (sI σ 2 a) 4 en) 5 bd) 6 bp) 23 np) 29 cd) 27 fc) 32 op) 30 fw) 31 ws) 24 fh) 26 fn) 40 ba)) → va_S A s.heap H locs → lv_has ls 6 [(2, .int (σ.1 29)), (1, .int k), (0, .ref (ad 1))] → W p l e ({ frames := 8, cells := 0, slots := 0, locals := 176 } : Room) s m ([.ref (ad 1)] : List Value).toArray below meth c H locs 0 0 Q (F0 m 93 ls []) := by
    intro k a en bd bp np cd fc op fw ws fh fn ba H locs ls hk0 hk1 hA0 hA1 hC0 hpot hh hh4 hG hfn hP hD hS hl
    refine lv_aload_n hx hb dX12_setStatement_93 rfl (lv_at hl 2 rfl) ?_
    refine lv_bipush (v := 61) hx hb dX12_setStatement_94 (by decide) ?_
    refine x_callvW (va_runV (As := [.int 61]) (rest := []) ⟨hx, hb, hml, hown, hts⟩ (q_asksSign l D y H.size ad zw (sI (tI (tI (sI (tI (sI (tI (sI (sI (sI (sI (sI (sI σ 2 a) 4 en) 5 bd) 6 bp) 23 np) 29 cd) 27 fc) 32 op) 30 fw) 31 ws) 24 fh) 26 fn) 40 ba) 61 (by first | omega | decide) (show 0 ≤ (a).toInt from by first | omega | decide) (show (a).toInt ≤ ((σ.1 3)).toInt from by first | omega | decide) (show ((σ.1 3)).toInt ≤ 700 from by first | omega | decide)) (cwV 1 hts g_q_setStatement_0 rfl rfl rfl (by decide +kernel) ⟨Nat.le_of_ble_eq_true rfl, Nat.le_of_ble_eq_true rfl⟩) (x_preV (q := (RX12, TX12, 85)) hK hP hD (ci := 11) (q0 := 0) rfl mwd_o0) rfl rfl hl.1 rfl (lv_room (Nat.le_of_ble_eq_true rfl)) dX12_setStatement_96 ⟨Nat.le_of_ble_eq_true rfl, Nat.le_of_ble_eq_true rfl⟩) hP hD hS hA (fun u H locs hw hP hD hS => ?_)
    obtain ⟨n_1, n_2, n_3⟩ := u
    try dsimp only at hw
    have hP : va_P D vwCl (mwd y ad zw (sI (sI (sI (sI (tI (tI (sI (tI (sI (tI (sI (sI (sI (sI (sI (sI σ 2 a) 4 en) 5 bd) 6 bp) 23 np) 29 cd) 27 fc) 32 op) 30 fw) 31 ws) 24 fh) 26 fn) 40 ba) 2 n_1) 5 n_2) 6 n_3)) H := hP
    have hD : va_D A (mwd y ad zw (sI (sI (sI (sI (tI (tI (sI (tI (sI (tI (sI (sI (sI (sI (sI (sI σ 2 a) 4 en) 5 bd) 6 bp) 23 np) 29 cd) 27 fc) 32 op) 30 fw) 31 ws) 24 fh) 26 fn) 40 ba) 2 n_1) 5 n_2) 6 n_3)) := hD
    replace hw : (a).toInt ≤ n_1.toInt ∧ n_1.toInt ≤ ((σ.1 3)).toInt ∧ (n_2.toInt = 0 → (bd).toInt = 0 ∧ (a).toInt + 1 ≤ n_1.toInt) := hw
    have hs61 : XE (n_2.toInt = 0) (bd.toInt = 0 ∧ a.toInt + 1 ≤ n_1.toInt) := hw.2.2
    replace hw := And.intro hw.1 hw.2.1
    have hw61 := hw
    refine lv_aload_n hx hb dX12_setStatement_99 rfl (lv_at hl 2 rfl) ?_
    refine va_get (D := D) (ci := 11) (v := .int cd) (C := RX12) (T := TX12) (N := 85) hx hb hts inX12 hown hK hP 0 mwd_o0 rfl 29 (by decide) fl246 (fun _ h9 => h9) rfl dX12_setStatement_100 ?_
    refine lv_iload_n hx hb dX12_setStatement_103 rfl (lv_at hl 0 rfl) ?_
    refine lv_isub hx hb dX12_setStatement_104 ?_
    refine lv_topi (fun i_4 ei_4 => ?_)
    have vi_4 : i_4.toInt = cd.toInt - (σ.1 29).toInt := by have h9 := x_sub ei_4 (by omega) (by omega); omega
    refine lv_istore_n (lv' := [(3, .int i_4), (2, .int (σ.1 29)), (1, .int k), (0, .ref (ad 1))]) hx hb dX12_setStatement_105 rfl hl (by decide) rfl (fun ls hl => ?_)
    refine lv_iconst (v := 0) hx hb dX12_setStatement_106 (by decide) ?_
    refine lv_istore (lv' := [(4, .int 0), (3, .int i_4), (2, .int (σ.1 29)), (1, .int k), (0, .ref (ad 1))]) hx hb dX12_setStatement_107 hl (by decide) rfl (fun ls hl => ?_)
    have l00 : (0 : Int32).toInt = 0 := rfl
    have hP : va_P D vwCl (mwd y ad zw (tI (sI (sI (sI (sI (tI (tI (sI (tI (sI (tI (sI (sI (sI σ 4 en) 23 np) 29 cd) 27 fc) 32 op) 30 fw) 31 ws) 24 fh) 26 fn) 40 ba) 2 n_1) 5 n_2) 6 n_3) 41 (σ.2.2.1 41))) H := hP
    have hD : va_D A (mwd y ad zw (tI (sI (sI (sI (sI (tI (tI (sI (tI (sI (tI (sI (sI (sI σ 4 en) 23 np) 29 cd) 27 fc) 32 op) 30 fw) 31 ws) 24 fh) 26 fn) 40 ba) 2 n_1) 5 n_2) 6 n_3) 41 (σ.2.2.1 41))) := hD
    have loop : ∀ (fu : Nat) (i : Int32) (fm : Nat → Int32) (H : Heap) (locs : List Loc) (ls : Array Slot), (0 ≤ i.toInt) → (i.toInt ≤ i_4.toInt) → (∀ q : Nat, q < i.toInt.toNat → fm q = fc ((σ.1 29).toInt.toNat + q)) → (i_4.toInt - i.toInt < (fu : Int)) → va_P D vwCl (mwd y ad zw (tI (sI (sI (sI (sI (tI (tI (sI (tI (sI (tI (sI (sI (sI σ 4 en) 23 np) 29 cd) 27 fc) 32 op) 30 fw) 31 ws) 24 fh) 26 fn) 40 ba) 2 n_1) 5 n_2) 6 n_3) 41 fm)) H → va_D A (mwd y ad zw (tI (sI (sI (sI (sI (tI (tI (sI (tI (sI (tI (sI (sI (sI σ 4 en) 23 np) 29 cd) 27 fc) 32 op) 30 fw) 31 ws) 24 fh) 26 fn) 40 ba) 2 n_1) 5 n_2) 6 n_3) 41 fm)) → va_S A s.heap H locs → lv_has ls 6 [(4, .int i), (3, .int i_4), (2, .int (σ.1 29)), (1, .int k), (0, .ref (ad 1))] → W p l e ({ frames := 8, cells := 0, slots := 0, locals := 176 } : Room) s m ([.ref (ad 1)] : List Value).toArray below meth c H locs 0 0 Q (F0 m 109 ls []) := by
      intro fu
      induction fu with
      | zero =>
        intro i fm H locs ls hi0 hi1 hm1 hm
        exact absurd hm (by omega)
      | succ fu ih_loop =>
        intro i fm H locs ls hi0 hi1 hm1 hm hP hD hS hl
        refine lv_iload hx hb dX12_setStatement_109 (lv_at hl 0 rfl) ?_
        refine lv_iload_n hx hb dX12_setStatement_111 rfl (lv_at hl 1 rfl) ?_
        refine lv_icmp_ge (tgt := 137) hx hb dX12_setStatement_112 (by decide) (fun c_5 => ?_) (fun c_5 => ?_)
        · have kc_5 : i.toInt ≥ i_4.toInt := by have h9 := c_5; simp only [ge_iff_le, gt_iff_lt, x_lt, x_le, x_eq, ne_eq, Int32.not_lt, Int32.not_le] at h9; omega
          have cut154 : ∀ (a2 : Int32) (en2 : Int32) (bd2 : Int32) (bp2 : Int32) (np2 : Int32) (cd2 : Int32) (fc2 : Nat → Int32) (op2 : Int32) (fw2 : Nat → Int32) (ws2 : Int32) (fh2 : Nat → Int32) (fn2 : Nat → Int32) (ba2 : Int32) (H : Heap) (locs : List Loc) (ls : Array Slot), (a.toInt ≤ a2.toInt) → (a2.toInt ≤ (σ.1 3).toInt) → (cd.toInt ≤ cd2.toInt) → (cd2.toInt - a2.toInt ≤ (σ.1 29).toInt - (σ.1 2).toInt + 2) → (∀ q : Nat, q ≠ 4 → fh2 q = σ.2.2.1 24 q) → ((fh 4).toInt ≤ (fh2 4).toInt) → (XE (bd2.toInt = 0) (bd.toInt = 0 ∧ a.toInt + 1 ≤ a2.toInt ∧ cd2.toInt - a2.toInt ≤ cd.toInt - a.toInt - 1 ∧ (fh2 4).toInt - a2.toInt ≤ (fh 4).toInt - a.toInt ∧ op2.toInt = (σ.1 32).toInt ∧ PC fc fc2 fw fw2 (cd.toInt.toNat) (cd2.toInt.toNat) 0 (1000 + (fh2 4).toInt) [true])) → (bI fn2 0 9999) → va_P D vwCl (mwd y ad zw (sI (tI (tI (sI (tI (sI (tI (sI (sI (sI (sI (sI (sI (tI σ 41 fm) 2 a2) 4 en2) 5 bd2) 6 bp2) 23 np2) 29 cd2) 27 fc2) 32 op2) 30 fw2) 31 ws2) 24 fh2) 26 fn2) 40 ba2)) H → va_D A (mwd y ad zw (sI (tI (tI (sI (tI (sI (tI (sI (sI (sI (sI (sI (sI (tI σ 41 fm) 2 a2) 4 en2) 5 bd2) 6 bp2) 23 np2) 29 cd2) 27 fc2) 32 op2) 30 fw2) 31 ws2) 24 fh2) 26 fn2) 40 ba2)) → va_S A s.heap H locs → lv_has ls 6 [(4, .int cd), (3, .int i_4), (2, .int (σ.1 29)), (1, .int k), (0, .ref (ad 1))] → W p l e ({ frames := 8, cells := 0, slots := 0, locals := 176 } : Room) s m ([.ref (ad 1)] : List Value).toArray below meth c H locs 0 0 Q (F0 m 154 ls []) := by
            intro a2 en2 bd2 bp2 np2 cd2 fc2 op2 fw2 ws2 fh2 fn2 ba2 H locs ls hA2 hA3 hC2 hpot2 hh2 hh42 hG2 hfn2 hP hD hS hl
            refine lv_iload hx hb dX12_setStatement_154 (lv_at hl 0 rfl) ?_
            refine lv_istore (lv' := [(5, .int cd), (4, .int cd), (3, .int i_4), (2, .int (σ.1 29)), (1, .int k), (0, .ref (ad 1))]) hx hb dX12_setStatement_156 hl (by decide) rfl (fun ls hl => ?_)
            have hP : va_P D vwCl (mwd y ad zw (tI (sI (tI (tI (sI (tI (sI (sI (sI (sI (sI (sI (sI (tI σ 41 fm) 2 a2) 4 en2) 5 bd2) 6 bp2) 23 np2) 29 cd2) 32 op2) 30 fw2) 31 ws2) 24 fh2) 26 fn2) 40 ba2) 27 fc2)) H := hP
            have hD : va_D A (mwd y ad zw (tI (sI (tI (tI (sI (tI (sI (sI (sI (sI (sI (sI (sI (tI σ 41 fm) 2 a2) 4 en2) 5 bd2) 6 bp2) 23 np2) 29 cd2) 32 op2) 30 fw2) 31 ws2) 24 fh2) 26 fn2) 40 ba2) 27 fc2)) := hD
            have loop2 : ∀ (fu : Nat) (i2 : Int32) (fz : Nat → Int32) (H : Heap) (locs : List Loc) (ls : Array Slot), (cd.toInt ≤ i2.toInt) → (i2.toInt ≤ cd2.toInt) → (∀ q : Nat, q < (σ.1 29).toInt.toNat → fz q = fc2 q) → (∀ q : Nat, (σ.1 29).toInt.toNat ≤ q → q < (i2.toInt - i_4.toInt).toNat → fz q = fc2 (q + i_4.toInt.toNat)) → (∀ q : Nat, i2.toInt.toNat ≤ q → fz q = fc2 q) → (cd2.toInt - i2.toInt < (fu : Int)) → va_P D vwCl (mwd y ad zw (tI (sI (tI (tI (sI (tI (sI (sI (sI (sI (sI (sI (sI (tI σ 41 fm) 2 a2) 4 en2) 5 bd2) 6 bp2) 23 np2) 29 cd2) 32 op2) 30 fw2) 31 ws2) 24 fh2) 26 fn2) 40 ba2) 27 fz)) H → va_D A (mwd y ad zw (tI (sI (tI (tI (sI (tI (sI (sI (sI (sI (sI (sI (sI (tI σ 41 fm) 2 a2) 4 en2) 5 bd2) 6 bp2) 23 np2) 29 cd2) 32 op2) 30 fw2) 31 ws2) 24 fh2) 26 fn2) 40 ba2) 27 fz)) → va_S A s.heap H locs → lv_has ls 6 [(5, .int i2), (4, .int cd), (3, .int i_4), (2, .int (σ.1 29)), (1, .int k), (0, .ref (ad 1))] → W p l e ({ frames := 8, cells := 0, slots := 0, locals := 176 } : Room) s m ([.ref (ad 1)] : List Value).toArray below meth c H locs 0 0 Q (F0 m 158 ls []) := by
              intro fu
              induction fu with
              | zero =>
                intro i2 fz H locs ls hi2 hi3 hz0 hz1 hz2 hm
                exact absurd hm (by omega)
              | succ fu ih_loop2 =>
                intro i2 fz H locs ls hi2 hi3 hz0 hz1 hz2 hm hP hD hS hl
                refine lv_iload hx hb dX12_setStatement_158 (lv_at hl 0 rfl) ?_
                refine lv_aload_n hx hb dX12_setStatement_160 rfl (lv_at hl 5 rfl) ?_
                refine va_get (D := D) (ci := 11) (v := .int cd2) (C := RX12) (T := TX12) (N := 85) hx hb hts inX12 hown hK hP 0 mwd_o0 rfl 29 (by decide) fl246 (fun _ h9 => h9) rfl dX12_setStatement_161 ?_
                refine lv_icmp_ge (tgt := 189) hx hb dX12_setStatement_164 (by decide) (fun c_6 => ?_) (fun c_6 => ?_)
                · have kc_6 : i2.toInt ≥ cd2.toInt := by have h9 := c_6; simp only [ge_iff_le, gt_iff_lt, x_lt, x_le, x_eq, ne_eq, Int32.not_lt, Int32.not_le] at h9; omega
                  refine lv_iconst (v := 0) hx hb dX12_setStatement_189 (by decide) ?_
                  refine lv_istore (lv' := [(5, .int 0), (4, .int cd), (3, .int i_4), (2, .int (σ.1 29)), (1, .int k), (0, .ref (ad 1))]) hx hb dX12_setStatement_190 hl (by decide) rfl (fun ls hl => ?_)
                  have l00 : (0 : Int32).toInt = 0 := rfl
                  have loop3 : ∀ (fu : Nat) (i3 : Int32) (fy : Nat → Int32) (H : Heap) (locs : List Loc) (ls : Array Slot), (0 ≤ i3.toInt) → (i3.toInt ≤ i_4.toInt) → (∀ q : Nat, q < (cd2.toInt - i_4.toInt).toNat → fy q = fz q) → (∀ q : Nat, q < i3.toInt.toNat → fy ((cd2.toInt - i_4.toInt).toNat + q) = fm q) → (i_4.toInt - i3.toInt < (fu : Int)) → va_P D vwCl (mwd y ad zw (tI (sI (tI (tI (sI (tI (sI (sI (sI (sI (sI (sI (sI (tI σ 41 fm) 2 a2) 4 en2) 5 bd2) 6 bp2) 23 np2) 29 cd2) 32 op2) 30 fw2) 31 ws2) 24 fh2) 26 fn2) 40 ba2) 27 fy)) H → va_D A (mwd y ad zw (tI (sI (tI (tI (sI (tI (sI (sI (sI (sI (sI (sI (sI (tI σ 41 fm) 2 a2) 4 en2) 5 bd2) 6 bp2) 23 np2) 29 cd2) 32 op2) 30 fw2) 31 ws2) 24 fh2) 26 fn2) 40 ba2) 27 fy)) → va_S A s.heap H locs → lv_has ls 6 [(5, .int i3), (4, .int cd), (3, .int i_4), (2, .int (σ.1 29)), (1, .int k), (0, .ref (ad 1))] → W p l e ({ frames := 8, cells := 0, slots := 0, locals := 176 } : Room) s m ([.ref (ad 1)] : List Value).toArray below meth c H locs 0 0 Q (F0 m 192 ls []) := by
                    intro fu
                    induction fu with
                    | zero =>
                      intro i3 fy H locs ls hi4 hi5 hy0 hy1 hm
                      exact absurd hm (by omega)
                    | succ fu ih_loop3 =>
                      intro i3 fy H locs ls hi4 hi5 hy0 hy1 hm hP hD hS hl
                      refine lv_iload hx hb dX12_setStatement_192 (lv_at hl 0 rfl) ?_
                      refine lv_iload_n hx hb dX12_setStatement_194 rfl (lv_at hl 2 rfl) ?_
                      refine lv_icmp_ge (tgt := 225) hx hb dX12_setStatement_195 (by decide) (fun c_7 => ?_) (fun c_7 => ?_)
                      · have kc_7 : i3.toInt ≥ i_4.toInt := by have h9 := c_7; simp only [ge_iff_le, gt_iff_lt, x_lt, x_le, x_eq, ne_eq, Int32.not_lt, Int32.not_le] at h9; omega
                        have hsw : XE (bd2.toInt = 0) (PC (σ.2.2.1 27) fy fw2 fw2 ((σ.1 29).toInt.toNat) (cd2.toInt.toNat) 0 (1000 + (fh2 4).toInt) ((if k.toInt < 20 then [] else [true]) ++ [true])) := by
                          intro h9
                          obtain ⟨h91, h92, h93, h94, h95, h96⟩ := hG2 h9
                          obtain ⟨h81, h82, h83, h84, h85, h86⟩ := hG h91
                          refine PC_swap h86 h96 (by omega) (fun q hq => ?_) (fun q hq => ?_) (fun q hq => ?_)
                          · rw [hy0 q (by omega), hz0 q hq]
                          · rw [hy0 _ (by omega), hz1 _ (by omega) (by omega)]; exact congrArg fc2 (by omega)
                          · rw [← hm1 q (by omega), ← hy1 q (by omega)]; exact congrArg fy (by omega)
                        refine lv_aload_n hx hb dX12_setStatement_225 rfl (lv_at hl 5 rfl) ?_
                        refine lv_iload_n hx hb dX12_setStatement_226 rfl (lv_at hl 4 rfl) ?_
                        refine lv_bipush (v := 20) hx hb dX12_setStatement_227 (by decide) ?_
                        refine lv_icmp_ge (tgt := 240) hx hb dX12_setStatement_229 (by decide) (fun c_8 => ?_) (fun c_8 => ?_)
                        · have kc_8 : k.toInt ≥ 20 := by have h9 := c_8; simp only [ge_iff_le, gt_iff_lt, x_lt, x_le, x_eq, ne_eq, Int32.not_lt, Int32.not_le] at h9; simp only [Int32.reduceToInt] at h9; omega
                          refine lv_sipush (v := 400) hx hb dX12_setStatement_240 (by decide) ?_
                          refine lv_iload_n hx hb dX12_setStatement_243 rfl (lv_at hl 4 rfl) ?_
                          refine lv_iadd hx hb dX12_setStatement_244 ?_
                          refine lv_topi (fun i_9 ei_9 => ?_)
                          have vi_9 : i_9.toInt = 400 + k.toInt := by have h9 := x_add ei_9 (by omega) (by omega); omega
                          refine lv_bipush (v := 20) hx hb dX12_setStatement_245 (by decide) ?_
                          refine lv_isub hx hb dX12_setStatement_247 ?_
                          refine lv_topi (fun i_10 ei_10 => ?_)
                          have vi_10 : i_10.toInt = i_9.toInt - 20 := by have h9 := x_sub ei_10 (by omega) (by omega); omega
                          refine x_callvW (va_runV (As := [.int i_10]) (rest := []) ⟨hx, hb, hml, hown, hts⟩ (q_code l D y H.size ad zw (tI (sI (tI (tI (sI (tI (sI (sI (sI (sI (sI (sI (sI (tI σ 41 fm) 2 a2) 4 en2) 5 bd2) 6 bp2) 23 np2) 29 cd2) 32 op2) 30 fw2) 31 ws2) 24 fh2) 26 fn2) 40 ba2) 27 fy) i_10 (show 0 ≤ (cd2).toInt from by first | omega | decide) (show (cd2).toInt < 1200 from by first | omega | decide)) (cwV 1 hts g_q_setStatement_1 rfl rfl rfl (by decide +kernel) ⟨Nat.le_of_ble_eq_true rfl, Nat.le_of_ble_eq_true rfl⟩) (x_preV (q := (RX12, TX12, 85)) hK hP hD (ci := 11) (q0 := 0) rfl mwd_o0) rfl rfl hl.1 rfl (lv_room (Nat.le_of_ble_eq_true rfl)) dX12_setStatement_248 ⟨Nat.le_of_ble_eq_true rfl, Nat.le_of_ble_eq_true rfl⟩) hP hD hS hA (fun u H locs hw hP hD hS => ?_)
                          obtain ⟨n_11, f_12⟩ := u
                          try dsimp only at hw
                          have hP : va_P D vwCl (mwd y ad zw (tI (sI (tI (sI (tI (tI (sI (tI (sI (sI (sI (sI (sI (sI (sI (tI σ 41 fm) 2 a2) 4 en2) 5 bd2) 6 bp2) 23 np2) 29 cd2) 32 op2) 30 fw2) 31 ws2) 24 fh2) 26 fn2) 40 ba2) 27 fy) 29 n_11) 27 f_12)) H := hP
                          have hD : va_D A (mwd y ad zw (tI (sI (tI (sI (tI (tI (sI (tI (sI (sI (sI (sI (sI (sI (sI (tI σ 41 fm) 2 a2) 4 en2) 5 bd2) 6 bp2) 23 np2) 29 cd2) 32 op2) 30 fw2) 31 ws2) 24 fh2) 26 fn2) 40 ba2) 27 fy) 29 n_11) 27 f_12)) := hD
                          replace hw : n_11.toInt = (cd2).toInt + 1 ∧ f_12 = upd (fy) (cd2).toInt.toNat i_10 := hw
                          obtain ⟨hcd1, hcd2⟩ := hw
                          refine lv_aload_n hx hb dX12_setStatement_251 rfl (lv_at hl 5 rfl) ?_
                          refine lv_bipush (v := 59) hx hb dX12_setStatement_252 (by decide) ?_
                          refine x_callvW (va_runV (As := [.int 59]) (rest := []) ⟨hx, hb, hml, hown, hts⟩ (q_asksSign l D y H.size ad zw (tI (sI (tI (sI (tI (tI (sI (tI (sI (sI (sI (sI (sI (sI (sI (tI σ 41 fm) 2 a2) 4 en2) 5 bd2) 6 bp2) 23 np2) 29 cd2) 32 op2) 30 fw2) 31 ws2) 24 fh2) 26 fn2) 40 ba2) 27 fy) 29 n_11) 27 f_12) 59 (by first | omega | decide) (show 0 ≤ (a2).toInt from by first | omega | decide) (show (a2).toInt ≤ ((σ.1 3)).toInt from by first | omega | decide) (show ((σ.1 3)).toInt ≤ 700 from by first | omega | decide)) (cwV 1 hts g_q_setStatement_0 rfl rfl rfl (by decide +kernel) ⟨Nat.le_of_ble_eq_true rfl, Nat.le_of_ble_eq_true rfl⟩) (x_preV (q := (RX12, TX12, 85)) hK hP hD (ci := 11) (q0 := 0) rfl mwd_o0) rfl rfl hl.1 rfl (lv_room (Nat.le_of_ble_eq_true rfl)) dX12_setStatement_254 ⟨Nat.le_of_ble_eq_true rfl, Nat.le_of_ble_eq_true rfl⟩) hP hD hS hA (fun u H locs hw hP hD hS => ?_)
                          obtain ⟨n_13, n_14, n_15⟩ := u
                          try dsimp only at hw
                          have hP : va_P D vwCl (mwd y ad zw (sI (sI (sI (tI (sI (tI (sI (tI (tI (sI (tI (sI (sI (sI (sI (sI (sI (sI (tI σ 41 fm) 2 a2) 4 en2) 5 bd2) 6 bp2) 23 np2) 29 cd2) 32 op2) 30 fw2) 31 ws2) 24 fh2) 26 fn2) 40 ba2) 27 fy) 29 n_11) 27 f_12) 2 n_13) 5 n_14) 6 n_15)) H := hP
                          have hD : va_D A (mwd y ad zw (sI (sI (sI (tI (sI (tI (sI (tI (tI (sI (tI (sI (sI (sI (sI (sI (sI (sI (tI σ 41 fm) 2 a2) 4 en2) 5 bd2) 6 bp2) 23 np2) 29 cd2) 32 op2) 30 fw2) 31 ws2) 24 fh2) 26 fn2) 40 ba2) 27 fy) 29 n_11) 27 f_12) 2 n_13) 5 n_14) 6 n_15)) := hD
                          replace hw : (a2).toInt ≤ n_13.toInt ∧ n_13.toInt ≤ ((σ.1 3)).toInt ∧ (n_14.toInt = 0 → (bd2).toInt = 0 ∧ (a2).toInt + 1 ≤ n_13.toInt) := hw
                          have hs59 : XE (n_14.toInt = 0) (bd2.toInt = 0 ∧ a2.toInt + 1 ≤ n_13.toInt) := hw.2.2
                          replace hw := And.intro hw.1 hw.2.1
                          have hw59 := hw
                          have hP : va_P D vwCl (mwd y ad zw (tI (sI (tI (tI (sI (tI (sI (tI (sI (sI (sI (sI (sI (sI σ 2 n_13) 4 en2) 5 n_14) 6 n_15) 23 np2) 29 n_11) 27 f_12) 32 op2) 30 fw2) 31 ws2) 24 fh2) 26 fn2) 40 ba2) 41 fm)) H := hP
                          have hD : va_D A (mwd y ad zw (tI (sI (tI (tI (sI (tI (sI (tI (sI (sI (sI (sI (sI (sI σ 2 n_13) 4 en2) 5 n_14) 6 n_15) 23 np2) 29 n_11) 27 f_12) 32 op2) 30 fw2) 31 ws2) 24 fh2) 26 fn2) 40 ba2) 41 fm)) := hD
                          exact x_vretW (u := (n_13, en2, n_14, n_15, np2, n_11, f_12, op2, fw2, ws2, fh2, fn2, ba2, fm)) hx hb hr hQ (by (try dsimp only); exact ⟨⟨by omega, by omega, hh2, by omega, fun h9 => by obtain ⟨h71, h72⟩ := hs59 h9; obtain ⟨h91, h92, h93, h94, h95, h96⟩ := hG2 h71; obtain ⟨h81, h82, h83, h84, h85, h86⟩ := hG h91; have h61 := hsw h71; rw [(if_neg (by omega))] at h61; exact ⟨by omega, by omega, by omega, by omega, by omega, by rw [hcd2, show n_11.toInt.toNat = cd2.toInt.toNat + 1 by omega]; exact PE_setrw hpe h61 (by omega) ⟨by omega, by omega⟩⟩⟩, hfn2⟩) hP hD hK hS dX12_setStatement_257 hlocks
                        · have kc_8 : k.toInt < 20 := by have h9 := c_8; simp only [ge_iff_le, gt_iff_lt, x_lt, x_le, x_eq, ne_eq, Int32.not_lt, Int32.not_le] at h9; simp only [Int32.reduceToInt] at h9; omega
                          refine lv_sipush (v := 300) hx hb dX12_setStatement_232 (by decide) ?_
                          refine lv_iload_n hx hb dX12_setStatement_235 rfl (lv_at hl 4 rfl) ?_
                          refine lv_iadd hx hb dX12_setStatement_236 ?_
                          refine lv_topi (fun i_16 ei_16 => ?_)
                          have vi_16 : i_16.toInt = 300 + k.toInt := by have h9 := x_add ei_16 (by omega) (by omega); omega
                          refine lv_goto (tgt := 248) hx hb dX12_setStatement_237 (by decide) ?_
                          refine x_callvW (va_runV (As := [.int i_16]) (rest := []) ⟨hx, hb, hml, hown, hts⟩ (q_code l D y H.size ad zw (tI (sI (tI (tI (sI (tI (sI (sI (sI (sI (sI (sI (sI (tI σ 41 fm) 2 a2) 4 en2) 5 bd2) 6 bp2) 23 np2) 29 cd2) 32 op2) 30 fw2) 31 ws2) 24 fh2) 26 fn2) 40 ba2) 27 fy) i_16 (show 0 ≤ (cd2).toInt from by first | omega | decide) (show (cd2).toInt < 1200 from by first | omega | decide)) (cwV 1 hts g_q_setStatement_1 rfl rfl rfl (by decide +kernel) ⟨Nat.le_of_ble_eq_true rfl, Nat.le_of_ble_eq_true rfl⟩) (x_preV (q := (RX12, TX12, 85)) hK hP hD (ci := 11) (q0 := 0) rfl mwd_o0) rfl rfl hl.1 rfl (lv_room (Nat.le_of_ble_eq_true rfl)) dX12_setStatement_248 ⟨Nat.le_of_ble_eq_true rfl, Nat.le_of_ble_eq_true rfl⟩) hP hD hS hA (fun u H locs hw hP hD hS => ?_)
                          obtain ⟨n_17, f_18⟩ := u
                          try dsimp only at hw
                          have hP : va_P D vwCl (mwd y ad zw (tI (sI (tI (sI (tI (tI (sI (tI (sI (sI (sI (sI (sI (sI (sI (tI σ 41 fm) 2 a2) 4 en2) 5 bd2) 6 bp2) 23 np2) 29 cd2) 32 op2) 30 fw2) 31 ws2) 24 fh2) 26 fn2) 40 ba2) 27 fy) 29 n_17) 27 f_18)) H := hP
                          have hD : va_D A (mwd y ad zw (tI (sI (tI (sI (tI (tI (sI (tI (sI (sI (sI (sI (sI (sI (sI (tI σ 41 fm) 2 a2) 4 en2) 5 bd2) 6 bp2) 23 np2) 29 cd2) 32 op2) 30 fw2) 31 ws2) 24 fh2) 26 fn2) 40 ba2) 27 fy) 29 n_17) 27 f_18)) := hD
                          replace hw : n_17.toInt = (cd2).toInt + 1 ∧ f_18 = upd (fy) (cd2).toInt.toNat i_16 := hw
                          obtain ⟨hcd1, hcd2⟩ := hw
                          refine lv_aload_n hx hb dX12_setStatement_251 rfl (lv_at hl 5 rfl) ?_
                          refine lv_bipush (v := 59) hx hb dX12_setStatement_252 (by decide) ?_
                          refine x_callvW (va_runV (As := [.int 59]) (rest := []) ⟨hx, hb, hml, hown, hts⟩ (q_asksSign l D y H.size ad zw (tI (sI (tI (sI (tI (tI (sI (tI (sI (sI (sI (sI (sI (sI (sI (tI σ 41 fm) 2 a2) 4 en2) 5 bd2) 6 bp2) 23 np2) 29 cd2) 32 op2) 30 fw2) 31 ws2) 24 fh2) 26 fn2) 40 ba2) 27 fy) 29 n_17) 27 f_18) 59 (by first | omega | decide) (show 0 ≤ (a2).toInt from by first | omega | decide) (show (a2).toInt ≤ ((σ.1 3)).toInt from by first | omega | decide) (show ((σ.1 3)).toInt ≤ 700 from by first | omega | decide)) (cwV 1 hts g_q_setStatement_0 rfl rfl rfl (by decide +kernel) ⟨Nat.le_of_ble_eq_true rfl, Nat.le_of_ble_eq_true rfl⟩) (x_preV (q := (RX12, TX12, 85)) hK hP hD (ci := 11) (q0 := 0) rfl mwd_o0) rfl rfl hl.1 rfl (lv_room (Nat.le_of_ble_eq_true rfl)) dX12_setStatement_254 ⟨Nat.le_of_ble_eq_true rfl, Nat.le_of_ble_eq_true rfl⟩) hP hD hS hA (fun u H locs hw hP hD hS => ?_)
                          obtain ⟨n_19, n_20, n_21⟩ := u
                          try dsimp only at hw
                          have hP : va_P D vwCl (mwd y ad zw (sI (sI (sI (tI (sI (tI (sI (tI (tI (sI (tI (sI (sI (sI (sI (sI (sI (sI (tI σ 41 fm) 2 a2) 4 en2) 5 bd2) 6 bp2) 23 np2) 29 cd2) 32 op2) 30 fw2) 31 ws2) 24 fh2) 26 fn2) 40 ba2) 27 fy) 29 n_17) 27 f_18) 2 n_19) 5 n_20) 6 n_21)) H := hP
                          have hD : va_D A (mwd y ad zw (sI (sI (sI (tI (sI (tI (sI (tI (tI (sI (tI (sI (sI (sI (sI (sI (sI (sI (tI σ 41 fm) 2 a2) 4 en2) 5 bd2) 6 bp2) 23 np2) 29 cd2) 32 op2) 30 fw2) 31 ws2) 24 fh2) 26 fn2) 40 ba2) 27 fy) 29 n_17) 27 f_18) 2 n_19) 5 n_20) 6 n_21)) := hD
                          replace hw : (a2).toInt ≤ n_19.toInt ∧ n_19.toInt ≤ ((σ.1 3)).toInt ∧ (n_20.toInt = 0 → (bd2).toInt = 0 ∧ (a2).toInt + 1 ≤ n_19.toInt) := hw
                          have hs59 : XE (n_20.toInt = 0) (bd2.toInt = 0 ∧ a2.toInt + 1 ≤ n_19.toInt) := hw.2.2
                          replace hw := And.intro hw.1 hw.2.1
                          have hw59 := hw
                          have hP : va_P D vwCl (mwd y ad zw (tI (sI (tI (tI (sI (tI (sI (tI (sI (sI (sI (sI (sI (sI σ 2 n_19) 4 en2) 5 n_20) 6 n_21) 23 np2) 29 n_17) 27 f_18) 32 op2) 30 fw2) 31 ws2) 24 fh2) 26 fn2) 40 ba2) 41 fm)) H := hP
                          have hD : va_D A (mwd y ad zw (tI (sI (tI (tI (sI (tI (sI (tI (sI (sI (sI (sI (sI (sI σ 2 n_19) 4 en2) 5 n_20) 6 n_21) 23 np2) 29 n_17) 27 f_18) 32 op2) 30 fw2) 31 ws2) 24 fh2) 26 fn2) 40 ba2) 41 fm)) := hD
                          exact x_vretW (u := (n_19, en2, n_20, n_21, np2, n_17, f_18, op2, fw2, ws2, fh2, fn2, ba2, fm)) hx hb hr hQ (by (try dsimp only); exact ⟨⟨by omega, by omega, hh2, by omega, fun h9 => by obtain ⟨h71, h72⟩ := hs59 h9; obtain ⟨h91, h92, h93, h94, h95, h96⟩ := hG2 h71; obtain ⟨h81, h82, h83, h84, h85, h86⟩ := hG h91; have h61 := hsw h71; rw [(if_pos (by omega))] at h61; exact ⟨by omega, by omega, by omega, by omega, by omega, by rw [hcd2, show n_17.toInt.toNat = cd2.toInt.toNat + 1 by omega]; exact PE_setw hpe h61 (by omega) (Or.inl ⟨by omega, by omega⟩)⟩⟩, hfn2⟩) hP hD hK hS dX12_setStatement_257 hlocks
                      · have kc_7 : i3.toInt < i_4.toInt := by have h9 := c_7; simp only [ge_iff_le, gt_iff_lt, x_lt, x_le, x_eq, ne_eq, Int32.not_lt, Int32.not_le] at h9; omega
                        refine lv_aload_n hx hb dX12_setStatement_198 rfl (lv_at hl 5 rfl) ?_
                        refine va_get (D := D) (ci := 11) (v := .ref (ad 27)) (C := RX12) (T := TX12) (N := 85) hx hb hts inX12 hown hK hP 0 mwd_o0 rfl 27 (by decide) fl69 (fun _ h9 => h9) rfl dX12_setStatement_199 ?_
                        refine lv_aload_n hx hb dX12_setStatement_202 rfl (lv_at hl 5 rfl) ?_
                        refine va_get (D := D) (ci := 11) (v := .int cd2) (C := RX12) (T := TX12) (N := 85) hx hb hts inX12 hown hK hP 0 mwd_o0 rfl 29 (by decide) fl246 (fun _ h9 => h9) rfl dX12_setStatement_203 ?_
                        refine lv_iload_n hx hb dX12_setStatement_206 rfl (lv_at hl 2 rfl) ?_
                        refine lv_isub hx hb dX12_setStatement_207 ?_
                        refine lv_topi (fun i_22 ei_22 => ?_)
                        have vi_22 : i_22.toInt = cd2.toInt - i_4.toInt := by have h9 := x_sub ei_22 (by omega) (by omega); omega
                        refine lv_iload hx hb dX12_setStatement_208 (lv_at hl 0 rfl) ?_
                        refine lv_iadd hx hb dX12_setStatement_210 ?_
                        refine lv_topi (fun i_23 ei_23 => ?_)
                        have vi_23 : i_23.toInt = i_22.toInt + i3.toInt := by have h9 := x_add ei_23 (by omega) (by omega); omega
                        refine lv_aload_n hx hb dX12_setStatement_211 rfl (lv_at hl 5 rfl) ?_
                        refine va_get (D := D) (ci := 11) (v := .ref (ad 41)) (C := RX12) (T := TX12) (N := 85) hx hb hts inX12 hown hK hP 0 mwd_o0 rfl 41 (by decide) fl94 (fun _ h9 => h9) rfl dX12_setStatement_212 ?_
                        refine lv_iload hx hb dX12_setStatement_215 (lv_at hl 0 rfl) ?_
                        refine va_iald hx hb hK hP 27 2 mwd_a27 rfl (x_in (by omega) (by omega)) dX12_setStatement_217 ?_
                        refine lv_topi (fun i_24 ei_24 => ?_)
                        have ei_24 : i_24 = fm (Int32.toNatClampNeg i3) := ei_24
                        have qi_24 : i_24 = fm i3.toInt.toNat := by rw [ei_24]; rfl
                        refine va_iast hx hb hK hP hD hS 19 2 mwd_a19 rfl (x_in (by omega) (by omega)) dX12_setStatement_218 (fun H locs hP hD hS => ?_)
                        obtain ⟨f_25, ef_25⟩ : ∃ z9 : Nat → Int32, z9 = (upd fy (Int32.toNatClampNeg i_23) i_24) := ⟨_, rfl⟩
                        rw [cj_ulo (by show Int.toNat _ < _; omega)] at hP hD
                        have hP : va_P D vwCl (mwd y ad zw (tI (tI (sI (tI (tI (sI (tI (sI (sI (sI (sI (sI (sI (sI (tI σ 41 fm) 2 a2) 4 en2) 5 bd2) 6 bp2) 23 np2) 29 cd2) 32 op2) 30 fw2) 31 ws2) 24 fh2) 26 fn2) 40 ba2) 27 fy) 27 f_25)) H := by rw [ef_25]; exact x_trP hP mwd_s19
                        have hD : va_D A (mwd y ad zw (tI (tI (sI (tI (tI (sI (tI (sI (sI (sI (sI (sI (sI (sI (tI σ 41 fm) 2 a2) 4 en2) 5 bd2) 6 bp2) 23 np2) 29 cd2) 32 op2) 30 fw2) 31 ws2) 24 fh2) 26 fn2) 40 ba2) 27 fy) 27 f_25)) := by rw [ef_25]; exact x_trD hD mwd_s19
                        obtain ⟨i_26, ei_26⟩ : ∃ z9 : Int32, z9 = i3 + 1 := ⟨_, rfl⟩
                        have vi_26 : i_26.toInt = i3.toInt + 1 := by have h9 := x_add ei_26 (by omega) (by omega); omega
                        refine lv_iinc (v := i_26) (lv' := [(5, .int i_26), (4, .int cd), (3, .int i_4), (2, .int (σ.1 29)), (1, .int k), (0, .ref (ad 1))]) hx hb dX12_setStatement_219 hl (k := 0) rfl (by rw [ei_26]; rfl) (by decide) rfl (fun ls hl => ?_)
                        refine lv_goto (tgt := 192) hx hb dX12_setStatement_222 (by decide) ?_
                        have hP : va_P D vwCl (mwd y ad zw (tI (sI (tI (tI (sI (tI (sI (sI (sI (sI (sI (sI (sI (tI σ 41 fm) 2 a2) 4 en2) 5 bd2) 6 bp2) 23 np2) 29 cd2) 32 op2) 30 fw2) 31 ws2) 24 fh2) 26 fn2) 40 ba2) 27 f_25)) H := hP
                        have hD : va_D A (mwd y ad zw (tI (sI (tI (tI (sI (tI (sI (sI (sI (sI (sI (sI (sI (tI σ 41 fm) 2 a2) 4 en2) 5 bd2) 6 bp2) 23 np2) 29 cd2) 32 op2) 30 fw2) 31 ws2) 24 fh2) 26 fn2) 40 ba2) 27 f_25)) := hD
                        exact ih_loop3 i_26 f_25 H locs ls (by omega) (by omega) (fun q h9 => by rw [ef_25, x_cl (n := (cd2.toInt - i_4.toInt).toNat + i3.toInt.toNat) (by omega), x_upd_ne _ _ (by omega)]; exact hy0 q h9) (fun q h9 => by rw [ef_25, x_cl (n := (cd2.toInt - i_4.toInt).toNat + i3.toInt.toNat) (by omega)]; by_cases q9 : q = i3.toInt.toNat <;> first | (rw [q9, x_upd_same]; exact qi_24) | (rw [x_upd_ne _ _ (by omega)]; exact hy1 q (by omega))) (by omega) hP hD hS (lv_sub hl [0, 1, 2, 3, 4, 5] rfl)
                  exact loop3 1201 0 fz H locs ls (by decide) (by omega) (fun _ _ => rfl) (fun q h9 => absurd h9 (Nat.not_lt_zero q)) (by omega) hP hD hS (lv_sub hl [0, 1, 2, 3, 4, 5] rfl)
                · have kc_6 : i2.toInt < cd2.toInt := by have h9 := c_6; simp only [ge_iff_le, gt_iff_lt, x_lt, x_le, x_eq, ne_eq, Int32.not_lt, Int32.not_le] at h9; omega
                  refine lv_aload_n hx hb dX12_setStatement_167 rfl (lv_at hl 5 rfl) ?_
                  refine va_get (D := D) (ci := 11) (v := .ref (ad 27)) (C := RX12) (T := TX12) (N := 85) hx hb hts inX12 hown hK hP 0 mwd_o0 rfl 27 (by decide) fl69 (fun _ h9 => h9) rfl dX12_setStatement_168 ?_
                  refine lv_iload hx hb dX12_setStatement_171 (lv_at hl 0 rfl) ?_
                  refine lv_iload_n hx hb dX12_setStatement_173 rfl (lv_at hl 2 rfl) ?_
                  refine lv_isub hx hb dX12_setStatement_174 ?_
                  refine lv_topi (fun i_27 ei_27 => ?_)
                  have vi_27 : i_27.toInt = i2.toInt - i_4.toInt := by have h9 := x_sub ei_27 (by omega) (by omega); omega
                  refine lv_aload_n hx hb dX12_setStatement_175 rfl (lv_at hl 5 rfl) ?_
                  refine va_get (D := D) (ci := 11) (v := .ref (ad 27)) (C := RX12) (T := TX12) (N := 85) hx hb hts inX12 hown hK hP 0 mwd_o0 rfl 27 (by decide) fl69 (fun _ h9 => h9) rfl dX12_setStatement_176 ?_
                  refine lv_iload hx hb dX12_setStatement_179 (lv_at hl 0 rfl) ?_
                  refine va_iald hx hb hK hP 19 2 mwd_a19 rfl (x_in (by omega) (by omega)) dX12_setStatement_181 ?_
                  refine lv_topi (fun i_28 ei_28 => ?_)
                  have ei_28 : i_28 = fz (Int32.toNatClampNeg i2) := ei_28.trans (cj_lo (by show Int.toNat _ < _; omega))
                  have qi_28 : i_28 = fc2 i2.toInt.toNat := by rw [ei_28, x_cl (n := i2.toInt.toNat) (by omega)]; exact hz2 _ (Nat.le_refl _)
                  refine va_iast hx hb hK hP hD hS 19 2 mwd_a19 rfl (x_in (by omega) (by omega)) dX12_setStatement_182 (fun H locs hP hD hS => ?_)
                  obtain ⟨f_29, ef_29⟩ : ∃ z9 : Nat → Int32, z9 = (upd fz (Int32.toNatClampNeg i_27) i_28) := ⟨_, rfl⟩
                  rw [cj_ulo (by show Int.toNat _ < _; omega)] at hP hD
                  have hP : va_P D vwCl (mwd y ad zw (tI (tI (sI (tI (tI (sI (tI (sI (sI (sI (sI (sI (sI (sI (tI σ 41 fm) 2 a2) 4 en2) 5 bd2) 6 bp2) 23 np2) 29 cd2) 32 op2) 30 fw2) 31 ws2) 24 fh2) 26 fn2) 40 ba2) 27 fz) 27 f_29)) H := by rw [ef_29]; exact x_trP hP mwd_s19
                  have hD : va_D A (mwd y ad zw (tI (tI (sI (tI (tI (sI (tI (sI (sI (sI (sI (sI (sI (sI (tI σ 41 fm) 2 a2) 4 en2) 5 bd2) 6 bp2) 23 np2) 29 cd2) 32 op2) 30 fw2) 31 ws2) 24 fh2) 26 fn2) 40 ba2) 27 fz) 27 f_29)) := by rw [ef_29]; exact x_trD hD mwd_s19
                  obtain ⟨i_30, ei_30⟩ : ∃ z9 : Int32, z9 = i2 + 1 := ⟨_, rfl⟩
                  have vi_30 : i_30.toInt = i2.toInt + 1 := by have h9 := x_add ei_30 (by omega) (by omega); omega
                  refine lv_iinc (v := i_30) (lv' := [(5, .int i_30), (4, .int cd), (3, .int i_4), (2, .int (σ.1 29)), (1, .int k), (0, .ref (ad 1))]) hx hb dX12_setStatement_183 hl (k := 0) rfl (by rw [ei_30]; rfl) (by decide) rfl (fun ls hl => ?_)
                  refine lv_goto (tgt := 158) hx hb dX12_setStatement_186 (by decide) ?_
                  have hP : va_P D vwCl (mwd y ad zw (tI (sI (tI (tI (sI (tI (sI (sI (sI (sI (sI (sI (sI (tI σ 41 fm) 2 a2) 4 en2) 5 bd2) 6 bp2) 23 np2) 29 cd2) 32 op2) 30 fw2) 31 ws2) 24 fh2) 26 fn2) 40 ba2) 27 f_29)) H := hP
                  have hD : va_D A (mwd y ad zw (tI (sI (tI (tI (sI (tI (sI (sI (sI (sI (sI (sI (sI (tI σ 41 fm) 2 a2) 4 en2) 5 bd2) 6 bp2) 23 np2) 29 cd2) 32 op2) 30 fw2) 31 ws2) 24 fh2) 26 fn2) 40 ba2) 27 f_29)) := hD
                  exact ih_loop2 i_30 f_29 H locs ls (by omega) (by omega) (fun q h9 => by rw [ef_29, x_cl (n := (i2.toInt - i_4.toInt).toNat) (by omega), x_upd_ne _ _ (by omega)]; exact hz0 q h9) (fun q h8 h9 => by rw [ef_29, x_cl (n := (i2.toInt - i_4.toInt).toNat) (by omega)]; by_cases q9 : q = (i2.toInt - i_4.toInt).toNat <;> first | (rw [q9, x_upd_same, qi_28]; exact congrArg fc2 (by omega)) | (rw [x_upd_ne _ _ q9]; exact hz1 q h8 (by omega))) (fun q h9 => by rw [ef_29, x_cl (n := (i2.toInt - i_4.toInt).toNat) (by omega)]; by_cases q9 : q = (i2.toInt - i_4.toInt).toNat <;> first | (exfalso; omega) | (rw [x_upd_ne _ _ q9]; exact hz2 q (by omega))) (by omega) hP hD hS (lv_sub hl [0, 1, 2, 3, 4, 5] rfl)
            exact loop2 1201 cd fc2 H locs ls (by omega) (by omega) (fun _ _ => rfl) (fun q h8 h9 => absurd h9 (by omega)) (fun _ _ => rfl) (by omega) hP hD hS (lv_sub hl [0, 1, 2, 3, 4, 5] rfl)
          refine lv_aload_n hx hb dX12_setStatement_137 rfl (lv_at hl 4 rfl) ?_
          refine va_get (D := D) (ci := 11) (v := .int cd) (C := RX12) (T := TX12) (N := 85) hx hb hts inX12 hown hK hP 0 mwd_o0 rfl 29 (by decide) fl246 (fun _ h9 => h9) rfl dX12_setStatement_138 ?_
          refine lv_istore (lv' := [(4, .int cd), (3, .int i_4), (2, .int (σ.1 29)), (1, .int k), (0, .ref (ad 1))]) hx hb dX12_setStatement_141 hl (by decide) rfl (fun ls hl => ?_)
          refine lv_aload_n hx hb dX12_setStatement_143 rfl (lv_at hl 4 rfl) ?_
          refine va_get (D := D) (ci := 11) (v := .int n_2) (C := RX12) (T := TX12) (N := 85) hx hb hts inX12 hown hK hP 0 mwd_o0 rfl 5 (by decide) fl191 (fun _ h9 => h9) rfl dX12_setStatement_144 ?_
          refine lv_if_ne (tgt := 154) hx hb dX12_setStatement_147 (by decide) (fun c_31 => ?_) (fun c_31 => ?_)
          · have kc_31 : n_2.toInt ≠ 0 := by have h9 := c_31; simp only [ge_iff_le, gt_iff_lt, x_lt, x_le, x_eq, ne_eq, Int32.not_lt, Int32.not_le] at h9; simp only [Int32.reduceToInt] at h9; omega
            have hP : va_P D vwCl (mwd y ad zw (sI (tI (tI (sI (tI (sI (tI (sI (sI (sI (sI (sI (sI (tI σ 41 fm) 2 n_1) 4 en) 5 n_2) 6 n_3) 23 np) 29 cd) 27 fc) 32 op) 30 fw) 31 ws) 24 fh) 26 fn) 40 ba)) H := hP
            have hD : va_D A (mwd y ad zw (sI (tI (tI (sI (tI (sI (tI (sI (sI (sI (sI (sI (sI (tI σ 41 fm) 2 n_1) 4 en) 5 n_2) 6 n_3) 23 np) 29 cd) 27 fc) 32 op) 30 fw) 31 ws) 24 fh) 26 fn) 40 ba)) := hD
            exact cut154 n_1 en n_2 n_3 np cd fc op fw ws fh fn ba H locs ls (by omega) (by omega) (by omega) (by omega) hh (by omega) (fun h9 => absurd h9 (by omega)) hfn hP hD hS (lv_sub hl [0, 1, 2, 3, 4] rfl)
          · have kc_31 : n_2.toInt = 0 := by have h9 := c_31; simp only [ge_iff_le, gt_iff_lt, x_lt, x_le, x_eq, ne_eq, Int32.not_lt, Int32.not_le] at h9; simp only [Int32.reduceToInt] at h9; omega
            refine lv_aload_n hx hb dX12_setStatement_150 rfl (lv_at hl 4 rfl) ?_
            obtain ⟨hb61, ha61⟩ := hs61 (by omega)
            obtain ⟨hga, hgb, hgc, hgd, hge, hgf⟩ := hG hb61
            refine x_callvW (va_runV (As := []) (rest := []) ⟨hx, hb, hml, hown, hts⟩ (q_sums l D y H.size ad zw (tI (sI (sI (sI (sI (tI (tI (sI (tI (sI (tI (sI (sI (sI σ 4 en) 23 np) 29 cd) 27 fc) 32 op) 30 fw) 31 ws) 24 fh) 26 fn) 40 ba) 2 n_1) 5 n_2) 6 n_3) 41 fm) (show 0 ≤ (n_1).toInt from by first | omega | decide) (show (n_1).toInt ≤ ((σ.1 3)).toInt from by first | omega | decide) (show ((σ.1 3)).toInt ≤ 700 from by first | omega | decide) (show (n_2).toInt = 0 from by first | omega | decide) (show 0 ≤ ((σ.1 33)).toInt from by first | omega | decide) (show ((σ.1 33)).toInt ≤ 24 from by first | omega | decide) (show 0 ≤ (op).toInt from by first | omega | decide) (show (op).toInt ≤ 8 from by first | omega | decide) (show 0 ≤ (ws).toInt from by first | omega | decide) (show 0 ≤ (cd).toInt from by first | omega | decide) (show (cd).toInt + (ws).toInt ≤ (n_1).toInt + 20 from by first | omega | decide) (show 0 ≤ (fh 4).toInt from by first | omega | decide) (show (fh 4).toInt ≤ (n_1).toInt + 20 from by first | omega | decide) (fun q (h9 : q < ws.toInt.toNat) => absurd h9 (by omega)) (show (oc fw ws.toInt.toNat : Int) ≤ op.toInt from by rw [oc_0 _ (show ws.toInt.toNat = 0 by omega)]; omega) hB35 hfn) (cwV 0 hts g_q_setStatement_2 rfl rfl rfl (by decide +kernel) ⟨Nat.le_of_ble_eq_true rfl, Nat.le_of_ble_eq_true rfl⟩) (x_preV (q := (RX12, TX12, 85)) hK hP hD (ci := 11) (q0 := 0) rfl mwd_o0) rfl rfl hl.1 rfl (lv_room (Nat.le_of_ble_eq_true rfl)) dX12_setStatement_151 ⟨Nat.le_of_ble_eq_true rfl, Nat.le_of_ble_eq_true rfl⟩) hP hD hS hA (fun u H locs hw hP hD hS => ?_)
            obtain ⟨n_32, n_33, n_34, n_35, n_36, n_37, f_38, n_39, f_40, n_41, f_42, f_43, n_44⟩ := u
            try dsimp only at hw
            have hP : va_P D vwCl (mwd y ad zw (sI (tI (tI (sI (tI (sI (tI (sI (sI (sI (sI (sI (sI (tI (sI (sI (sI (sI (tI (tI (sI (tI (sI (tI (sI (sI (sI σ 4 en) 23 np) 29 cd) 27 fc) 32 op) 30 fw) 31 ws) 24 fh) 26 fn) 40 ba) 2 n_1) 5 n_2) 6 n_3) 41 fm) 2 n_32) 4 n_33) 5 n_34) 6 n_35) 23 n_36) 29 n_37) 27 f_38) 32 n_39) 30 f_40) 31 n_41) 24 f_42) 26 f_43) 40 n_44)) H := hP
            have hD : va_D A (mwd y ad zw (sI (tI (tI (sI (tI (sI (tI (sI (sI (sI (sI (sI (sI (tI (sI (sI (sI (sI (tI (tI (sI (tI (sI (tI (sI (sI (sI σ 4 en) 23 np) 29 cd) 27 fc) 32 op) 30 fw) 31 ws) 24 fh) 26 fn) 40 ba) 2 n_1) 5 n_2) 6 n_3) 41 fm) 2 n_32) 4 n_33) 5 n_34) 6 n_35) 23 n_36) 29 n_37) 27 f_38) 32 n_39) 30 f_40) 31 n_41) 24 f_42) 26 f_43) 40 n_44)) := hD
            replace hw : ((n_1).toInt ≤ n_32.toInt ∧ n_32.toInt ≤ ((σ.1 3)).toInt ∧ 0 ≤ n_39.toInt ∧ n_39.toInt ≤ 8 ∧ 0 ≤ n_41.toInt ∧ (cd).toInt ≤ n_37.toInt ∧ n_37.toInt + n_41.toInt - n_32.toInt ≤ (cd).toInt + (ws).toInt - (n_1).toInt + 1 ∧ (∀ k : Nat, k ≠ 4 → f_42 k = fh k) ∧ (fh 4).toInt ≤ (f_42 4).toInt ∧ (f_42 4).toInt - n_32.toInt ≤ (fh 4).toInt - (n_1).toInt + 1 ∧ n_44 = (ba) ∧ (n_34.toInt = 0 → (n_1).toInt + 1 ≤ n_32.toInt ∧ n_37.toInt + n_41.toInt - n_32.toInt ≤ (cd).toInt + (ws).toInt - (n_1).toInt ∧ (f_42 4).toInt - n_32.toInt ≤ (fh 4).toInt - (n_1).toInt ∧ n_41.toInt = (ws).toInt ∧ ES (fc) f_38 (fw) f_40 ((cd).toInt.toNat) (n_37.toInt.toNat) ((ws).toInt.toNat) (n_41.toInt.toNat) 1 (1000 + (f_42 4).toInt) n_39.toInt ((op).toInt - (oc (fw) (ws).toInt.toNat : Int)))) ∧ bI f_43 0 9999 := hw
            obtain ⟨hw, hg_45⟩ := hw
            obtain ⟨ht1, ht2, ht3, ht4, ht5, ht6, ht7, ht8, ht9, ht10, ht11, hti⟩ := hw
            have hhb : ∀ q : Nat, q ≠ 4 → f_42 q = σ.2.2.1 24 q := fun q h9 => (ht8 q h9).trans (hh q h9)
            rcases Classical.em (n_34.toInt = 0) with hbs | hbs
            · obtain ⟨hu1, hu2, hu3, hu4, hu5⟩ := hti hbs
              clear hti
              obtain ⟨hP2, hO2⟩ := PC_ES hu5 (by omega)
              clear hu5
              rw [oc_0 _ (show ws.toInt.toNat = 0 by omega)] at hO2
              rw [show ws.toInt.toNat = 0 by omega] at hP2
              have hP : va_P D vwCl (mwd y ad zw (sI (tI (tI (sI (tI (sI (tI (sI (sI (sI (sI (sI (sI (tI σ 41 fm) 2 n_32) 4 n_33) 5 n_34) 6 n_35) 23 n_36) 29 n_37) 27 f_38) 32 n_39) 30 f_40) 31 n_41) 24 f_42) 26 f_43) 40 n_44)) H := hP
              have hD : va_D A (mwd y ad zw (sI (tI (tI (sI (tI (sI (tI (sI (sI (sI (sI (sI (sI (tI σ 41 fm) 2 n_32) 4 n_33) 5 n_34) 6 n_35) 23 n_36) 29 n_37) 27 f_38) 32 n_39) 30 f_40) 31 n_41) 24 f_42) 26 f_43) 40 n_44)) := hD
              exact cut154 n_32 n_33 n_34 n_35 n_36 n_37 f_38 n_39 f_40 n_41 f_42 f_43 n_44 H locs ls (by omega) (by omega) (by omega) (by omega) hhb (by omega) (fun _ => ⟨hb61, by omega, by omega, by omega, by omega, hP2⟩) hg_45 hP hD hS (lv_sub hl [0, 1, 2, 3, 4] rfl)
            · clear hti
              have hP : va_P D vwCl (mwd y ad zw (sI (tI (tI (sI (tI (sI (tI (sI (sI (sI (sI (sI (sI (tI σ 41 fm) 2 n_32) 4 n_33) 5 n_34) 6 n_35) 23 n_36) 29 n_37) 27 f_38) 32 n_39) 30 f_40) 31 n_41) 24 f_42) 26 f_43) 40 n_44)) H := hP
              have hD : va_D A (mwd y ad zw (sI (tI (tI (sI (tI (sI (tI (sI (sI (sI (sI (sI (sI (tI σ 41 fm) 2 n_32) 4 n_33) 5 n_34) 6 n_35) 23 n_36) 29 n_37) 27 f_38) 32 n_39) 30 f_40) 31 n_41) 24 f_42) 26 f_43) 40 n_44)) := hD
              exact cut154 n_32 n_33 n_34 n_35 n_36 n_37 f_38 n_39 f_40 n_41 f_42 f_43 n_44 H locs ls (by omega) (by omega) (by omega) (by omega) hhb (by omega) (fun h9 => absurd h9 (by omega)) hg_45 hP hD hS (lv_sub hl [0, 1, 2, 3, 4] rfl)
        · have kc_5 : i.toInt < i_4.toInt := by have h9 := c_5; simp only [ge_iff_le, gt_iff_lt, x_lt, x_le, x_eq, ne_eq, Int32.not_lt, Int32.not_le] at h9; omega
          refine lv_aload_n hx hb dX12_setStatement_115 rfl (lv_at hl 4 rfl) ?_
          refine va_get (D := D) (ci := 11) (v := .ref (ad 41)) (C := RX12) (T := TX12) (N := 85) hx hb hts inX12 hown hK hP 0 mwd_o0 rfl 41 (by decide) fl94 (fun _ h9 => h9) rfl dX12_setStatement_116 ?_
          refine lv_iload hx hb dX12_setStatement_119 (lv_at hl 0 rfl) ?_
          refine lv_aload_n hx hb dX12_setStatement_121 rfl (lv_at hl 4 rfl) ?_
          refine va_get (D := D) (ci := 11) (v := .ref (ad 27)) (C := RX12) (T := TX12) (N := 85) hx hb hts inX12 hown hK hP 0 mwd_o0 rfl 27 (by decide) fl69 (fun _ h9 => h9) rfl dX12_setStatement_122 ?_
          refine lv_iload_n hx hb dX12_setStatement_125 rfl (lv_at hl 2 rfl) ?_
          refine lv_iload hx hb dX12_setStatement_126 (lv_at hl 0 rfl) ?_
          refine lv_iadd hx hb dX12_setStatement_128 ?_
          refine lv_topi (fun i_46 ei_46 => ?_)
          have vi_46 : i_46.toInt = (σ.1 29).toInt + i.toInt := by have h9 := x_add ei_46 (by omega) (by omega); omega
          refine va_iald hx hb hK hP 19 2 mwd_a19 rfl (x_in (by omega) (by omega)) dX12_setStatement_129 ?_
          refine lv_topi (fun i_47 ei_47 => ?_)
          have ei_47 : i_47 = fc (Int32.toNatClampNeg i_46) := ei_47.trans (cj_lo (by show Int.toNat _ < _; omega))
          have qi_47 : i_47 = fc ((σ.1 29).toInt.toNat + i.toInt.toNat) := by rw [ei_47, x_cl (n := (σ.1 29).toInt.toNat + i.toInt.toNat) (by omega)]
          refine va_iast hx hb hK hP hD hS 27 2 mwd_a27 rfl (x_in (by omega) (by omega)) dX12_setStatement_130 (fun H locs hP hD hS => ?_)
          obtain ⟨f_48, ef_48⟩ : ∃ z9 : Nat → Int32, z9 = (upd fm (Int32.toNatClampNeg i) i_47) := ⟨_, rfl⟩
          have hP : va_P D vwCl (mwd y ad zw (tI (tI (sI (sI (sI (sI (tI (tI (sI (tI (sI (tI (sI (sI (sI σ 4 en) 23 np) 29 cd) 27 fc) 32 op) 30 fw) 31 ws) 24 fh) 26 fn) 40 ba) 2 n_1) 5 n_2) 6 n_3) 41 fm) 41 f_48)) H := by rw [ef_48]; exact x_trP hP mwd_s27
          have hD : va_D A (mwd y ad zw (tI (tI (sI (sI (sI (sI (tI (tI (sI (tI (sI (tI (sI (sI (sI σ 4 en) 23 np) 29 cd) 27 fc) 32 op) 30 fw) 31 ws) 24 fh) 26 fn) 40 ba) 2 n_1) 5 n_2) 6 n_3) 41 fm) 41 f_48)) := by rw [ef_48]; exact x_trD hD mwd_s27
          obtain ⟨i_49, ei_49⟩ : ∃ z9 : Int32, z9 = i + 1 := ⟨_, rfl⟩
          have vi_49 : i_49.toInt = i.toInt + 1 := by have h9 := x_add ei_49 (by omega) (by omega); omega
          refine lv_iinc (v := i_49) (lv' := [(4, .int i_49), (3, .int i_4), (2, .int (σ.1 29)), (1, .int k), (0, .ref (ad 1))]) hx hb dX12_setStatement_131 hl (k := 0) rfl (by rw [ei_49]; rfl) (by decide) rfl (fun ls hl => ?_)
          refine lv_goto (tgt := 109) hx hb dX12_setStatement_134 (by decide) ?_
          have hP : va_P D vwCl (mwd y ad zw (tI (sI (sI (sI (sI (tI (tI (sI (tI (sI (tI (sI (sI (sI σ 4 en) 23 np) 29 cd) 27 fc) 32 op) 30 fw) 31 ws) 24 fh) 26 fn) 40 ba) 2 n_1) 5 n_2) 6 n_3) 41 f_48)) H := hP
          have hD : va_D A (mwd y ad zw (tI (sI (sI (sI (sI (tI (tI (sI (tI (sI (tI (sI (sI (sI σ 4 en) 23 np) 29 cd) 27 fc) 32 op) 30 fw) 31 ws) 24 fh) 26 fn) 40 ba) 2 n_1) 5 n_2) 6 n_3) 41 f_48)) := hD
          exact ih_loop i_49 f_48 H locs ls (by omega) (by omega) (fun q h9 => by rw [ef_48]; by_cases q9 : q = i.toInt.toNat <;> first | (rw [q9, x_cl (n := i.toInt.toNat) (by omega), x_upd_same]; exact qi_47) | (rw [x_cl (n := i.toInt.toNat) (by omega), x_upd_ne _ _ q9]; exact hm1 q (by omega))) (by omega) hP hD hS (lv_sub hl [0, 1, 2, 3, 4] rfl)
    exact loop 701 0 (σ.2.2.1 41) H locs ls (by decide) (by omega) (fun q h9 => absurd h9 (Nat.not_lt_zero q)) (by omega) hP hD hS (lv_sub hl [0, 1, 2, 3, 4] rfl)
  refine lv_aload_n hx hb dX12_setStatement_0 rfl (lv_at hl 0 rfl) ?_
  refine x_calliW (va_runV (As := []) (rest := []) ⟨hx, hb, hml, hown, hts⟩ (q_nameTold l D y H.size ad zw σ (show 0 ≤ ((σ.1 33)).toInt from by first | omega | decide) (show ((σ.1 33)).toInt ≤ 24 from by first | omega | decide) (show 0 ≤ ((σ.1 2)).toInt from by first | omega | decide) (show ((σ.1 2)).toInt ≤ ((σ.1 3)).toInt from by first | omega | decide) (show ((σ.1 3)).toInt ≤ 700 from by first | omega | decide) hB35) (cwV 0 hts g_q_setStatement_3 rfl rfl rfl (by decide +kernel) ⟨Nat.le_of_ble_eq_true rfl, Nat.le_of_ble_eq_true rfl⟩) (x_preV (q := (RX12, TX12, 85)) hK hP hD (ci := 11) (q0 := 0) rfl mwd_o0) rfl rfl hl.1 rfl (lv_room (Nat.le_of_ble_eq_true rfl)) dX12_setStatement_1 ⟨Nat.le_of_ble_eq_true rfl, Nat.le_of_ble_eq_true rfl⟩) hP hD hS hA (fun r_50 u H locs hw hP hD hS => ?_)
  obtain ⟨n_51, n_52, n_53, n_54, n_55⟩ := u
  try dsimp only at hw
  have hP : va_P D vwCl (mwd y ad zw (sI (sI (sI (sI (sI σ 2 n_51) 4 n_52) 5 n_53) 6 n_54) 23 n_55)) H := hP
  have hD : va_D A (mwd y ad zw (sI (sI (sI (sI (sI σ 2 n_51) 4 n_52) 5 n_53) 6 n_54) 23 n_55)) := hD
  replace hw : ((σ.1 2)).toInt ≤ n_51.toInt ∧ n_51.toInt ≤ ((σ.1 3)).toInt ∧ (n_53.toInt = 0 → ((σ.1 5)).toInt = 0 ∧ ((σ.1 2)).toInt + 1 ≤ n_51.toInt) ∧ 0 ≤ r_50.toInt ∧ r_50.toInt ≤ 23 := hw
  rcases Classical.em (n_53.toInt = 0) with hbz | hbz
  · have hsp := (hw.2.2.1 hbz).2
    replace hw := And.intro hw.1 (And.intro hw.2.1 hw.2.2.2)
    refine lv_istore_n (lv' := [(1, .int r_50), (0, .ref (ad 1))]) hx hb dX12_setStatement_4 rfl hl (by decide) rfl (fun ls hl => ?_)
    refine lv_aload_n hx hb dX12_setStatement_5 rfl (lv_at hl 1 rfl) ?_
    refine va_get (D := D) (ci := 11) (v := .int (σ.1 29)) (C := RX12) (T := TX12) (N := 85) hx hb hts inX12 hown hK hP 0 mwd_o0 rfl 29 (by decide) fl246 (fun _ h9 => h9) rfl dX12_setStatement_6 ?_
    refine lv_istore_n (lv' := [(2, .int (σ.1 29)), (1, .int r_50), (0, .ref (ad 1))]) hx hb dX12_setStatement_9 rfl hl (by decide) rfl (fun ls hl => ?_)
    refine lv_aload_n hx hb dX12_setStatement_10 rfl (lv_at hl 2 rfl) ?_
    refine va_get (D := D) (ci := 11) (v := .int n_53) (C := RX12) (T := TX12) (N := 85) hx hb hts inX12 hown hK hP 0 mwd_o0 rfl 5 (by decide) fl191 (fun _ h9 => h9) rfl dX12_setStatement_11 ?_
    refine lv_if_ne (tgt := 93) hx hb dX12_setStatement_14 (by decide) (fun c_56 => ?_) (fun c_56 => ?_)
    · have kc_56 : n_53.toInt ≠ 0 := by have h9 := c_56; simp only [ge_iff_le, gt_iff_lt, x_lt, x_le, x_eq, ne_eq, Int32.not_lt, Int32.not_le] at h9; simp only [Int32.reduceToInt] at h9; omega
      exfalso
      omega
    · have kc_56 : n_53.toInt = 0 := by have h9 := c_56; simp only [ge_iff_le, gt_iff_lt, x_lt, x_le, x_eq, ne_eq, Int32.not_lt, Int32.not_le] at h9; simp only [Int32.reduceToInt] at h9; omega
      refine lv_iload_n hx hb dX12_setStatement_17 rfl (lv_at hl 1 rfl) ?_
      refine lv_bipush (v := 20) hx hb dX12_setStatement_18 (by decide) ?_
      refine lv_icmp_lt (tgt := 93) hx hb dX12_setStatement_20 (by decide) (fun c_57 => ?_) (fun c_57 => ?_)
      · have kc_57 : r_50.toInt < 20 := by have h9 := c_57; simp only [ge_iff_le, gt_iff_lt, x_lt, x_le, x_eq, ne_eq, Int32.not_lt, Int32.not_le] at h9; simp only [Int32.reduceToInt] at h9; omega
        have hP : va_P D vwCl (mwd y ad zw (sI (tI (tI (sI (tI (sI (tI (sI (sI (sI (sI (sI (sI σ 2 n_51) 4 n_52) 5 n_53) 6 n_54) 23 n_55) 29 (σ.1 29)) 27 (σ.2.2.1 27)) 32 (σ.1 32)) 30 (σ.2.2.1 30)) 31 (σ.1 31)) 24 (σ.2.2.1 24)) 26 (σ.2.2.1 26)) 40 (σ.1 40))) H := hP
        have hD : va_D A (mwd y ad zw (sI (tI (tI (sI (tI (sI (tI (sI (sI (sI (sI (sI (sI σ 2 n_51) 4 n_52) 5 n_53) 6 n_54) 23 n_55) 29 (σ.1 29)) 27 (σ.2.2.1 27)) 32 (σ.1 32)) 30 (σ.2.2.1 30)) 31 (σ.1 31)) 24 (σ.2.2.1 24)) 26 (σ.2.2.1 26)) 40 (σ.1 40))) := hD
        exact cut93 r_50 n_51 n_52 n_53 n_54 n_55 (σ.1 29) (σ.2.2.1 27) (σ.1 32) (σ.2.2.1 30) (σ.1 31) (σ.2.2.1 24) (σ.2.2.1 26) (σ.1 40) H locs ls (by omega) (by omega) (by omega) (by omega) (by omega) (by omega) (fun _ _ => rfl) (by omega) (fun _ => ⟨by omega, by omega, by omega, by omega, by omega, by rw [if_pos (by omega)]; exact PC_start _ _ _ _ _⟩) hB26 hP hD hS (lv_sub hl [0, 1, 2] rfl)
      · have kc_57 : r_50.toInt ≥ 20 := by have h9 := c_57; simp only [ge_iff_le, gt_iff_lt, x_lt, x_le, x_eq, ne_eq, Int32.not_lt, Int32.not_le] at h9; simp only [Int32.reduceToInt] at h9; omega
        refine lv_aload_n hx hb dX12_setStatement_23 rfl (lv_at hl 2 rfl) ?_
        refine x_calliW (va_runV (As := []) (rest := []) ⟨hx, hb, hml, hown, hts⟩ (q_look3 l D y H.size ad zw (sI (sI (sI (sI (sI σ 2 n_51) 4 n_52) 5 n_53) 6 n_54) 23 n_55) (show 0 ≤ (n_51).toInt from by first | omega | decide) (show (n_51).toInt ≤ ((σ.1 3)).toInt from by first | omega | decide) (show ((σ.1 3)).toInt ≤ 700 from by first | omega | decide)) (cwV 0 hts g_q_setStatement_4 rfl rfl rfl (by decide +kernel) ⟨Nat.le_of_ble_eq_true rfl, Nat.le_of_ble_eq_true rfl⟩) (x_preV (q := (RX12, TX12, 85)) hK hP hD (ci := 11) (q0 := 0) rfl mwd_o0) rfl rfl hl.1 rfl (lv_room (Nat.le_of_ble_eq_true rfl)) dX12_setStatement_24 ⟨Nat.le_of_ble_eq_true rfl, Nat.le_of_ble_eq_true rfl⟩) hP hD hS hA (fun r_58 u H locs hw hP hD hS => ?_)
        obtain ⟨n_59, rfl⟩ : ∃ z9, z9 = u := ⟨_, rfl⟩
        try dsimp only at hw
        have hP : va_P D vwCl (mwd y ad zw (sI (sI (sI (sI (sI (sI σ 2 n_51) 4 n_52) 5 n_53) 6 n_54) 23 n_55) 2 n_59)) H := hP
        have hD : va_D A (mwd y ad zw (sI (sI (sI (sI (sI (sI σ 2 n_51) 4 n_52) 5 n_53) 6 n_54) 23 n_55) 2 n_59)) := hD
        replace hw : (n_51).toInt ≤ n_59.toInt ∧ n_59.toInt ≤ ((σ.1 3)).toInt ∧ SD ((σ.2.2.1 0)) n_59.toInt ((σ.1 3)).toInt ∧ r_58.toInt = LV ((σ.2.2.1 0)) n_59.toInt ((σ.1 3)).toInt := hw
        obtain ⟨hk1, hk2, hk3, hk4⟩ := hw
        refine lv_bipush (v := 91) hx hb dX12_setStatement_27 (by decide) ?_
        refine lv_icmp_ne (tgt := 60) hx hb dX12_setStatement_29 (by decide) (fun c_60 => ?_) (fun c_60 => ?_)
        · have kc_60 : r_58.toInt ≠ 91 := by have h9 := c_60; simp only [ge_iff_le, gt_iff_lt, x_lt, x_le, x_eq, ne_eq, Int32.not_lt, Int32.not_le] at h9; simp only [Int32.reduceToInt] at h9; omega
          refine lv_aload_n hx hb dX12_setStatement_60 rfl (lv_at hl 2 rfl) ?_
          refine lv_bipush (v := 91) hx hb dX12_setStatement_61 (by decide) ?_
          refine x_callvW (va_runV (As := [.int 91]) (rest := []) ⟨hx, hb, hml, hown, hts⟩ (q_asksSignN l D y H.size ad zw (sI (sI (sI (sI (sI (sI σ 2 n_51) 4 n_52) 5 n_53) 6 n_54) 23 n_55) 2 n_59) 91 (show (n_53).toInt = 0 from by first | omega | decide) hk3 (show LV (σ.2.2.1 0) n_59.toInt (σ.1 3).toInt ≠ (91 : Int32).toInt from by have l91 : (91 : Int32).toInt = 91 := rfl; omega) (show 0 ≤ (n_59).toInt from by first | omega | decide) (show (n_59).toInt ≤ ((σ.1 3)).toInt from by first | omega | decide) (show ((σ.1 3)).toInt ≤ 700 from by first | omega | decide)) (cwV 1 hts g_q_setStatement_5 rfl rfl rfl (by decide +kernel) ⟨Nat.le_of_ble_eq_true rfl, Nat.le_of_ble_eq_true rfl⟩) (x_preV (q := (RX12, TX12, 85)) hK hP hD (ci := 11) (q0 := 0) rfl mwd_o0) rfl rfl hl.1 rfl (lv_room (Nat.le_of_ble_eq_true rfl)) dX12_setStatement_63 ⟨Nat.le_of_ble_eq_true rfl, Nat.le_of_ble_eq_true rfl⟩) hP hD hS hA (fun u H locs hw hP hD hS => ?_)
          obtain ⟨n_61, n_62, n_63⟩ := u
          try dsimp only at hw
          have hP : va_P D vwCl (mwd y ad zw (sI (sI (sI (sI (sI (sI (sI (sI (sI σ 2 n_51) 4 n_52) 5 n_53) 6 n_54) 23 n_55) 2 n_59) 2 n_61) 5 n_62) 6 n_63)) H := hP
          have hD : va_D A (mwd y ad zw (sI (sI (sI (sI (sI (sI (sI (sI (sI σ 2 n_51) 4 n_52) 5 n_53) 6 n_54) 23 n_55) 2 n_59) 2 n_61) 5 n_62) 6 n_63)) := hD
          replace hw : n_61 = (n_59) ∧ n_62.toInt ≠ 0 := hw
          obtain ⟨hz1, hz2⟩ := hw
          have hz3 : n_61.toInt = n_59.toInt := by rw [hz1]
          refine lv_aload_n hx hb dX12_setStatement_66 rfl (lv_at hl 2 rfl) ?_
          refine va_get (D := D) (ci := 11) (v := .int n_62) (C := RX12) (T := TX12) (N := 85) hx hb hts inX12 hown hK hP 0 mwd_o0 rfl 5 (by decide) fl191 (fun _ h9 => h9) rfl dX12_setStatement_67 ?_
          refine lv_if_ne (tgt := 77) hx hb dX12_setStatement_70 (by decide) (fun c_64 => ?_) (fun c_64 => ?_)
          · have kc_64 : n_62.toInt ≠ 0 := by have h9 := c_64; simp only [ge_iff_le, gt_iff_lt, x_lt, x_le, x_eq, ne_eq, Int32.not_lt, Int32.not_le] at h9; simp only [Int32.reduceToInt] at h9; omega
            refine lv_aload_n hx hb dX12_setStatement_77 rfl (lv_at hl 2 rfl) ?_
            refine lv_bipush (v := 93) hx hb dX12_setStatement_78 (by decide) ?_
            refine x_callvW (va_runV (As := [.int 93]) (rest := []) ⟨hx, hb, hml, hown, hts⟩ (q_asksSign l D y H.size ad zw (sI (sI (sI (sI (sI (sI (sI (sI (sI σ 2 n_51) 4 n_52) 5 n_53) 6 n_54) 23 n_55) 2 n_59) 2 n_61) 5 n_62) 6 n_63) 93 (by first | omega | decide) (show 0 ≤ (n_61).toInt from by first | omega | decide) (show (n_61).toInt ≤ ((σ.1 3)).toInt from by first | omega | decide) (show ((σ.1 3)).toInt ≤ 700 from by first | omega | decide)) (cwV 1 hts g_q_setStatement_0 rfl rfl rfl (by decide +kernel) ⟨Nat.le_of_ble_eq_true rfl, Nat.le_of_ble_eq_true rfl⟩) (x_preV (q := (RX12, TX12, 85)) hK hP hD (ci := 11) (q0 := 0) rfl mwd_o0) rfl rfl hl.1 rfl (lv_room (Nat.le_of_ble_eq_true rfl)) dX12_setStatement_80 ⟨Nat.le_of_ble_eq_true rfl, Nat.le_of_ble_eq_true rfl⟩) hP hD hS hA (fun u H locs hw hP hD hS => ?_)
            obtain ⟨n_65, n_66, n_67⟩ := u
            try dsimp only at hw
            have hP : va_P D vwCl (mwd y ad zw (sI (sI (sI (sI (sI (sI (sI (sI (sI (sI (sI (sI σ 2 n_51) 4 n_52) 5 n_53) 6 n_54) 23 n_55) 2 n_59) 2 n_61) 5 n_62) 6 n_63) 2 n_65) 5 n_66) 6 n_67)) H := hP
            have hD : va_D A (mwd y ad zw (sI (sI (sI (sI (sI (sI (sI (sI (sI (sI (sI (sI σ 2 n_51) 4 n_52) 5 n_53) 6 n_54) 23 n_55) 2 n_59) 2 n_61) 5 n_62) 6 n_63) 2 n_65) 5 n_66) 6 n_67)) := hD
            replace hw : (n_61).toInt ≤ n_65.toInt ∧ n_65.toInt ≤ ((σ.1 3)).toInt ∧ (n_66.toInt = 0 → (n_62).toInt = 0 ∧ (n_61).toInt + 1 ≤ n_65.toInt) := hw
            have hbz93 : n_66.toInt ≠ 0 := fun h9 => absurd (hw.2.2 h9).1 (by omega)
            replace hw := And.intro hw.1 hw.2.1
            have hw93 := hw
            refine lv_aload_n hx hb dX12_setStatement_83 rfl (lv_at hl 2 rfl) ?_
            refine lv_dup hx hb dX12_setStatement_84 rfl ?_
            refine va_get (D := D) (ci := 11) (v := .int (σ.1 32)) (C := RX12) (T := TX12) (N := 85) hx hb hts inX12 hown hK hP 0 mwd_o0 rfl 32 (by decide) fl260 (fun _ h9 => h9) rfl dX12_setStatement_85 ?_
            refine lv_iconst (v := 1) hx hb dX12_setStatement_88 (by decide) ?_
            refine lv_isub hx hb dX12_setStatement_89 ?_
            refine lv_topi (fun i_68 ei_68 => ?_)
            have vi_68 : i_68.toInt = (σ.1 32).toInt - 1 := by have h9 := x_sub ei_68 (by omega) (by omega); omega
            refine va_put (D := D) (ci := 11) (v := .int i_68) (ty := .int) (C := RX12) (T := TX12) (N := 85) hx hb hts inX12 tyX12 tyX12_ok nmX12 hown hK hP hD hS 0 mwd_o0 rfl 32 (by decide) fl260 (fun _ h9 => h9) rfl (by decide +kernel) rfl rfl (Nat.le_of_ble_eq_true rfl) dX12_setStatement_90 (fun H locs hP hD hS => ?_)
            have hP : va_P D vwCl (mwd y ad zw (sI (sI (sI (sI (sI (sI (sI (sI (sI (sI (sI (sI (sI σ 2 n_51) 4 n_52) 5 n_53) 6 n_54) 23 n_55) 2 n_59) 2 n_61) 5 n_62) 6 n_63) 2 n_65) 5 n_66) 6 n_67) 32 i_68)) H := x_trP hP mwd_p0_32
            have hD : va_D A (mwd y ad zw (sI (sI (sI (sI (sI (sI (sI (sI (sI (sI (sI (sI (sI σ 2 n_51) 4 n_52) 5 n_53) 6 n_54) 23 n_55) 2 n_59) 2 n_61) 5 n_62) 6 n_63) 2 n_65) 5 n_66) 6 n_67) 32 i_68)) := x_trD hD mwd_p0_32
            have hP : va_P D vwCl (mwd y ad zw (sI (tI (tI (sI (tI (sI (tI (sI (sI (sI (sI (sI (sI σ 2 n_65) 4 n_52) 5 n_66) 6 n_67) 23 n_55) 29 (σ.1 29)) 27 (σ.2.2.1 27)) 32 i_68) 30 (σ.2.2.1 30)) 31 (σ.1 31)) 24 (σ.2.2.1 24)) 26 (σ.2.2.1 26)) 40 (σ.1 40))) H := hP
            have hD : va_D A (mwd y ad zw (sI (tI (tI (sI (tI (sI (tI (sI (sI (sI (sI (sI (sI σ 2 n_65) 4 n_52) 5 n_66) 6 n_67) 23 n_55) 29 (σ.1 29)) 27 (σ.2.2.1 27)) 32 i_68) 30 (σ.2.2.1 30)) 31 (σ.1 31)) 24 (σ.2.2.1 24)) 26 (σ.2.2.1 26)) 40 (σ.1 40))) := hD
            exact cut93 r_50 n_65 n_52 n_66 n_67 n_55 (σ.1 29) (σ.2.2.1 27) i_68 (σ.2.2.1 30) (σ.1 31) (σ.2.2.1 24) (σ.2.2.1 26) (σ.1 40) H locs ls (by omega) (by omega) (by omega) (by omega) (by omega) (by omega) (fun _ _ => rfl) (by omega) (fun h9 => absurd h9 (by omega)) hB26 hP hD hS (lv_sub hl [0, 1, 2] rfl)
          · have kc_64 : n_62.toInt = 0 := by have h9 := c_64; simp only [ge_iff_le, gt_iff_lt, x_lt, x_le, x_eq, ne_eq, Int32.not_lt, Int32.not_le] at h9; simp only [Int32.reduceToInt] at h9; omega
            exfalso
            omega
        · have kc_60 : r_58.toInt = 91 := by have h9 := c_60; simp only [ge_iff_le, gt_iff_lt, x_lt, x_le, x_eq, ne_eq, Int32.not_lt, Int32.not_le] at h9; simp only [Int32.reduceToInt] at h9; omega
          refine lv_aload_n hx hb dX12_setStatement_32 rfl (lv_at hl 2 rfl) ?_
          refine va_get (D := D) (ci := 11) (v := .int (σ.1 32)) (C := RX12) (T := TX12) (N := 85) hx hb hts inX12 hown hK hP 0 mwd_o0 rfl 32 (by decide) fl260 (fun _ h9 => h9) rfl dX12_setStatement_33 ?_
          refine lv_bipush (v := 8) hx hb dX12_setStatement_36 (by decide) ?_
          refine lv_icmp_ne (tgt := 50) hx hb dX12_setStatement_38 (by decide) (fun c_69 => ?_) (fun c_69 => ?_)
          · have kc_69 : (σ.1 32).toInt ≠ 8 := by have h9 := c_69; simp only [ge_iff_le, gt_iff_lt, x_lt, x_le, x_eq, ne_eq, Int32.not_lt, Int32.not_le] at h9; simp only [Int32.reduceToInt] at h9; omega
            refine lv_aload_n hx hb dX12_setStatement_50 rfl (lv_at hl 2 rfl) ?_
            refine lv_dup hx hb dX12_setStatement_51 rfl ?_
            refine va_get (D := D) (ci := 11) (v := .int (σ.1 32)) (C := RX12) (T := TX12) (N := 85) hx hb hts inX12 hown hK hP 0 mwd_o0 rfl 32 (by decide) fl260 (fun _ h9 => h9) rfl dX12_setStatement_52 ?_
            refine lv_iconst (v := 1) hx hb dX12_setStatement_55 (by decide) ?_
            refine lv_iadd hx hb dX12_setStatement_56 ?_
            refine lv_topi (fun i_70 ei_70 => ?_)
            have vi_70 : i_70.toInt = (σ.1 32).toInt + 1 := by have h9 := x_add ei_70 (by omega) (by omega); omega
            refine va_put (D := D) (ci := 11) (v := .int i_70) (ty := .int) (C := RX12) (T := TX12) (N := 85) hx hb hts inX12 tyX12 tyX12_ok nmX12 hown hK hP hD hS 0 mwd_o0 rfl 32 (by decide) fl260 (fun _ h9 => h9) rfl (by decide +kernel) rfl rfl (Nat.le_of_ble_eq_true rfl) dX12_setStatement_57 (fun H locs hP hD hS => ?_)
            have hP : va_P D vwCl (mwd y ad zw (sI (sI (sI (sI (sI (sI (sI σ 2 n_51) 4 n_52) 5 n_53) 6 n_54) 23 n_55) 2 n_59) 32 i_70)) H := x_trP hP mwd_p0_32
            have hD : va_D A (mwd y ad zw (sI (sI (sI (sI (sI (sI (sI σ 2 n_51) 4 n_52) 5 n_53) 6 n_54) 23 n_55) 2 n_59) 32 i_70)) := x_trD hD mwd_p0_32
            refine lv_aload_n hx hb dX12_setStatement_60 rfl (lv_at hl 2 rfl) ?_
            refine lv_bipush (v := 91) hx hb dX12_setStatement_61 (by decide) ?_
            refine x_callvW (va_runV (As := [.int 91]) (rest := []) ⟨hx, hb, hml, hown, hts⟩ (q_asksSign l D y H.size ad zw (sI (sI (sI (sI (sI (sI (sI σ 2 n_51) 4 n_52) 5 n_53) 6 n_54) 23 n_55) 2 n_59) 32 i_70) 91 (by first | omega | decide) (show 0 ≤ (n_59).toInt from by first | omega | decide) (show (n_59).toInt ≤ ((σ.1 3)).toInt from by first | omega | decide) (show ((σ.1 3)).toInt ≤ 700 from by first | omega | decide)) (cwV 1 hts g_q_setStatement_0 rfl rfl rfl (by decide +kernel) ⟨Nat.le_of_ble_eq_true rfl, Nat.le_of_ble_eq_true rfl⟩) (x_preV (q := (RX12, TX12, 85)) hK hP hD (ci := 11) (q0 := 0) rfl mwd_o0) rfl rfl hl.1 rfl (lv_room (Nat.le_of_ble_eq_true rfl)) dX12_setStatement_63 ⟨Nat.le_of_ble_eq_true rfl, Nat.le_of_ble_eq_true rfl⟩) hP hD hS hA (fun u H locs hw hP hD hS => ?_)
            obtain ⟨n_71, n_72, n_73⟩ := u
            try dsimp only at hw
            have hP : va_P D vwCl (mwd y ad zw (sI (sI (sI (sI (sI (sI (sI (sI (sI (sI σ 2 n_51) 4 n_52) 5 n_53) 6 n_54) 23 n_55) 2 n_59) 32 i_70) 2 n_71) 5 n_72) 6 n_73)) H := hP
            have hD : va_D A (mwd y ad zw (sI (sI (sI (sI (sI (sI (sI (sI (sI (sI σ 2 n_51) 4 n_52) 5 n_53) 6 n_54) 23 n_55) 2 n_59) 32 i_70) 2 n_71) 5 n_72) 6 n_73)) := hD
            replace hw : (n_59).toInt ≤ n_71.toInt ∧ n_71.toInt ≤ ((σ.1 3)).toInt ∧ (n_72.toInt = 0 → (n_53).toInt = 0 ∧ (n_59).toInt + 1 ≤ n_71.toInt) := hw
            rcases Classical.em (n_72.toInt = 0) with hbz91 | hbz91
            · have hsp91 := (hw.2.2 hbz91).2
              replace hw := And.intro hw.1 hw.2.1
              have hw91 := hw
              refine lv_aload_n hx hb dX12_setStatement_66 rfl (lv_at hl 2 rfl) ?_
              refine va_get (D := D) (ci := 11) (v := .int n_72) (C := RX12) (T := TX12) (N := 85) hx hb hts inX12 hown hK hP 0 mwd_o0 rfl 5 (by decide) fl191 (fun _ h9 => h9) rfl dX12_setStatement_67 ?_
              refine lv_if_ne (tgt := 77) hx hb dX12_setStatement_70 (by decide) (fun c_74 => ?_) (fun c_74 => ?_)
              · have kc_74 : n_72.toInt ≠ 0 := by have h9 := c_74; simp only [ge_iff_le, gt_iff_lt, x_lt, x_le, x_eq, ne_eq, Int32.not_lt, Int32.not_le] at h9; simp only [Int32.reduceToInt] at h9; omega
                exfalso
                omega
              · have kc_74 : n_72.toInt = 0 := by have h9 := c_74; simp only [ge_iff_le, gt_iff_lt, x_lt, x_le, x_eq, ne_eq, Int32.not_lt, Int32.not_le] at h9; simp only [Int32.reduceToInt] at h9; omega
                refine lv_aload_n hx hb dX12_setStatement_73 rfl (lv_at hl 2 rfl) ?_
                refine x_callvW (va_runV (As := []) (rest := []) ⟨hx, hb, hml, hown, hts⟩ (q_sums l D y H.size ad zw (sI (sI (sI (sI (sI (sI (sI (sI (sI (sI σ 2 n_51) 4 n_52) 5 n_53) 6 n_54) 23 n_55) 2 n_59) 32 i_70) 2 n_71) 5 n_72) 6 n_73) (show 0 ≤ (n_71).toInt from by first | omega | decide) (show (n_71).toInt ≤ ((σ.1 3)).toInt from by first | omega | decide) (show ((σ.1 3)).toInt ≤ 700 from by first | omega | decide) (show (n_72).toInt = 0 from by first | omega | decide) (show 0 ≤ ((σ.1 33)).toInt from by first | omega | decide) (show ((σ.1 33)).toInt ≤ 24 from by first | omega | decide) (show 0 ≤ (i_70).toInt from by first | omega | decide) (show (i_70).toInt ≤ 8 from by first | omega | decide) (show 0 ≤ ((σ.1 31)).toInt from by first | omega | decide) (show 0 ≤ ((σ.1 29)).toInt from by first | omega | decide) (show ((σ.1 29)).toInt + ((σ.1 31)).toInt ≤ (n_71).toInt + 20 from by first | omega | decide) (show 0 ≤ ((σ.2.2.1 24) 4).toInt from by first | omega | decide) (show ((σ.2.2.1 24) 4).toInt ≤ (n_71).toInt + 20 from by first | omega | decide) (fun q (h9 : q < (σ.1 31).toInt.toNat) => absurd h9 (by omega)) (show (oc (σ.2.2.1 30) (σ.1 31).toInt.toNat : Int) ≤ i_70.toInt from by rw [oc_0 _ (show (σ.1 31).toInt.toNat = 0 by omega)]; omega) hB35 hB26) (cwV 0 hts g_q_setStatement_2 rfl rfl rfl (by decide +kernel) ⟨Nat.le_of_ble_eq_true rfl, Nat.le_of_ble_eq_true rfl⟩) (x_preV (q := (RX12, TX12, 85)) hK hP hD (ci := 11) (q0 := 0) rfl mwd_o0) rfl rfl hl.1 rfl (lv_room (Nat.le_of_ble_eq_true rfl)) dX12_setStatement_74 ⟨Nat.le_of_ble_eq_true rfl, Nat.le_of_ble_eq_true rfl⟩) hP hD hS hA (fun u H locs hw hP hD hS => ?_)
                obtain ⟨n_75, n_76, n_77, n_78, n_79, n_80, f_81, n_82, f_83, n_84, f_85, f_86, n_87⟩ := u
                try dsimp only at hw
                have hP : va_P D vwCl (mwd y ad zw (sI (tI (tI (sI (tI (sI (tI (sI (sI (sI (sI (sI (sI (sI (sI (sI (sI (sI (sI (sI (sI (sI (sI σ 2 n_51) 4 n_52) 5 n_53) 6 n_54) 23 n_55) 2 n_59) 32 i_70) 2 n_71) 5 n_72) 6 n_73) 2 n_75) 4 n_76) 5 n_77) 6 n_78) 23 n_79) 29 n_80) 27 f_81) 32 n_82) 30 f_83) 31 n_84) 24 f_85) 26 f_86) 40 n_87)) H := hP
                have hD : va_D A (mwd y ad zw (sI (tI (tI (sI (tI (sI (tI (sI (sI (sI (sI (sI (sI (sI (sI (sI (sI (sI (sI (sI (sI (sI (sI σ 2 n_51) 4 n_52) 5 n_53) 6 n_54) 23 n_55) 2 n_59) 32 i_70) 2 n_71) 5 n_72) 6 n_73) 2 n_75) 4 n_76) 5 n_77) 6 n_78) 23 n_79) 29 n_80) 27 f_81) 32 n_82) 30 f_83) 31 n_84) 24 f_85) 26 f_86) 40 n_87)) := hD
                replace hw : ((n_71).toInt ≤ n_75.toInt ∧ n_75.toInt ≤ ((σ.1 3)).toInt ∧ 0 ≤ n_82.toInt ∧ n_82.toInt ≤ 8 ∧ 0 ≤ n_84.toInt ∧ ((σ.1 29)).toInt ≤ n_80.toInt ∧ n_80.toInt + n_84.toInt - n_75.toInt ≤ ((σ.1 29)).toInt + ((σ.1 31)).toInt - (n_71).toInt + 1 ∧ (∀ k : Nat, k ≠ 4 → f_85 k = (σ.2.2.1 24) k) ∧ ((σ.2.2.1 24) 4).toInt ≤ (f_85 4).toInt ∧ (f_85 4).toInt - n_75.toInt ≤ ((σ.2.2.1 24) 4).toInt - (n_71).toInt + 1 ∧ n_87 = ((σ.1 40)) ∧ (n_77.toInt = 0 → (n_71).toInt + 1 ≤ n_75.toInt ∧ n_80.toInt + n_84.toInt - n_75.toInt ≤ ((σ.1 29)).toInt + ((σ.1 31)).toInt - (n_71).toInt ∧ (f_85 4).toInt - n_75.toInt ≤ ((σ.2.2.1 24) 4).toInt - (n_71).toInt ∧ n_84.toInt = ((σ.1 31)).toInt ∧ ES ((σ.2.2.1 27)) f_81 ((σ.2.2.1 30)) f_83 (((σ.1 29)).toInt.toNat) (n_80.toInt.toNat) (((σ.1 31)).toInt.toNat) (n_84.toInt.toNat) 1 (1000 + (f_85 4).toInt) n_82.toInt ((i_70).toInt - (oc ((σ.2.2.1 30)) ((σ.1 31)).toInt.toNat : Int)))) ∧ bI f_86 0 9999 := hw
                obtain ⟨hw, hg_88⟩ := hw
                obtain ⟨hp1, hp2, hp3, hp4, hp5, hp6, hp7, hp8, hp9, hp10, hp11, hpi⟩ := hw
                rcases Classical.em (n_77.toInt = 0) with hbs | hbs
                · obtain ⟨hg1, hg2, hg3, hg4, hg5⟩ := hpi hbs
                  clear hpi
                  obtain ⟨hP1, hO1⟩ := PC_ES hg5 (by omega)
                  clear hg5
                  rw [oc_0 _ (show (σ.1 31).toInt.toNat = 0 by omega)] at hO1
                  rw [show (σ.1 31).toInt.toNat = 0 by omega] at hP1
                  refine lv_aload_n hx hb dX12_setStatement_77 rfl (lv_at hl 2 rfl) ?_
                  refine lv_bipush (v := 93) hx hb dX12_setStatement_78 (by decide) ?_
                  refine x_callvW (va_runV (As := [.int 93]) (rest := []) ⟨hx, hb, hml, hown, hts⟩ (q_asksSign l D y H.size ad zw (sI (tI (tI (sI (tI (sI (tI (sI (sI (sI (sI (sI (sI (sI (sI (sI (sI (sI (sI (sI (sI (sI (sI σ 2 n_51) 4 n_52) 5 n_53) 6 n_54) 23 n_55) 2 n_59) 32 i_70) 2 n_71) 5 n_72) 6 n_73) 2 n_75) 4 n_76) 5 n_77) 6 n_78) 23 n_79) 29 n_80) 27 f_81) 32 n_82) 30 f_83) 31 n_84) 24 f_85) 26 f_86) 40 n_87) 93 (by first | omega | decide) (show 0 ≤ (n_75).toInt from by first | omega | decide) (show (n_75).toInt ≤ ((σ.1 3)).toInt from by first | omega | decide) (show ((σ.1 3)).toInt ≤ 700 from by first | omega | decide)) (cwV 1 hts g_q_setStatement_0 rfl rfl rfl (by decide +kernel) ⟨Nat.le_of_ble_eq_true rfl, Nat.le_of_ble_eq_true rfl⟩) (x_preV (q := (RX12, TX12, 85)) hK hP hD (ci := 11) (q0 := 0) rfl mwd_o0) rfl rfl hl.1 rfl (lv_room (Nat.le_of_ble_eq_true rfl)) dX12_setStatement_80 ⟨Nat.le_of_ble_eq_true rfl, Nat.le_of_ble_eq_true rfl⟩) hP hD hS hA (fun u H locs hw hP hD hS => ?_)
                  obtain ⟨n_89, n_90, n_91⟩ := u
                  try dsimp only at hw
                  have hP : va_P D vwCl (mwd y ad zw (sI (sI (sI (sI (tI (tI (sI (tI (sI (tI (sI (sI (sI (sI (sI (sI (sI (sI (sI (sI (sI (sI (sI (sI (sI (sI σ 2 n_51) 4 n_52) 5 n_53) 6 n_54) 23 n_55) 2 n_59) 32 i_70) 2 n_71) 5 n_72) 6 n_73) 2 n_75) 4 n_76) 5 n_77) 6 n_78) 23 n_79) 29 n_80) 27 f_81) 32 n_82) 30 f_83) 31 n_84) 24 f_85) 26 f_86) 40 n_87) 2 n_89) 5 n_90) 6 n_91)) H := hP
                  have hD : va_D A (mwd y ad zw (sI (sI (sI (sI (tI (tI (sI (tI (sI (tI (sI (sI (sI (sI (sI (sI (sI (sI (sI (sI (sI (sI (sI (sI (sI (sI σ 2 n_51) 4 n_52) 5 n_53) 6 n_54) 23 n_55) 2 n_59) 32 i_70) 2 n_71) 5 n_72) 6 n_73) 2 n_75) 4 n_76) 5 n_77) 6 n_78) 23 n_79) 29 n_80) 27 f_81) 32 n_82) 30 f_83) 31 n_84) 24 f_85) 26 f_86) 40 n_87) 2 n_89) 5 n_90) 6 n_91)) := hD
                  replace hw : (n_75).toInt ≤ n_89.toInt ∧ n_89.toInt ≤ ((σ.1 3)).toInt ∧ (n_90.toInt = 0 → (n_77).toInt = 0 ∧ (n_75).toInt + 1 ≤ n_89.toInt) := hw
                  rcases Classical.em (n_90.toInt = 0) with hbz93 | hbz93
                  · have hsp93 := (hw.2.2 hbz93).2
                    replace hw := And.intro hw.1 hw.2.1
                    have hw93 := hw
                    refine lv_aload_n hx hb dX12_setStatement_83 rfl (lv_at hl 2 rfl) ?_
                    refine lv_dup hx hb dX12_setStatement_84 rfl ?_
                    refine va_get (D := D) (ci := 11) (v := .int n_82) (C := RX12) (T := TX12) (N := 85) hx hb hts inX12 hown hK hP 0 mwd_o0 rfl 32 (by decide) fl260 (fun _ h9 => h9) rfl dX12_setStatement_85 ?_
                    refine lv_iconst (v := 1) hx hb dX12_setStatement_88 (by decide) ?_
                    refine lv_isub hx hb dX12_setStatement_89 ?_
                    refine lv_topi (fun i_92 ei_92 => ?_)
                    have vi_92 : i_92.toInt = n_82.toInt - 1 := by have h9 := x_sub ei_92 (by omega) (by omega); omega
                    refine va_put (D := D) (ci := 11) (v := .int i_92) (ty := .int) (C := RX12) (T := TX12) (N := 85) hx hb hts inX12 tyX12 tyX12_ok nmX12 hown hK hP hD hS 0 mwd_o0 rfl 32 (by decide) fl260 (fun _ h9 => h9) rfl (by decide +kernel) rfl rfl (Nat.le_of_ble_eq_true rfl) dX12_setStatement_90 (fun H locs hP hD hS => ?_)
                    have hP : va_P D vwCl (mwd y ad zw (sI (sI (sI (sI (sI (tI (tI (sI (tI (sI (tI (sI (sI (sI (sI (sI (sI (sI (sI (sI (sI (sI (sI (sI (sI (sI (sI σ 2 n_51) 4 n_52) 5 n_53) 6 n_54) 23 n_55) 2 n_59) 32 i_70) 2 n_71) 5 n_72) 6 n_73) 2 n_75) 4 n_76) 5 n_77) 6 n_78) 23 n_79) 29 n_80) 27 f_81) 32 n_82) 30 f_83) 31 n_84) 24 f_85) 26 f_86) 40 n_87) 2 n_89) 5 n_90) 6 n_91) 32 i_92)) H := x_trP hP mwd_p0_32
                    have hD : va_D A (mwd y ad zw (sI (sI (sI (sI (sI (tI (tI (sI (tI (sI (tI (sI (sI (sI (sI (sI (sI (sI (sI (sI (sI (sI (sI (sI (sI (sI (sI σ 2 n_51) 4 n_52) 5 n_53) 6 n_54) 23 n_55) 2 n_59) 32 i_70) 2 n_71) 5 n_72) 6 n_73) 2 n_75) 4 n_76) 5 n_77) 6 n_78) 23 n_79) 29 n_80) 27 f_81) 32 n_82) 30 f_83) 31 n_84) 24 f_85) 26 f_86) 40 n_87) 2 n_89) 5 n_90) 6 n_91) 32 i_92)) := x_trD hD mwd_p0_32
                    have hP : va_P D vwCl (mwd y ad zw (sI (tI (tI (sI (tI (sI (tI (sI (sI (sI (sI (sI (sI σ 2 n_89) 4 n_76) 5 n_90) 6 n_91) 23 n_79) 29 n_80) 27 f_81) 32 i_92) 30 f_83) 31 n_84) 24 f_85) 26 f_86) 40 n_87)) H := hP
                    have hD : va_D A (mwd y ad zw (sI (tI (tI (sI (tI (sI (tI (sI (sI (sI (sI (sI (sI σ 2 n_89) 4 n_76) 5 n_90) 6 n_91) 23 n_79) 29 n_80) 27 f_81) 32 i_92) 30 f_83) 31 n_84) 24 f_85) 26 f_86) 40 n_87)) := hD
                    exact cut93 r_50 n_89 n_76 n_90 n_91 n_79 n_80 f_81 i_92 f_83 n_84 f_85 f_86 n_87 H locs ls (by omega) (by omega) (by omega) (by omega) (by omega) (by omega) hp8 (by omega) (fun _ => ⟨by omega, by omega, by omega, by omega, by omega, by rw [if_neg (by omega)]; exact hP1⟩) hg_88 hP hD hS (lv_sub hl [0, 1, 2] rfl)
                  · replace hw := And.intro hw.1 hw.2.1
                    have hw93 := hw
                    refine lv_aload_n hx hb dX12_setStatement_83 rfl (lv_at hl 2 rfl) ?_
                    refine lv_dup hx hb dX12_setStatement_84 rfl ?_
                    refine va_get (D := D) (ci := 11) (v := .int n_82) (C := RX12) (T := TX12) (N := 85) hx hb hts inX12 hown hK hP 0 mwd_o0 rfl 32 (by decide) fl260 (fun _ h9 => h9) rfl dX12_setStatement_85 ?_
                    refine lv_iconst (v := 1) hx hb dX12_setStatement_88 (by decide) ?_
                    refine lv_isub hx hb dX12_setStatement_89 ?_
                    refine lv_topi (fun i_93 ei_93 => ?_)
                    have vi_93 : i_93.toInt = n_82.toInt - 1 := by have h9 := x_sub ei_93 (by omega) (by omega); omega
                    refine va_put (D := D) (ci := 11) (v := .int i_93) (ty := .int) (C := RX12) (T := TX12) (N := 85) hx hb hts inX12 tyX12 tyX12_ok nmX12 hown hK hP hD hS 0 mwd_o0 rfl 32 (by decide) fl260 (fun _ h9 => h9) rfl (by decide +kernel) rfl rfl (Nat.le_of_ble_eq_true rfl) dX12_setStatement_90 (fun H locs hP hD hS => ?_)
                    have hP : va_P D vwCl (mwd y ad zw (sI (sI (sI (sI (sI (tI (tI (sI (tI (sI (tI (sI (sI (sI (sI (sI (sI (sI (sI (sI (sI (sI (sI (sI (sI (sI (sI σ 2 n_51) 4 n_52) 5 n_53) 6 n_54) 23 n_55) 2 n_59) 32 i_70) 2 n_71) 5 n_72) 6 n_73) 2 n_75) 4 n_76) 5 n_77) 6 n_78) 23 n_79) 29 n_80) 27 f_81) 32 n_82) 30 f_83) 31 n_84) 24 f_85) 26 f_86) 40 n_87) 2 n_89) 5 n_90) 6 n_91) 32 i_93)) H := x_trP hP mwd_p0_32
                    have hD : va_D A (mwd y ad zw (sI (sI (sI (sI (sI (tI (tI (sI (tI (sI (tI (sI (sI (sI (sI (sI (sI (sI (sI (sI (sI (sI (sI (sI (sI (sI (sI σ 2 n_51) 4 n_52) 5 n_53) 6 n_54) 23 n_55) 2 n_59) 32 i_70) 2 n_71) 5 n_72) 6 n_73) 2 n_75) 4 n_76) 5 n_77) 6 n_78) 23 n_79) 29 n_80) 27 f_81) 32 n_82) 30 f_83) 31 n_84) 24 f_85) 26 f_86) 40 n_87) 2 n_89) 5 n_90) 6 n_91) 32 i_93)) := x_trD hD mwd_p0_32
                    have hP : va_P D vwCl (mwd y ad zw (sI (tI (tI (sI (tI (sI (tI (sI (sI (sI (sI (sI (sI σ 2 n_89) 4 n_76) 5 n_90) 6 n_91) 23 n_79) 29 n_80) 27 f_81) 32 i_93) 30 f_83) 31 n_84) 24 f_85) 26 f_86) 40 n_87)) H := hP
                    have hD : va_D A (mwd y ad zw (sI (tI (tI (sI (tI (sI (tI (sI (sI (sI (sI (sI (sI σ 2 n_89) 4 n_76) 5 n_90) 6 n_91) 23 n_79) 29 n_80) 27 f_81) 32 i_93) 30 f_83) 31 n_84) 24 f_85) 26 f_86) 40 n_87)) := hD
                    exact cut93 r_50 n_89 n_76 n_90 n_91 n_79 n_80 f_81 i_93 f_83 n_84 f_85 f_86 n_87 H locs ls (by omega) (by omega) (by omega) (by omega) (by omega) (by omega) hp8 (by omega) (fun h9 => absurd h9 (by omega)) hg_88 hP hD hS (lv_sub hl [0, 1, 2] rfl)
                · clear hpi
                  refine lv_aload_n hx hb dX12_setStatement_77 rfl (lv_at hl 2 rfl) ?_
                  refine lv_bipush (v := 93) hx hb dX12_setStatement_78 (by decide) ?_
                  refine x_callvW (va_runV (As := [.int 93]) (rest := []) ⟨hx, hb, hml, hown, hts⟩ (q_asksSign l D y H.size ad zw (sI (tI (tI (sI (tI (sI (tI (sI (sI (sI (sI (sI (sI (sI (sI (sI (sI (sI (sI (sI (sI (sI (sI σ 2 n_51) 4 n_52) 5 n_53) 6 n_54) 23 n_55) 2 n_59) 32 i_70) 2 n_71) 5 n_72) 6 n_73) 2 n_75) 4 n_76) 5 n_77) 6 n_78) 23 n_79) 29 n_80) 27 f_81) 32 n_82) 30 f_83) 31 n_84) 24 f_85) 26 f_86) 40 n_87) 93 (by first | omega | decide) (show 0 ≤ (n_75).toInt from by first | omega | decide) (show (n_75).toInt ≤ ((σ.1 3)).toInt from by first | omega | decide) (show ((σ.1 3)).toInt ≤ 700 from by first | omega | decide)) (cwV 1 hts g_q_setStatement_0 rfl rfl rfl (by decide +kernel) ⟨Nat.le_of_ble_eq_true rfl, Nat.le_of_ble_eq_true rfl⟩) (x_preV (q := (RX12, TX12, 85)) hK hP hD (ci := 11) (q0 := 0) rfl mwd_o0) rfl rfl hl.1 rfl (lv_room (Nat.le_of_ble_eq_true rfl)) dX12_setStatement_80 ⟨Nat.le_of_ble_eq_true rfl, Nat.le_of_ble_eq_true rfl⟩) hP hD hS hA (fun u H locs hw hP hD hS => ?_)
                  obtain ⟨n_94, n_95, n_96⟩ := u
                  try dsimp only at hw
                  have hP : va_P D vwCl (mwd y ad zw (sI (sI (sI (sI (tI (tI (sI (tI (sI (tI (sI (sI (sI (sI (sI (sI (sI (sI (sI (sI (sI (sI (sI (sI (sI (sI σ 2 n_51) 4 n_52) 5 n_53) 6 n_54) 23 n_55) 2 n_59) 32 i_70) 2 n_71) 5 n_72) 6 n_73) 2 n_75) 4 n_76) 5 n_77) 6 n_78) 23 n_79) 29 n_80) 27 f_81) 32 n_82) 30 f_83) 31 n_84) 24 f_85) 26 f_86) 40 n_87) 2 n_94) 5 n_95) 6 n_96)) H := hP
                  have hD : va_D A (mwd y ad zw (sI (sI (sI (sI (tI (tI (sI (tI (sI (tI (sI (sI (sI (sI (sI (sI (sI (sI (sI (sI (sI (sI (sI (sI (sI (sI σ 2 n_51) 4 n_52) 5 n_53) 6 n_54) 23 n_55) 2 n_59) 32 i_70) 2 n_71) 5 n_72) 6 n_73) 2 n_75) 4 n_76) 5 n_77) 6 n_78) 23 n_79) 29 n_80) 27 f_81) 32 n_82) 30 f_83) 31 n_84) 24 f_85) 26 f_86) 40 n_87) 2 n_94) 5 n_95) 6 n_96)) := hD
                  replace hw : (n_75).toInt ≤ n_94.toInt ∧ n_94.toInt ≤ ((σ.1 3)).toInt ∧ (n_95.toInt = 0 → (n_77).toInt = 0 ∧ (n_75).toInt + 1 ≤ n_94.toInt) := hw
                  have hbz93 : n_95.toInt ≠ 0 := fun h9 => absurd (hw.2.2 h9).1 (by omega)
                  replace hw := And.intro hw.1 hw.2.1
                  have hw93 := hw
                  refine lv_aload_n hx hb dX12_setStatement_83 rfl (lv_at hl 2 rfl) ?_
                  refine lv_dup hx hb dX12_setStatement_84 rfl ?_
                  refine va_get (D := D) (ci := 11) (v := .int n_82) (C := RX12) (T := TX12) (N := 85) hx hb hts inX12 hown hK hP 0 mwd_o0 rfl 32 (by decide) fl260 (fun _ h9 => h9) rfl dX12_setStatement_85 ?_
                  refine lv_iconst (v := 1) hx hb dX12_setStatement_88 (by decide) ?_
                  refine lv_isub hx hb dX12_setStatement_89 ?_
                  refine lv_topi (fun i_97 ei_97 => ?_)
                  have vi_97 : i_97.toInt = n_82.toInt - 1 := by have h9 := x_sub ei_97 (by omega) (by omega); omega
                  refine va_put (D := D) (ci := 11) (v := .int i_97) (ty := .int) (C := RX12) (T := TX12) (N := 85) hx hb hts inX12 tyX12 tyX12_ok nmX12 hown hK hP hD hS 0 mwd_o0 rfl 32 (by decide) fl260 (fun _ h9 => h9) rfl (by decide +kernel) rfl rfl (Nat.le_of_ble_eq_true rfl) dX12_setStatement_90 (fun H locs hP hD hS => ?_)
                  have hP : va_P D vwCl (mwd y ad zw (sI (sI (sI (sI (sI (tI (tI (sI (tI (sI (tI (sI (sI (sI (sI (sI (sI (sI (sI (sI (sI (sI (sI (sI (sI (sI (sI σ 2 n_51) 4 n_52) 5 n_53) 6 n_54) 23 n_55) 2 n_59) 32 i_70) 2 n_71) 5 n_72) 6 n_73) 2 n_75) 4 n_76) 5 n_77) 6 n_78) 23 n_79) 29 n_80) 27 f_81) 32 n_82) 30 f_83) 31 n_84) 24 f_85) 26 f_86) 40 n_87) 2 n_94) 5 n_95) 6 n_96) 32 i_97)) H := x_trP hP mwd_p0_32
                  have hD : va_D A (mwd y ad zw (sI (sI (sI (sI (sI (tI (tI (sI (tI (sI (tI (sI (sI (sI (sI (sI (sI (sI (sI (sI (sI (sI (sI (sI (sI (sI (sI σ 2 n_51) 4 n_52) 5 n_53) 6 n_54) 23 n_55) 2 n_59) 32 i_70) 2 n_71) 5 n_72) 6 n_73) 2 n_75) 4 n_76) 5 n_77) 6 n_78) 23 n_79) 29 n_80) 27 f_81) 32 n_82) 30 f_83) 31 n_84) 24 f_85) 26 f_86) 40 n_87) 2 n_94) 5 n_95) 6 n_96) 32 i_97)) := x_trD hD mwd_p0_32
                  have hP : va_P D vwCl (mwd y ad zw (sI (tI (tI (sI (tI (sI (tI (sI (sI (sI (sI (sI (sI σ 2 n_94) 4 n_76) 5 n_95) 6 n_96) 23 n_79) 29 n_80) 27 f_81) 32 i_97) 30 f_83) 31 n_84) 24 f_85) 26 f_86) 40 n_87)) H := hP
                  have hD : va_D A (mwd y ad zw (sI (tI (tI (sI (tI (sI (tI (sI (sI (sI (sI (sI (sI σ 2 n_94) 4 n_76) 5 n_95) 6 n_96) 23 n_79) 29 n_80) 27 f_81) 32 i_97) 30 f_83) 31 n_84) 24 f_85) 26 f_86) 40 n_87)) := hD
                  exact cut93 r_50 n_94 n_76 n_95 n_96 n_79 n_80 f_81 i_97 f_83 n_84 f_85 f_86 n_87 H locs ls (by omega) (by omega) (by omega) (by omega) (by omega) (by omega) hp8 (by omega) (fun h9 => absurd h9 (by omega)) hg_88 hP hD hS (lv_sub hl [0, 1, 2] rfl)
            · replace hw := And.intro hw.1 hw.2.1
              have hw91 := hw
              refine lv_aload_n hx hb dX12_setStatement_66 rfl (lv_at hl 2 rfl) ?_
              refine va_get (D := D) (ci := 11) (v := .int n_72) (C := RX12) (T := TX12) (N := 85) hx hb hts inX12 hown hK hP 0 mwd_o0 rfl 5 (by decide) fl191 (fun _ h9 => h9) rfl dX12_setStatement_67 ?_
              refine lv_if_ne (tgt := 77) hx hb dX12_setStatement_70 (by decide) (fun c_98 => ?_) (fun c_98 => ?_)
              · have kc_98 : n_72.toInt ≠ 0 := by have h9 := c_98; simp only [ge_iff_le, gt_iff_lt, x_lt, x_le, x_eq, ne_eq, Int32.not_lt, Int32.not_le] at h9; simp only [Int32.reduceToInt] at h9; omega
                refine lv_aload_n hx hb dX12_setStatement_77 rfl (lv_at hl 2 rfl) ?_
                refine lv_bipush (v := 93) hx hb dX12_setStatement_78 (by decide) ?_
                refine x_callvW (va_runV (As := [.int 93]) (rest := []) ⟨hx, hb, hml, hown, hts⟩ (q_asksSign l D y H.size ad zw (sI (sI (sI (sI (sI (sI (sI (sI (sI (sI σ 2 n_51) 4 n_52) 5 n_53) 6 n_54) 23 n_55) 2 n_59) 32 i_70) 2 n_71) 5 n_72) 6 n_73) 93 (by first | omega | decide) (show 0 ≤ (n_71).toInt from by first | omega | decide) (show (n_71).toInt ≤ ((σ.1 3)).toInt from by first | omega | decide) (show ((σ.1 3)).toInt ≤ 700 from by first | omega | decide)) (cwV 1 hts g_q_setStatement_0 rfl rfl rfl (by decide +kernel) ⟨Nat.le_of_ble_eq_true rfl, Nat.le_of_ble_eq_true rfl⟩) (x_preV (q := (RX12, TX12, 85)) hK hP hD (ci := 11) (q0 := 0) rfl mwd_o0) rfl rfl hl.1 rfl (lv_room (Nat.le_of_ble_eq_true rfl)) dX12_setStatement_80 ⟨Nat.le_of_ble_eq_true rfl, Nat.le_of_ble_eq_true rfl⟩) hP hD hS hA (fun u H locs hw hP hD hS => ?_)
                obtain ⟨n_99, n_100, n_101⟩ := u
                try dsimp only at hw
                have hP : va_P D vwCl (mwd y ad zw (sI (sI (sI (sI (sI (sI (sI (sI (sI (sI (sI (sI (sI σ 2 n_51) 4 n_52) 5 n_53) 6 n_54) 23 n_55) 2 n_59) 32 i_70) 2 n_71) 5 n_72) 6 n_73) 2 n_99) 5 n_100) 6 n_101)) H := hP
                have hD : va_D A (mwd y ad zw (sI (sI (sI (sI (sI (sI (sI (sI (sI (sI (sI (sI (sI σ 2 n_51) 4 n_52) 5 n_53) 6 n_54) 23 n_55) 2 n_59) 32 i_70) 2 n_71) 5 n_72) 6 n_73) 2 n_99) 5 n_100) 6 n_101)) := hD
                replace hw : (n_71).toInt ≤ n_99.toInt ∧ n_99.toInt ≤ ((σ.1 3)).toInt ∧ (n_100.toInt = 0 → (n_72).toInt = 0 ∧ (n_71).toInt + 1 ≤ n_99.toInt) := hw
                have hbz93 : n_100.toInt ≠ 0 := fun h9 => absurd (hw.2.2 h9).1 (by omega)
                replace hw := And.intro hw.1 hw.2.1
                have hw93 := hw
                refine lv_aload_n hx hb dX12_setStatement_83 rfl (lv_at hl 2 rfl) ?_
                refine lv_dup hx hb dX12_setStatement_84 rfl ?_
                refine va_get (D := D) (ci := 11) (v := .int i_70) (C := RX12) (T := TX12) (N := 85) hx hb hts inX12 hown hK hP 0 mwd_o0 rfl 32 (by decide) fl260 (fun _ h9 => h9) rfl dX12_setStatement_85 ?_
                refine lv_iconst (v := 1) hx hb dX12_setStatement_88 (by decide) ?_
                refine lv_isub hx hb dX12_setStatement_89 ?_
                refine lv_topi (fun i_102 ei_102 => ?_)
                have vi_102 : i_102.toInt = i_70.toInt - 1 := by have h9 := x_sub ei_102 (by omega) (by omega); omega
                refine va_put (D := D) (ci := 11) (v := .int i_102) (ty := .int) (C := RX12) (T := TX12) (N := 85) hx hb hts inX12 tyX12 tyX12_ok nmX12 hown hK hP hD hS 0 mwd_o0 rfl 32 (by decide) fl260 (fun _ h9 => h9) rfl (by decide +kernel) rfl rfl (Nat.le_of_ble_eq_true rfl) dX12_setStatement_90 (fun H locs hP hD hS => ?_)
                have hP : va_P D vwCl (mwd y ad zw (sI (sI (sI (sI (sI (sI (sI (sI (sI (sI (sI (sI (sI (sI σ 2 n_51) 4 n_52) 5 n_53) 6 n_54) 23 n_55) 2 n_59) 32 i_70) 2 n_71) 5 n_72) 6 n_73) 2 n_99) 5 n_100) 6 n_101) 32 i_102)) H := x_trP hP mwd_p0_32
                have hD : va_D A (mwd y ad zw (sI (sI (sI (sI (sI (sI (sI (sI (sI (sI (sI (sI (sI (sI σ 2 n_51) 4 n_52) 5 n_53) 6 n_54) 23 n_55) 2 n_59) 32 i_70) 2 n_71) 5 n_72) 6 n_73) 2 n_99) 5 n_100) 6 n_101) 32 i_102)) := x_trD hD mwd_p0_32
                have hP : va_P D vwCl (mwd y ad zw (sI (tI (tI (sI (tI (sI (tI (sI (sI (sI (sI (sI (sI σ 2 n_99) 4 n_52) 5 n_100) 6 n_101) 23 n_55) 29 (σ.1 29)) 27 (σ.2.2.1 27)) 32 i_102) 30 (σ.2.2.1 30)) 31 (σ.1 31)) 24 (σ.2.2.1 24)) 26 (σ.2.2.1 26)) 40 (σ.1 40))) H := hP
                have hD : va_D A (mwd y ad zw (sI (tI (tI (sI (tI (sI (tI (sI (sI (sI (sI (sI (sI σ 2 n_99) 4 n_52) 5 n_100) 6 n_101) 23 n_55) 29 (σ.1 29)) 27 (σ.2.2.1 27)) 32 i_102) 30 (σ.2.2.1 30)) 31 (σ.1 31)) 24 (σ.2.2.1 24)) 26 (σ.2.2.1 26)) 40 (σ.1 40))) := hD
                exact cut93 r_50 n_99 n_52 n_100 n_101 n_55 (σ.1 29) (σ.2.2.1 27) i_102 (σ.2.2.1 30) (σ.1 31) (σ.2.2.1 24) (σ.2.2.1 26) (σ.1 40) H locs ls (by omega) (by omega) (by omega) (by omega) (by omega) (by omega) (fun _ _ => rfl) (by omega) (fun h9 => absurd h9 (by omega)) hB26 hP hD hS (lv_sub hl [0, 1, 2] rfl)
              · have kc_98 : n_72.toInt = 0 := by have h9 := c_98; simp only [ge_iff_le, gt_iff_lt, x_lt, x_le, x_eq, ne_eq, Int32.not_lt, Int32.not_le] at h9; simp only [Int32.reduceToInt] at h9; omega
                exfalso
                omega
          · have kc_69 : (σ.1 32).toInt = 8 := by have h9 := c_69; simp only [ge_iff_le, gt_iff_lt, x_lt, x_le, x_eq, ne_eq, Int32.not_lt, Int32.not_le] at h9; simp only [Int32.reduceToInt] at h9; omega
            refine lv_aload_n hx hb dX12_setStatement_41 rfl (lv_at hl 2 rfl) ?_
            refine lv_iconst (v := 4) hx hb dX12_setStatement_42 (by decide) ?_
            refine lv_aload_n hx hb dX12_setStatement_43 rfl (lv_at hl 2 rfl) ?_
            refine va_get (D := D) (ci := 11) (v := .int n_59) (C := RX12) (T := TX12) (N := 85) hx hb hts inX12 hown hK hP 0 mwd_o0 rfl 2 (by decide) fl197 (fun _ h9 => h9) rfl dX12_setStatement_44 ?_
            refine x_callvW (va_runV (As := [.int 4, .int n_59]) (rest := []) ⟨hx, hb, hml, hown, hts⟩ (q_fail l D y H.size ad zw (sI (sI (sI (sI (sI (sI σ 2 n_51) 4 n_52) 5 n_53) 6 n_54) 23 n_55) 2 n_59) 4 n_59) (cwV 2 hts g_q_setStatement_6 rfl rfl rfl (by decide +kernel) ⟨Nat.le_of_ble_eq_true rfl, Nat.le_of_ble_eq_true rfl⟩) (x_preV (q := (RX12, TX12, 85)) hK hP hD (ci := 11) (q0 := 0) rfl mwd_o0) rfl rfl hl.1 rfl (lv_room (Nat.le_of_ble_eq_true rfl)) dX12_setStatement_47 ⟨Nat.le_of_ble_eq_true rfl, Nat.le_of_ble_eq_true rfl⟩) hP hD hS hA (fun u H locs hw hP hD hS => ?_)
            obtain ⟨b_103, b_104⟩ := u
            try dsimp only at hw
            have hP : va_P D vwCl (mwd y ad zw (sI (sI (sI (sI (sI (sI (sI (sI σ 2 n_51) 4 n_52) 5 n_53) 6 n_54) 23 n_55) 2 n_59) 5 b_103) 6 b_104)) H := hP
            have hD : va_D A (mwd y ad zw (sI (sI (sI (sI (sI (sI (sI (sI σ 2 n_51) 4 n_52) 5 n_53) 6 n_54) 23 n_55) 2 n_59) 5 b_103) 6 b_104)) := hD
            replace hw : b_103 = if n_53 = 0 then (4 : Int32) else n_53 := hw
            have hbd : b_103.toInt ≠ 0 := by rw [hw]; split <;> first | decide | (rename_i h9; intro h8; exact h9 (Int32.toInt_inj.mp (by rw [h8]; rfl)))
            clear hw
            refine lv_aload_n hx hb dX12_setStatement_50 rfl (lv_at hl 2 rfl) ?_
            refine lv_dup hx hb dX12_setStatement_51 rfl ?_
            refine va_get (D := D) (ci := 11) (v := .int (σ.1 32)) (C := RX12) (T := TX12) (N := 85) hx hb hts inX12 hown hK hP 0 mwd_o0 rfl 32 (by decide) fl260 (fun _ h9 => h9) rfl dX12_setStatement_52 ?_
            refine lv_iconst (v := 1) hx hb dX12_setStatement_55 (by decide) ?_
            refine lv_iadd hx hb dX12_setStatement_56 ?_
            refine lv_topi (fun i_105 ei_105 => ?_)
            have vi_105 : i_105.toInt = (σ.1 32).toInt + 1 := by have h9 := x_add ei_105 (by omega) (by omega); omega
            refine va_put (D := D) (ci := 11) (v := .int i_105) (ty := .int) (C := RX12) (T := TX12) (N := 85) hx hb hts inX12 tyX12 tyX12_ok nmX12 hown hK hP hD hS 0 mwd_o0 rfl 32 (by decide) fl260 (fun _ h9 => h9) rfl (by decide +kernel) rfl rfl (Nat.le_of_ble_eq_true rfl) dX12_setStatement_57 (fun H locs hP hD hS => ?_)
            have hP : va_P D vwCl (mwd y ad zw (sI (sI (sI (sI (sI (sI (sI (sI (sI σ 2 n_51) 4 n_52) 5 n_53) 6 n_54) 23 n_55) 2 n_59) 5 b_103) 6 b_104) 32 i_105)) H := x_trP hP mwd_p0_32
            have hD : va_D A (mwd y ad zw (sI (sI (sI (sI (sI (sI (sI (sI (sI σ 2 n_51) 4 n_52) 5 n_53) 6 n_54) 23 n_55) 2 n_59) 5 b_103) 6 b_104) 32 i_105)) := x_trD hD mwd_p0_32
            refine lv_aload_n hx hb dX12_setStatement_60 rfl (lv_at hl 2 rfl) ?_
            refine lv_bipush (v := 91) hx hb dX12_setStatement_61 (by decide) ?_
            refine x_callvW (va_runV (As := [.int 91]) (rest := []) ⟨hx, hb, hml, hown, hts⟩ (q_asksSign l D y H.size ad zw (sI (sI (sI (sI (sI (sI (sI (sI (sI σ 2 n_51) 4 n_52) 5 n_53) 6 n_54) 23 n_55) 2 n_59) 5 b_103) 6 b_104) 32 i_105) 91 (by first | omega | decide) (show 0 ≤ (n_59).toInt from by first | omega | decide) (show (n_59).toInt ≤ ((σ.1 3)).toInt from by first | omega | decide) (show ((σ.1 3)).toInt ≤ 700 from by first | omega | decide)) (cwV 1 hts g_q_setStatement_0 rfl rfl rfl (by decide +kernel) ⟨Nat.le_of_ble_eq_true rfl, Nat.le_of_ble_eq_true rfl⟩) (x_preV (q := (RX12, TX12, 85)) hK hP hD (ci := 11) (q0 := 0) rfl mwd_o0) rfl rfl hl.1 rfl (lv_room (Nat.le_of_ble_eq_true rfl)) dX12_setStatement_63 ⟨Nat.le_of_ble_eq_true rfl, Nat.le_of_ble_eq_true rfl⟩) hP hD hS hA (fun u H locs hw hP hD hS => ?_)
            obtain ⟨n_106, n_107, n_108⟩ := u
            try dsimp only at hw
            have hP : va_P D vwCl (mwd y ad zw (sI (sI (sI (sI (sI (sI (sI (sI (sI (sI (sI (sI σ 2 n_51) 4 n_52) 5 n_53) 6 n_54) 23 n_55) 2 n_59) 5 b_103) 6 b_104) 32 i_105) 2 n_106) 5 n_107) 6 n_108)) H := hP
            have hD : va_D A (mwd y ad zw (sI (sI (sI (sI (sI (sI (sI (sI (sI (sI (sI (sI σ 2 n_51) 4 n_52) 5 n_53) 6 n_54) 23 n_55) 2 n_59) 5 b_103) 6 b_104) 32 i_105) 2 n_106) 5 n_107) 6 n_108)) := hD
            replace hw : (n_59).toInt ≤ n_106.toInt ∧ n_106.toInt ≤ ((σ.1 3)).toInt ∧ (n_107.toInt = 0 → (b_103).toInt = 0 ∧ (n_59).toInt + 1 ≤ n_106.toInt) := hw
            have hbz91 : n_107.toInt ≠ 0 := fun h9 => absurd (hw.2.2 h9).1 (by omega)
            replace hw := And.intro hw.1 hw.2.1
            have hw91 := hw
            refine lv_aload_n hx hb dX12_setStatement_66 rfl (lv_at hl 2 rfl) ?_
            refine va_get (D := D) (ci := 11) (v := .int n_107) (C := RX12) (T := TX12) (N := 85) hx hb hts inX12 hown hK hP 0 mwd_o0 rfl 5 (by decide) fl191 (fun _ h9 => h9) rfl dX12_setStatement_67 ?_
            refine lv_if_ne (tgt := 77) hx hb dX12_setStatement_70 (by decide) (fun c_109 => ?_) (fun c_109 => ?_)
            · have kc_109 : n_107.toInt ≠ 0 := by have h9 := c_109; simp only [ge_iff_le, gt_iff_lt, x_lt, x_le, x_eq, ne_eq, Int32.not_lt, Int32.not_le] at h9; simp only [Int32.reduceToInt] at h9; omega
              refine lv_aload_n hx hb dX12_setStatement_77 rfl (lv_at hl 2 rfl) ?_
              refine lv_bipush (v := 93) hx hb dX12_setStatement_78 (by decide) ?_
              refine x_callvW (va_runV (As := [.int 93]) (rest := []) ⟨hx, hb, hml, hown, hts⟩ (q_asksSign l D y H.size ad zw (sI (sI (sI (sI (sI (sI (sI (sI (sI (sI (sI (sI σ 2 n_51) 4 n_52) 5 n_53) 6 n_54) 23 n_55) 2 n_59) 5 b_103) 6 b_104) 32 i_105) 2 n_106) 5 n_107) 6 n_108) 93 (by first | omega | decide) (show 0 ≤ (n_106).toInt from by first | omega | decide) (show (n_106).toInt ≤ ((σ.1 3)).toInt from by first | omega | decide) (show ((σ.1 3)).toInt ≤ 700 from by first | omega | decide)) (cwV 1 hts g_q_setStatement_0 rfl rfl rfl (by decide +kernel) ⟨Nat.le_of_ble_eq_true rfl, Nat.le_of_ble_eq_true rfl⟩) (x_preV (q := (RX12, TX12, 85)) hK hP hD (ci := 11) (q0 := 0) rfl mwd_o0) rfl rfl hl.1 rfl (lv_room (Nat.le_of_ble_eq_true rfl)) dX12_setStatement_80 ⟨Nat.le_of_ble_eq_true rfl, Nat.le_of_ble_eq_true rfl⟩) hP hD hS hA (fun u H locs hw hP hD hS => ?_)
              obtain ⟨n_110, n_111, n_112⟩ := u
              try dsimp only at hw
              have hP : va_P D vwCl (mwd y ad zw (sI (sI (sI (sI (sI (sI (sI (sI (sI (sI (sI (sI (sI (sI (sI σ 2 n_51) 4 n_52) 5 n_53) 6 n_54) 23 n_55) 2 n_59) 5 b_103) 6 b_104) 32 i_105) 2 n_106) 5 n_107) 6 n_108) 2 n_110) 5 n_111) 6 n_112)) H := hP
              have hD : va_D A (mwd y ad zw (sI (sI (sI (sI (sI (sI (sI (sI (sI (sI (sI (sI (sI (sI (sI σ 2 n_51) 4 n_52) 5 n_53) 6 n_54) 23 n_55) 2 n_59) 5 b_103) 6 b_104) 32 i_105) 2 n_106) 5 n_107) 6 n_108) 2 n_110) 5 n_111) 6 n_112)) := hD
              replace hw : (n_106).toInt ≤ n_110.toInt ∧ n_110.toInt ≤ ((σ.1 3)).toInt ∧ (n_111.toInt = 0 → (n_107).toInt = 0 ∧ (n_106).toInt + 1 ≤ n_110.toInt) := hw
              have hbz93 : n_111.toInt ≠ 0 := fun h9 => absurd (hw.2.2 h9).1 (by omega)
              replace hw := And.intro hw.1 hw.2.1
              have hw93 := hw
              refine lv_aload_n hx hb dX12_setStatement_83 rfl (lv_at hl 2 rfl) ?_
              refine lv_dup hx hb dX12_setStatement_84 rfl ?_
              refine va_get (D := D) (ci := 11) (v := .int i_105) (C := RX12) (T := TX12) (N := 85) hx hb hts inX12 hown hK hP 0 mwd_o0 rfl 32 (by decide) fl260 (fun _ h9 => h9) rfl dX12_setStatement_85 ?_
              refine lv_iconst (v := 1) hx hb dX12_setStatement_88 (by decide) ?_
              refine lv_isub hx hb dX12_setStatement_89 ?_
              refine lv_topi (fun i_113 ei_113 => ?_)
              have vi_113 : i_113.toInt = i_105.toInt - 1 := by have h9 := x_sub ei_113 (by omega) (by omega); omega
              refine va_put (D := D) (ci := 11) (v := .int i_113) (ty := .int) (C := RX12) (T := TX12) (N := 85) hx hb hts inX12 tyX12 tyX12_ok nmX12 hown hK hP hD hS 0 mwd_o0 rfl 32 (by decide) fl260 (fun _ h9 => h9) rfl (by decide +kernel) rfl rfl (Nat.le_of_ble_eq_true rfl) dX12_setStatement_90 (fun H locs hP hD hS => ?_)
              have hP : va_P D vwCl (mwd y ad zw (sI (sI (sI (sI (sI (sI (sI (sI (sI (sI (sI (sI (sI (sI (sI (sI σ 2 n_51) 4 n_52) 5 n_53) 6 n_54) 23 n_55) 2 n_59) 5 b_103) 6 b_104) 32 i_105) 2 n_106) 5 n_107) 6 n_108) 2 n_110) 5 n_111) 6 n_112) 32 i_113)) H := x_trP hP mwd_p0_32
              have hD : va_D A (mwd y ad zw (sI (sI (sI (sI (sI (sI (sI (sI (sI (sI (sI (sI (sI (sI (sI (sI σ 2 n_51) 4 n_52) 5 n_53) 6 n_54) 23 n_55) 2 n_59) 5 b_103) 6 b_104) 32 i_105) 2 n_106) 5 n_107) 6 n_108) 2 n_110) 5 n_111) 6 n_112) 32 i_113)) := x_trD hD mwd_p0_32
              have hP : va_P D vwCl (mwd y ad zw (sI (tI (tI (sI (tI (sI (tI (sI (sI (sI (sI (sI (sI σ 2 n_110) 4 n_52) 5 n_111) 6 n_112) 23 n_55) 29 (σ.1 29)) 27 (σ.2.2.1 27)) 32 i_113) 30 (σ.2.2.1 30)) 31 (σ.1 31)) 24 (σ.2.2.1 24)) 26 (σ.2.2.1 26)) 40 (σ.1 40))) H := hP
              have hD : va_D A (mwd y ad zw (sI (tI (tI (sI (tI (sI (tI (sI (sI (sI (sI (sI (sI σ 2 n_110) 4 n_52) 5 n_111) 6 n_112) 23 n_55) 29 (σ.1 29)) 27 (σ.2.2.1 27)) 32 i_113) 30 (σ.2.2.1 30)) 31 (σ.1 31)) 24 (σ.2.2.1 24)) 26 (σ.2.2.1 26)) 40 (σ.1 40))) := hD
              exact cut93 r_50 n_110 n_52 n_111 n_112 n_55 (σ.1 29) (σ.2.2.1 27) i_113 (σ.2.2.1 30) (σ.1 31) (σ.2.2.1 24) (σ.2.2.1 26) (σ.1 40) H locs ls (by omega) (by omega) (by omega) (by omega) (by omega) (by omega) (fun _ _ => rfl) (by omega) (fun h9 => absurd h9 (by omega)) hB26 hP hD hS (lv_sub hl [0, 1, 2] rfl)
            · have kc_109 : n_107.toInt = 0 := by have h9 := c_109; simp only [ge_iff_le, gt_iff_lt, x_lt, x_le, x_eq, ne_eq, Int32.not_lt, Int32.not_le] at h9; simp only [Int32.reduceToInt] at h9; omega
              exfalso
              omega
  · replace hw := And.intro hw.1 (And.intro hw.2.1 hw.2.2.2)
    refine lv_istore_n (lv' := [(1, .int r_50), (0, .ref (ad 1))]) hx hb dX12_setStatement_4 rfl hl (by decide) rfl (fun ls hl => ?_)
    refine lv_aload_n hx hb dX12_setStatement_5 rfl (lv_at hl 1 rfl) ?_
    refine va_get (D := D) (ci := 11) (v := .int (σ.1 29)) (C := RX12) (T := TX12) (N := 85) hx hb hts inX12 hown hK hP 0 mwd_o0 rfl 29 (by decide) fl246 (fun _ h9 => h9) rfl dX12_setStatement_6 ?_
    refine lv_istore_n (lv' := [(2, .int (σ.1 29)), (1, .int r_50), (0, .ref (ad 1))]) hx hb dX12_setStatement_9 rfl hl (by decide) rfl (fun ls hl => ?_)
    refine lv_aload_n hx hb dX12_setStatement_10 rfl (lv_at hl 2 rfl) ?_
    refine va_get (D := D) (ci := 11) (v := .int n_53) (C := RX12) (T := TX12) (N := 85) hx hb hts inX12 hown hK hP 0 mwd_o0 rfl 5 (by decide) fl191 (fun _ h9 => h9) rfl dX12_setStatement_11 ?_
    refine lv_if_ne (tgt := 93) hx hb dX12_setStatement_14 (by decide) (fun c_114 => ?_) (fun c_114 => ?_)
    · have kc_114 : n_53.toInt ≠ 0 := by have h9 := c_114; simp only [ge_iff_le, gt_iff_lt, x_lt, x_le, x_eq, ne_eq, Int32.not_lt, Int32.not_le] at h9; simp only [Int32.reduceToInt] at h9; omega
      have hP : va_P D vwCl (mwd y ad zw (sI (tI (tI (sI (tI (sI (tI (sI (sI (sI (sI (sI (sI σ 2 n_51) 4 n_52) 5 n_53) 6 n_54) 23 n_55) 29 (σ.1 29)) 27 (σ.2.2.1 27)) 32 (σ.1 32)) 30 (σ.2.2.1 30)) 31 (σ.1 31)) 24 (σ.2.2.1 24)) 26 (σ.2.2.1 26)) 40 (σ.1 40))) H := hP
      have hD : va_D A (mwd y ad zw (sI (tI (tI (sI (tI (sI (tI (sI (sI (sI (sI (sI (sI σ 2 n_51) 4 n_52) 5 n_53) 6 n_54) 23 n_55) 29 (σ.1 29)) 27 (σ.2.2.1 27)) 32 (σ.1 32)) 30 (σ.2.2.1 30)) 31 (σ.1 31)) 24 (σ.2.2.1 24)) 26 (σ.2.2.1 26)) 40 (σ.1 40))) := hD
      exact cut93 r_50 n_51 n_52 n_53 n_54 n_55 (σ.1 29) (σ.2.2.1 27) (σ.1 32) (σ.2.2.1 30) (σ.1 31) (σ.2.2.1 24) (σ.2.2.1 26) (σ.1 40) H locs ls (by omega) (by omega) (by omega) (by omega) (by omega) (by omega) (fun _ _ => rfl) (by omega) (fun h9 => absurd h9 (by omega)) hB26 hP hD hS (lv_sub hl [0, 1, 2] rfl)
    · have kc_114 : n_53.toInt = 0 := by have h9 := c_114; simp only [ge_iff_le, gt_iff_lt, x_lt, x_le, x_eq, ne_eq, Int32.not_lt, Int32.not_le] at h9; simp only [Int32.reduceToInt] at h9; omega
      exfalso
      omega

