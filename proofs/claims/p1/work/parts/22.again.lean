/-- first(n, k) of the reference's table -/
def gx (b a : Nat) : Int32 := if b = 1 ∨ a = 1 then -1 else nI (gf b a)
theorem dX12_worksAgain_0 : decode cX12_worksAgain 0 = .ok (.aload_n 0, 1) := by decide +kernel
theorem dX12_worksAgain_1 : decode cX12_worksAgain 1 = .ok (.getfield 497, 3) := by decide +kernel
theorem dX12_worksAgain_4 : decode cX12_worksAgain 4 = .ok (.ifCond .eq 4, 3) := by decide +kernel
theorem dX12_worksAgain_7 : decode cX12_worksAgain 7 = .ok (.return_, 1) := by decide +kernel
theorem dX12_worksAgain_8 : decode cX12_worksAgain 8 = .ok (.aload_n 0, 1) := by decide +kernel
theorem dX12_worksAgain_9 : decode cX12_worksAgain 9 = .ok (.iconst 1, 1) := by decide +kernel
theorem dX12_worksAgain_10 : decode cX12_worksAgain 10 = .ok (.putfield 497, 3) := by decide +kernel
theorem dX12_worksAgain_13 : decode cX12_worksAgain 13 = .ok (.iconst 1, 1) := by decide +kernel
theorem dX12_worksAgain_14 : decode cX12_worksAgain 14 = .ok (.istore_n 1, 1) := by decide +kernel
theorem dX12_worksAgain_15 : decode cX12_worksAgain 15 = .ok (.iload_n 1, 1) := by decide +kernel
theorem dX12_worksAgain_16 : decode cX12_worksAgain 16 = .ok (.bipush 100, 2) := by decide +kernel
theorem dX12_worksAgain_18 : decode cX12_worksAgain 18 = .ok (.if_icmp .gt 164, 3) := by decide +kernel
theorem dX12_worksAgain_21 : decode cX12_worksAgain 21 = .ok (.aload_n 0, 1) := by decide +kernel
theorem dX12_worksAgain_22 : decode cX12_worksAgain 22 = .ok (.getfield 182, 3) := by decide +kernel
theorem dX12_worksAgain_25 : decode cX12_worksAgain 25 = .ok (.bipush 11, 2) := by decide +kernel
theorem dX12_worksAgain_27 : decode cX12_worksAgain 27 = .ok (.iload_n 1, 1) := by decide +kernel
theorem dX12_worksAgain_28 : decode cX12_worksAgain 28 = .ok (.imul, 1) := by decide +kernel
theorem dX12_worksAgain_29 : decode cX12_worksAgain 29 = .ok (.iconst 1, 1) := by decide +kernel
theorem dX12_worksAgain_30 : decode cX12_worksAgain 30 = .ok (.iadd, 1) := by decide +kernel
theorem dX12_worksAgain_31 : decode cX12_worksAgain 31 = .ok (.iload_n 1, 1) := by decide +kernel
theorem dX12_worksAgain_32 : decode cX12_worksAgain 32 = .ok (.iload_n 1, 1) := by decide +kernel
theorem dX12_worksAgain_33 : decode cX12_worksAgain 33 = .ok (.iconst 1, 1) := by decide +kernel
theorem dX12_worksAgain_34 : decode cX12_worksAgain 34 = .ok (.isub, 1) := by decide +kernel
theorem dX12_worksAgain_35 : decode cX12_worksAgain 35 = .ok (.imul, 1) := by decide +kernel
theorem dX12_worksAgain_36 : decode cX12_worksAgain 36 = .ok (.iconst 2, 1) := by decide +kernel
theorem dX12_worksAgain_37 : decode cX12_worksAgain 37 = .ok (.idiv, 1) := by decide +kernel
theorem dX12_worksAgain_38 : decode cX12_worksAgain 38 = .ok (.iastore, 1) := by decide +kernel
theorem dX12_worksAgain_39 : decode cX12_worksAgain 39 = .ok (.aload_n 0, 1) := by decide +kernel
theorem dX12_worksAgain_40 : decode cX12_worksAgain 40 = .ok (.getfield 185, 3) := by decide +kernel
theorem dX12_worksAgain_43 : decode cX12_worksAgain 43 = .ok (.bipush 11, 2) := by decide +kernel
theorem dX12_worksAgain_45 : decode cX12_worksAgain 45 = .ok (.iload_n 1, 1) := by decide +kernel
theorem dX12_worksAgain_46 : decode cX12_worksAgain 46 = .ok (.imul, 1) := by decide +kernel
theorem dX12_worksAgain_47 : decode cX12_worksAgain 47 = .ok (.iconst 1, 1) := by decide +kernel
theorem dX12_worksAgain_48 : decode cX12_worksAgain 48 = .ok (.iadd, 1) := by decide +kernel
theorem dX12_worksAgain_49 : decode cX12_worksAgain 49 = .ok (.iconst (-1), 1) := by decide +kernel
theorem dX12_worksAgain_50 : decode cX12_worksAgain 50 = .ok (.iastore, 1) := by decide +kernel
theorem dX12_worksAgain_51 : decode cX12_worksAgain 51 = .ok (.iconst 2, 1) := by decide +kernel
theorem dX12_worksAgain_52 : decode cX12_worksAgain 52 = .ok (.istore_n 2, 1) := by decide +kernel
theorem dX12_worksAgain_53 : decode cX12_worksAgain 53 = .ok (.iload_n 2, 1) := by decide +kernel
theorem dX12_worksAgain_54 : decode cX12_worksAgain 54 = .ok (.bipush 10, 2) := by decide +kernel
theorem dX12_worksAgain_56 : decode cX12_worksAgain 56 = .ok (.if_icmp .gt 120, 3) := by decide +kernel
theorem dX12_worksAgain_59 : decode cX12_worksAgain 59 = .ok (.iload_n 1, 1) := by decide +kernel
theorem dX12_worksAgain_60 : decode cX12_worksAgain 60 = .ok (.iconst 1, 1) := by decide +kernel
theorem dX12_worksAgain_61 : decode cX12_worksAgain 61 = .ok (.if_icmp .ne 7, 3) := by decide +kernel
theorem dX12_worksAgain_64 : decode cX12_worksAgain 64 = .ok (.iconst 0, 1) := by decide +kernel
theorem dX12_worksAgain_65 : decode cX12_worksAgain 65 = .ok (.goto 6, 3) := by decide +kernel
theorem dX12_worksAgain_68 : decode cX12_worksAgain 68 = .ok (.ldc_w 500, 3) := by decide +kernel
theorem dX12_worksAgain_71 : decode cX12_worksAgain 71 = .ok (.istore_n 3, 1) := by decide +kernel
theorem dX12_worksAgain_72 : decode cX12_worksAgain 72 = .ok (.aload_n 0, 1) := by decide +kernel
theorem dX12_worksAgain_73 : decode cX12_worksAgain 73 = .ok (.getfield 185, 3) := by decide +kernel
theorem dX12_worksAgain_76 : decode cX12_worksAgain 76 = .ok (.bipush 11, 2) := by decide +kernel
theorem dX12_worksAgain_78 : decode cX12_worksAgain 78 = .ok (.iload_n 1, 1) := by decide +kernel
theorem dX12_worksAgain_79 : decode cX12_worksAgain 79 = .ok (.imul, 1) := by decide +kernel
theorem dX12_worksAgain_80 : decode cX12_worksAgain 80 = .ok (.iload_n 2, 1) := by decide +kernel
theorem dX12_worksAgain_81 : decode cX12_worksAgain 81 = .ok (.iadd, 1) := by decide +kernel
theorem dX12_worksAgain_82 : decode cX12_worksAgain 82 = .ok (.iconst (-1), 1) := by decide +kernel
theorem dX12_worksAgain_83 : decode cX12_worksAgain 83 = .ok (.iastore, 1) := by decide +kernel
theorem dX12_worksAgain_84 : decode cX12_worksAgain 84 = .ok (.iconst 1, 1) := by decide +kernel
theorem dX12_worksAgain_85 : decode cX12_worksAgain 85 = .ok (.istore 4, 2) := by decide +kernel
theorem dX12_worksAgain_87 : decode cX12_worksAgain 87 = .ok (.iload 4, 2) := by decide +kernel
theorem dX12_worksAgain_89 : decode cX12_worksAgain 89 = .ok (.iload_n 1, 1) := by decide +kernel
theorem dX12_worksAgain_90 : decode cX12_worksAgain 90 = .ok (.if_icmp .ge 68, 3) := by decide +kernel
theorem dX12_worksAgain_93 : decode cX12_worksAgain 93 = .ok (.iload 4, 2) := by decide +kernel
theorem dX12_worksAgain_95 : decode cX12_worksAgain 95 = .ok (.aload_n 0, 1) := by decide +kernel
theorem dX12_worksAgain_96 : decode cX12_worksAgain 96 = .ok (.getfield 182, 3) := by decide +kernel
theorem dX12_worksAgain_99 : decode cX12_worksAgain 99 = .ok (.bipush 11, 2) := by decide +kernel
theorem dX12_worksAgain_101 : decode cX12_worksAgain 101 = .ok (.iload 4, 2) := by decide +kernel
theorem dX12_worksAgain_103 : decode cX12_worksAgain 103 = .ok (.imul, 1) := by decide +kernel
theorem dX12_worksAgain_104 : decode cX12_worksAgain 104 = .ok (.iload_n 2, 1) := by decide +kernel
theorem dX12_worksAgain_105 : decode cX12_worksAgain 105 = .ok (.iadd, 1) := by decide +kernel
theorem dX12_worksAgain_106 : decode cX12_worksAgain 106 = .ok (.iaload, 1) := by decide +kernel
theorem dX12_worksAgain_107 : decode cX12_worksAgain 107 = .ok (.iadd, 1) := by decide +kernel
theorem dX12_worksAgain_108 : decode cX12_worksAgain 108 = .ok (.aload_n 0, 1) := by decide +kernel
theorem dX12_worksAgain_109 : decode cX12_worksAgain 109 = .ok (.getfield 182, 3) := by decide +kernel
theorem dX12_worksAgain_112 : decode cX12_worksAgain 112 = .ok (.bipush 11, 2) := by decide +kernel
theorem dX12_worksAgain_114 : decode cX12_worksAgain 114 = .ok (.iload_n 1, 1) := by decide +kernel
theorem dX12_worksAgain_115 : decode cX12_worksAgain 115 = .ok (.iload 4, 2) := by decide +kernel
theorem dX12_worksAgain_117 : decode cX12_worksAgain 117 = .ok (.isub, 1) := by decide +kernel
theorem dX12_worksAgain_118 : decode cX12_worksAgain 118 = .ok (.imul, 1) := by decide +kernel
theorem dX12_worksAgain_119 : decode cX12_worksAgain 119 = .ok (.iload_n 2, 1) := by decide +kernel
theorem dX12_worksAgain_120 : decode cX12_worksAgain 120 = .ok (.iadd, 1) := by decide +kernel
theorem dX12_worksAgain_121 : decode cX12_worksAgain 121 = .ok (.iconst 1, 1) := by decide +kernel
theorem dX12_worksAgain_122 : decode cX12_worksAgain 122 = .ok (.isub, 1) := by decide +kernel
theorem dX12_worksAgain_123 : decode cX12_worksAgain 123 = .ok (.iaload, 1) := by decide +kernel
theorem dX12_worksAgain_124 : decode cX12_worksAgain 124 = .ok (.iadd, 1) := by decide +kernel
theorem dX12_worksAgain_125 : decode cX12_worksAgain 125 = .ok (.istore 5, 2) := by decide +kernel
theorem dX12_worksAgain_127 : decode cX12_worksAgain 127 = .ok (.iload 5, 2) := by decide +kernel
theorem dX12_worksAgain_129 : decode cX12_worksAgain 129 = .ok (.iload_n 3, 1) := by decide +kernel
theorem dX12_worksAgain_130 : decode cX12_worksAgain 130 = .ok (.if_icmp .lt 6, 3) := by decide +kernel
theorem dX12_worksAgain_133 : decode cX12_worksAgain 133 = .ok (.goto 19, 3) := by decide +kernel
theorem dX12_worksAgain_136 : decode cX12_worksAgain 136 = .ok (.iload 5, 2) := by decide +kernel
theorem dX12_worksAgain_138 : decode cX12_worksAgain 138 = .ok (.istore_n 3, 1) := by decide +kernel
theorem dX12_worksAgain_139 : decode cX12_worksAgain 139 = .ok (.aload_n 0, 1) := by decide +kernel
theorem dX12_worksAgain_140 : decode cX12_worksAgain 140 = .ok (.getfield 185, 3) := by decide +kernel
theorem dX12_worksAgain_143 : decode cX12_worksAgain 143 = .ok (.bipush 11, 2) := by decide +kernel
theorem dX12_worksAgain_145 : decode cX12_worksAgain 145 = .ok (.iload_n 1, 1) := by decide +kernel
theorem dX12_worksAgain_146 : decode cX12_worksAgain 146 = .ok (.imul, 1) := by decide +kernel
theorem dX12_worksAgain_147 : decode cX12_worksAgain 147 = .ok (.iload_n 2, 1) := by decide +kernel
theorem dX12_worksAgain_148 : decode cX12_worksAgain 148 = .ok (.iadd, 1) := by decide +kernel
theorem dX12_worksAgain_149 : decode cX12_worksAgain 149 = .ok (.iload 4, 2) := by decide +kernel
theorem dX12_worksAgain_151 : decode cX12_worksAgain 151 = .ok (.iastore, 1) := by decide +kernel
theorem dX12_worksAgain_152 : decode cX12_worksAgain 152 = .ok (.iinc 4 1, 3) := by decide +kernel
theorem dX12_worksAgain_155 : decode cX12_worksAgain 155 = .ok (.goto (-68), 3) := by decide +kernel
theorem dX12_worksAgain_158 : decode cX12_worksAgain 158 = .ok (.aload_n 0, 1) := by decide +kernel
theorem dX12_worksAgain_159 : decode cX12_worksAgain 159 = .ok (.getfield 182, 3) := by decide +kernel
theorem dX12_worksAgain_162 : decode cX12_worksAgain 162 = .ok (.bipush 11, 2) := by decide +kernel
theorem dX12_worksAgain_164 : decode cX12_worksAgain 164 = .ok (.iload_n 1, 1) := by decide +kernel
theorem dX12_worksAgain_165 : decode cX12_worksAgain 165 = .ok (.imul, 1) := by decide +kernel
theorem dX12_worksAgain_166 : decode cX12_worksAgain 166 = .ok (.iload_n 2, 1) := by decide +kernel
theorem dX12_worksAgain_167 : decode cX12_worksAgain 167 = .ok (.iadd, 1) := by decide +kernel
theorem dX12_worksAgain_168 : decode cX12_worksAgain 168 = .ok (.iload_n 3, 1) := by decide +kernel
theorem dX12_worksAgain_169 : decode cX12_worksAgain 169 = .ok (.iastore, 1) := by decide +kernel
theorem dX12_worksAgain_170 : decode cX12_worksAgain 170 = .ok (.iinc 2 1, 3) := by decide +kernel
theorem dX12_worksAgain_173 : decode cX12_worksAgain 173 = .ok (.goto (-120), 3) := by decide +kernel
theorem dX12_worksAgain_176 : decode cX12_worksAgain 176 = .ok (.iinc 1 1, 3) := by decide +kernel
theorem dX12_worksAgain_179 : decode cX12_worksAgain 179 = .ok (.goto (-164), 3) := by decide +kernel
theorem dX12_worksAgain_182 : decode cX12_worksAgain 182 = .ok (.return_, 1) := by decide +kernel
theorem dX12_again_0 : decode cX12_again 0 = .ok (.iload_n 1, 1) := by decide +kernel
theorem dX12_again_1 : decode cX12_again 1 = .ok (.i2l, 1) := by decide +kernel
theorem dX12_again_2 : decode cX12_again 2 = .ok (.lconst 1, 1) := by decide +kernel
theorem dX12_again_3 : decode cX12_again 3 = .ok (.ldc2_w 501, 3) := by decide +kernel
theorem dX12_again_6 : decode cX12_again 6 = .ok (.invokestatic 231, 3) := by decide +kernel
theorem dX12_again_9 : decode cX12_again 9 = .ok (.ifCond .eq 15, 3) := by decide +kernel
theorem dX12_again_12 : decode cX12_again 12 = .ok (.iload_n 2, 1) := by decide +kernel
theorem dX12_again_13 : decode cX12_again 13 = .ok (.i2l, 1) := by decide +kernel
theorem dX12_again_14 : decode cX12_again 14 = .ok (.lconst 1, 1) := by decide +kernel
theorem dX12_again_15 : decode cX12_again 15 = .ok (.ldc2_w 503, 3) := by decide +kernel
theorem dX12_again_18 : decode cX12_again 18 = .ok (.invokestatic 231, 3) := by decide +kernel
theorem dX12_again_21 : decode cX12_again 21 = .ok (.ifCond .ne 5, 3) := by decide +kernel
theorem dX12_again_24 : decode cX12_again 24 = .ok (.iconst (-1), 1) := by decide +kernel
theorem dX12_again_25 : decode cX12_again 25 = .ok (.ireturn, 1) := by decide +kernel
theorem dX12_again_26 : decode cX12_again 26 = .ok (.aload_n 0, 1) := by decide +kernel
theorem dX12_again_27 : decode cX12_again 27 = .ok (.invokevirtual 505, 3) := by decide +kernel
theorem dX12_again_30 : decode cX12_again 30 = .ok (.aload_n 0, 1) := by decide +kernel
theorem dX12_again_31 : decode cX12_again 31 = .ok (.getfield 182, 3) := by decide +kernel
theorem dX12_again_34 : decode cX12_again 34 = .ok (.bipush 11, 2) := by decide +kernel
theorem dX12_again_36 : decode cX12_again 36 = .ok (.iload_n 1, 1) := by decide +kernel
theorem dX12_again_37 : decode cX12_again 37 = .ok (.imul, 1) := by decide +kernel
theorem dX12_again_38 : decode cX12_again 38 = .ok (.iload_n 2, 1) := by decide +kernel
theorem dX12_again_39 : decode cX12_again 39 = .ok (.iadd, 1) := by decide +kernel
theorem dX12_again_40 : decode cX12_again 40 = .ok (.iaload, 1) := by decide +kernel
theorem dX12_again_41 : decode cX12_again 41 = .ok (.ireturn, 1) := by decide +kernel
theorem dX12_first_0 : decode cX12_first 0 = .ok (.iload_n 1, 1) := by decide +kernel
theorem dX12_first_1 : decode cX12_first 1 = .ok (.i2l, 1) := by decide +kernel
theorem dX12_first_2 : decode cX12_first 2 = .ok (.lconst 1, 1) := by decide +kernel
theorem dX12_first_3 : decode cX12_first 3 = .ok (.ldc2_w 501, 3) := by decide +kernel
theorem dX12_first_6 : decode cX12_first 6 = .ok (.invokestatic 231, 3) := by decide +kernel
theorem dX12_first_9 : decode cX12_first 9 = .ok (.ifCond .eq 15, 3) := by decide +kernel
theorem dX12_first_12 : decode cX12_first 12 = .ok (.iload_n 2, 1) := by decide +kernel
theorem dX12_first_13 : decode cX12_first 13 = .ok (.i2l, 1) := by decide +kernel
theorem dX12_first_14 : decode cX12_first 14 = .ok (.lconst 1, 1) := by decide +kernel
theorem dX12_first_15 : decode cX12_first 15 = .ok (.ldc2_w 503, 3) := by decide +kernel
theorem dX12_first_18 : decode cX12_first 18 = .ok (.invokestatic 231, 3) := by decide +kernel
theorem dX12_first_21 : decode cX12_first 21 = .ok (.ifCond .ne 5, 3) := by decide +kernel
theorem dX12_first_24 : decode cX12_first 24 = .ok (.iconst (-1), 1) := by decide +kernel
theorem dX12_first_25 : decode cX12_first 25 = .ok (.ireturn, 1) := by decide +kernel
theorem dX12_first_26 : decode cX12_first 26 = .ok (.aload_n 0, 1) := by decide +kernel
theorem dX12_first_27 : decode cX12_first 27 = .ok (.invokevirtual 505, 3) := by decide +kernel
theorem dX12_first_30 : decode cX12_first 30 = .ok (.aload_n 0, 1) := by decide +kernel
theorem dX12_first_31 : decode cX12_first 31 = .ok (.getfield 185, 3) := by decide +kernel
theorem dX12_first_34 : decode cX12_first 34 = .ok (.bipush 11, 2) := by decide +kernel
theorem dX12_first_36 : decode cX12_first 36 = .ok (.iload_n 1, 1) := by decide +kernel
theorem dX12_first_37 : decode cX12_first 37 = .ok (.imul, 1) := by decide +kernel
theorem dX12_first_38 : decode cX12_first 38 = .ok (.iload_n 2, 1) := by decide +kernel
theorem dX12_first_39 : decode cX12_first 39 = .ok (.iadd, 1) := by decide +kernel
theorem dX12_first_40 : decode cX12_first 40 = .ok (.iaload, 1) := by decide +kernel
theorem dX12_first_41 : decode cX12_first 41 = .ok (.ireturn, 1) := by decide +kernel
def v_m_worksAgain0 : List Cond := .code yX12_worksAgain cX12_worksAgain 6 none :: ([.fieldLink RX12 497 "SlopeRunnerModel" "hasAgain" "Z", .fieldLink RX12 182 "SlopeRunnerModel" "again" "[I", .fieldLink RX12 185 "SlopeRunnerModel" "firstKept" "[I", .constant RX12 500 1000000] ++ wsX120)
set_option maxHeartbeats 4000000 in
set_option maxRecDepth 100000 in
theorem m_worksAgain0 (l : Launch) (D : va_G) (y : Nat → ClassId) (sz : Nat) (h0 : Nat) (ma : Nat → Nat) (mi : Nat → Int32) (mj : Nat → Int64) (f g : Nat → Int32) : Met l yX12_worksAgain v_m_worksAgain0 ({ frames := 0, cells := 0, slots := 0, locals := 0 } : Room) (va_Pc [.ref h0] (xPre D (xT y) [(h0, .inr (11, mF ma (upd mi 82 0) mj)), ((ma 83), .inl (y 2, 1111, .inl f)), ((ma 84), .inl (y 2, 1111, .inl g))] sz)) (va_Qv (fun (u : (Nat → Int32) × (Nat → Int32)) => (∀ a b : Nat, 1 ≤ a → a ≤ 100 → 1 ≤ b → b ≤ 10 → u.1 (11 * a + b) = nI (gg b a)) ∧ (∀ a b : Nat, 1 ≤ a → a ≤ 100 → 1 ≤ b → b ≤ 10 → u.2 (11 * a + b) = gx b a)) (fun (u : (Nat → Int32) × (Nat → Int32)) => xB D (xT y) (va_A [(h0, .inr (11, mF ma (upd mi 82 0) mj)), ((ma 83), .inl (y 2, 1111, .inl f)), ((ma 84), .inl (y 2, 1111, .inl g))] sz) [(h0, .inr (11, mF ma (upd mi 82 1) mj)), ((ma 83), .inl (y 2, 1111, .inl u.1)), ((ma 84), .inl (y 2, 1111, .inl u.2))]) (va_A [(h0, .inr (11, mF ma (upd mi 82 0) mj)), ((ma 83), .inl (y 2, 1111, .inl f)), ((ma 84), .inl (y 2, 1111, .inl g))] sz)) 0 0 (va_A [(h0, .inr (11, mF ma (upd mi 82 0) mj)), ((ma 83), .inl (y 2, 1111, .inl f)), ((ma 84), .inl (y 2, 1111, .inl g))] sz) := by
  refine x_metv (cc := cX12_worksAgain) (maxL := 6) (by decide) rfl (Nat.le_of_ble_eq_true rfl) ?_
  intro p e s m below meth c A H locs Q hx hb hml hown hts hr hlocks hmn hA hP hK hD hS ls hl hQ
  have hl : lv_has ls 6 [(0, .ref h0)] := hl
  have fl497 := hts (.fieldLink RX12 497 "SlopeRunnerModel" "hasAgain" "Z") (by decide +kernel)
  have inX12 : ∀ w ∈ wsX120, w ∈ v_m_worksAgain0 := (fun w h => List.mem_cons_of_mem _ (List.mem_append_right _ h))
  have fl182 := hts (.fieldLink RX12 182 "SlopeRunnerModel" "again" "[I") (by decide +kernel)
  have fl185 := hts (.fieldLink RX12 185 "SlopeRunnerModel" "firstKept" "[I") (by decide +kernel)
  refine lv_aload_n hx hb dX12_worksAgain_0 rfl (lv_at hl 0 rfl) ?_
  refine va_get (D := D) (ci := 11) (v := .int 0) (C := RX12) (T := TX12) (N := 85) hx hb hts inX12 hown hK hP 0 rfl rfl 82 (by decide) fl497 (fun _ h9 => h9) rfl dX12_worksAgain_1 ?_
  refine lv_if_eq (tgt := 8) hx hb dX12_worksAgain_4 (by decide) (fun c_1 => ?_) (fun c_1 => ?_)
  · refine lv_aload_n hx hb dX12_worksAgain_8 rfl (lv_at hl 0 rfl) ?_
    refine lv_iconst (v := 1) hx hb dX12_worksAgain_9 (by decide) ?_
    refine va_put (D := D) (ci := 11) (v := .int 1) (ty := .boolean) (C := RX12) (T := TX12) (N := 85) hx hb hts inX12 tyX12 tyX12_ok nmX12 hown hK hP hD hS 0 rfl rfl 82 (by decide) fl497 (fun _ h9 => h9) rfl (by decide +kernel) rfl rfl (Nat.le_of_ble_eq_true rfl) dX12_worksAgain_10 (fun H locs hP hD hS => ?_)
    have hP : va_P D vwCl [(h0, .inr (11, mF ma (upd mi 82 1) mj)), ((ma 83), .inl (y 2, 1111, .inl f)), ((ma 84), .inl (y 2, 1111, .inl g))] H := hP
    have hD : va_D A [(h0, .inr (11, mF ma (upd mi 82 1) mj)), ((ma 83), .inl (y 2, 1111, .inl f)), ((ma 84), .inl (y 2, 1111, .inl g))] := hD
    refine lv_iconst (v := 1) hx hb dX12_worksAgain_13 (by decide) ?_
    refine lv_istore_n (lv' := [(1, .int 1), (0, .ref h0)]) hx hb dX12_worksAgain_14 rfl hl (by decide) rfl (fun ls hl => ?_)
    have loop1 : ∀ (fu : Nat) (n : Nat) (f1 : (Nat → Int32)) (g1 : (Nat → Int32)) (H : Heap) (locs : List Loc) (ls : Array Slot), (1 ≤ n) → (n ≤ 101) → (∀ a b : Nat, 1 ≤ a → a < n → 1 ≤ b → b ≤ 10 → f1 (11 * a + b) = nI (gg b a)) → (∀ a b : Nat, 1 ≤ a → a < n → 1 ≤ b → b ≤ 10 → g1 (11 * a + b) = gx b a) → ((101 : Int) - n < (fu : Int)) → va_P D vwCl [(h0, .inr (11, mF ma (upd mi 82 1) mj)), ((ma 83), .inl (y 2, 1111, .inl f1)), ((ma 84), .inl (y 2, 1111, .inl g1))] H → va_D A [(h0, .inr (11, mF ma (upd mi 82 1) mj)), ((ma 83), .inl (y 2, 1111, .inl f1)), ((ma 84), .inl (y 2, 1111, .inl g1))] → va_S A s.heap H locs → lv_has ls 6 [(1, .int (nI n)), (0, .ref h0)] → W p l e ({ frames := 0, cells := 0, slots := 0, locals := 0 } : Room) s m ([.ref h0] : List Value).toArray below meth c H locs 0 0 Q (F0 m 15 ls []) := by
      intro fu
      induction fu with
      | zero =>
        intro n f1 g1 H locs ls hn1 hn2 hf hg hm
        exact absurd hm (by omega)
      | succ fu ih_loop1 =>
        intro n f1 g1 H locs ls hn1 hn2 hf hg hm hP hD hS hl
        refine lv_iload_n hx hb dX12_worksAgain_15 rfl (lv_at hl 0 rfl) ?_
        refine lv_bipush (v := 100) hx hb dX12_worksAgain_16 (by decide) ?_
        refine lv_icmp_gt (tgt := 182) hx hb dX12_worksAgain_18 (by decide) (fun c_2 => ?_) (fun c_2 => ?_)
        · have hn3 : 100 < n := (nI_ltI (a := 100) (by omega) (by omega)).mp c_2
          exact x_vret (u := (f1, g1)) hx hb hr ⟨fun a b h1 h2 h3 h4 => hf a b h1 (by omega) h3 h4, fun a b h1 h2 h3 h4 => hg a b h1 (by omega) h3 h4⟩ hP hD hK hS [0, 1, 2] rfl (by decide) dX12_worksAgain_182 hlocks hQ
        · have hn3 : n ≤ 100 := by have h := mt (nI_ltI (a := 100) (by omega) (by omega)).mpr c_2; omega
          refine lv_aload_n hx hb dX12_worksAgain_21 rfl (lv_at hl 1 rfl) ?_
          refine va_get (D := D) (ci := 11) (v := .ref (ma 83)) (C := RX12) (T := TX12) (N := 85) hx hb hts inX12 hown hK hP 0 rfl rfl 83 (by decide) fl182 (fun _ h9 => h9) rfl dX12_worksAgain_22 ?_
          refine lv_bipush (v := 11) hx hb dX12_worksAgain_25 (by decide) ?_
          refine lv_iload_n hx hb dX12_worksAgain_27 rfl (lv_at hl 0 rfl) ?_
          refine lv_imul hx hb dX12_worksAgain_28 ?_
          refine lv_topi (fun i_3 ei_3 => ?_)
          obtain rfl : i_3 = (nI (11 * n)) := ei_3.trans (pk_mul 11 n)
          refine lv_iconst (v := 1) hx hb dX12_worksAgain_29 (by decide) ?_
          refine lv_iadd hx hb dX12_worksAgain_30 ?_
          refine lv_topi (fun i_4 ei_4 => ?_)
          obtain rfl : i_4 = (nI ((11 * n) + 1)) := ei_4.trans (nI_add (11 * n) 1)
          refine lv_iload_n hx hb dX12_worksAgain_31 rfl (lv_at hl 0 rfl) ?_
          refine lv_iload_n hx hb dX12_worksAgain_32 rfl (lv_at hl 0 rfl) ?_
          refine lv_iconst (v := 1) hx hb dX12_worksAgain_33 (by decide) ?_
          refine lv_isub hx hb dX12_worksAgain_34 ?_
          refine lv_topi (fun i_5 ei_5 => ?_)
          obtain rfl : i_5 = (nI (n - 1)) := ei_5.trans (pk_sub (a := n) (b := 1) (by omega))
          refine lv_imul hx hb dX12_worksAgain_35 ?_
          refine lv_topi (fun i_6 ei_6 => ?_)
          obtain rfl : i_6 = (nI (n * (n - 1))) := ei_6.trans (pk_mul n (n - 1))
          refine lv_iconst (v := 2) hx hb dX12_worksAgain_36 (by decide) ?_
          refine lv_idiv hx hb dX12_worksAgain_37 (by decide) ?_
          refine lv_topi (fun i_7 ei_7 => ?_)
          obtain rfl : i_7 = (nI ((n * (n - 1)) / 2)) := ei_7.trans (pk_div (a := (n * (n - 1))) (d := 2) (Nat.lt_of_le_of_lt (Nat.mul_le_mul (show n ≤ 100 by omega) (show n - 1 ≤ 99 by omega)) (by decide)) (by decide) (by decide))
          refine va_iast hx hb hK hP hD hS 1 2 rfl rfl (vp_in_nI (n := ((11 * n) + 1)) (by omega) (by decide)) dX12_worksAgain_38 (fun H locs hP hD hS => ?_)
          have hP : va_P D vwCl [(h0, .inr (11, mF ma (upd mi 82 1) mj)), ((ma 83), .inl (y 2, 1111, .inl (upd f1 (Int32.toNatClampNeg (nI ((11 * n) + 1))) (nI ((n * (n - 1)) / 2))))), ((ma 84), .inl (y 2, 1111, .inl g1))] H := hP
          have hD : va_D A [(h0, .inr (11, mF ma (upd mi 82 1) mj)), ((ma 83), .inl (y 2, 1111, .inl (upd f1 (Int32.toNatClampNeg (nI ((11 * n) + 1))) (nI ((n * (n - 1)) / 2))))), ((ma 84), .inl (y 2, 1111, .inl g1))] := hD
          obtain ⟨f_8, ef_8⟩ : ∃ z : Nat → Int32, z = (upd f1 (Int32.toNatClampNeg (nI ((11 * n) + 1))) (nI ((n * (n - 1)) / 2))) := ⟨_, rfl⟩
          rw [← ef_8] at hP hD
          rw [nI_clamp (n := ((11 * n) + 1)) (by omega)] at ef_8
          refine lv_aload_n hx hb dX12_worksAgain_39 rfl (lv_at hl 1 rfl) ?_
          refine va_get (D := D) (ci := 11) (v := .ref (ma 84)) (C := RX12) (T := TX12) (N := 85) hx hb hts inX12 hown hK hP 0 rfl rfl 84 (by decide) fl185 (fun _ h9 => h9) rfl dX12_worksAgain_40 ?_
          refine lv_bipush (v := 11) hx hb dX12_worksAgain_43 (by decide) ?_
          refine lv_iload_n hx hb dX12_worksAgain_45 rfl (lv_at hl 0 rfl) ?_
          refine lv_imul hx hb dX12_worksAgain_46 ?_
          refine lv_topi (fun i_9 ei_9 => ?_)
          obtain rfl : i_9 = (nI (11 * n)) := ei_9.trans (pk_mul 11 n)
          refine lv_iconst (v := 1) hx hb dX12_worksAgain_47 (by decide) ?_
          refine lv_iadd hx hb dX12_worksAgain_48 ?_
          refine lv_topi (fun i_10 ei_10 => ?_)
          obtain rfl : i_10 = (nI ((11 * n) + 1)) := ei_10.trans (nI_add (11 * n) 1)
          refine lv_iconst (v := (-1)) hx hb dX12_worksAgain_49 (by decide) ?_
          refine va_iast hx hb hK hP hD hS 2 2 rfl rfl (vp_in_nI (n := ((11 * n) + 1)) (by omega) (by decide)) dX12_worksAgain_50 (fun H locs hP hD hS => ?_)
          have hP : va_P D vwCl [(h0, .inr (11, mF ma (upd mi 82 1) mj)), ((ma 83), .inl (y 2, 1111, .inl f_8)), ((ma 84), .inl (y 2, 1111, .inl (upd g1 (Int32.toNatClampNeg (nI ((11 * n) + 1))) (-1))))] H := hP
          have hD : va_D A [(h0, .inr (11, mF ma (upd mi 82 1) mj)), ((ma 83), .inl (y 2, 1111, .inl f_8)), ((ma 84), .inl (y 2, 1111, .inl (upd g1 (Int32.toNatClampNeg (nI ((11 * n) + 1))) (-1))))] := hD
          obtain ⟨f_11, ef_11⟩ : ∃ z : Nat → Int32, z = (upd g1 (Int32.toNatClampNeg (nI ((11 * n) + 1))) (-1)) := ⟨_, rfl⟩
          rw [← ef_11] at hP hD
          rw [nI_clamp (n := ((11 * n) + 1)) (by omega)] at ef_11
          refine lv_iconst (v := 2) hx hb dX12_worksAgain_51 (by decide) ?_
          refine lv_istore_n (lv' := [(2, .int 2), (1, .int (nI n)), (0, .ref h0)]) hx hb dX12_worksAgain_52 rfl hl (by decide) rfl (fun ls hl => ?_)
          have loop2 : ∀ (fu : Nat) (k : Nat) (f2 : (Nat → Int32)) (g2 : (Nat → Int32)) (H : Heap) (locs : List Loc) (ls : Array Slot), (2 ≤ k) → (k ≤ 11) → (∀ a b : Nat, 1 ≤ a → a < n → 1 ≤ b → b ≤ 10 → f2 (11 * a + b) = nI (gg b a)) → (∀ a b : Nat, 1 ≤ a → a < n → 1 ≤ b → b ≤ 10 → g2 (11 * a + b) = gx b a) → (∀ b : Nat, 1 ≤ b → b < k → f2 (11 * n + b) = nI (gg b n)) → (∀ b : Nat, 1 ≤ b → b < k → g2 (11 * n + b) = gx b n) → ((11 : Int) - k < (fu : Int)) → va_P D vwCl [(h0, .inr (11, mF ma (upd mi 82 1) mj)), ((ma 83), .inl (y 2, 1111, .inl f2)), ((ma 84), .inl (y 2, 1111, .inl g2))] H → va_D A [(h0, .inr (11, mF ma (upd mi 82 1) mj)), ((ma 83), .inl (y 2, 1111, .inl f2)), ((ma 84), .inl (y 2, 1111, .inl g2))] → va_S A s.heap H locs → lv_has ls 6 [(2, .int (nI k)), (1, .int (nI n)), (0, .ref h0)] → W p l e ({ frames := 0, cells := 0, slots := 0, locals := 0 } : Room) s m ([.ref h0] : List Value).toArray below meth c H locs 0 0 Q (F0 m 53 ls []) := by
            intro fu
            induction fu with
            | zero =>
              intro k f2 g2 H locs ls hk1 hk2 hf2 hg2 hp hq hm
              exact absurd hm (by omega)
            | succ fu ih_loop2 =>
              intro k f2 g2 H locs ls hk1 hk2 hf2 hg2 hp hq hm hP hD hS hl
              refine lv_iload_n hx hb dX12_worksAgain_53 rfl (lv_at hl 0 rfl) ?_
              refine lv_bipush (v := 10) hx hb dX12_worksAgain_54 (by decide) ?_
              refine lv_icmp_gt (tgt := 176) hx hb dX12_worksAgain_56 (by decide) (fun c_12 => ?_) (fun c_12 => ?_)
              · have hk3 : 10 < k := (nI_ltI (a := 10) (by omega) (by omega)).mp c_12
                refine lv_iinc (v := (nI (n + 1))) (lv' := [(1, .int (nI (n + 1))), (2, .int (nI k)), (0, .ref h0)]) hx hb dX12_worksAgain_176 hl (k := 1) rfl (nI_1 n) (by decide) rfl (fun ls hl => ?_)
                refine lv_goto (tgt := 15) hx hb dX12_worksAgain_179 (by decide) ?_
                exact ih_loop1 (n + 1) f2 g2 H locs ls (by omega) (by omega) (fun a b h1 h2 h3 h4 => if h : a = n then (by rw [h]; exact hp b h3 (by omega)) else hf2 a b h1 (by omega) h3 h4) (fun a b h1 h2 h3 h4 => if h : a = n then (by rw [h]; exact hq b h3 (by omega)) else hg2 a b h1 (by omega) h3 h4) (by (try dsimp only); (try simp only [lg_cmp_lt, lg_cmp_le, lg_cmp_gt, lg_cmp_ge] at *); (try simp only [x_lt, x_le, Int32.reduceToInt, x_ltL, x_leL, Int64.reduceToInt] at *); omega) (x_subP hP [0, 1, 2] rfl) (x_subD hD [0, 1, 2] rfl (by decide)) hS (lv_sub hl [0, 2] rfl)
              · have hk3 : k ≤ 10 := by have h := mt (nI_ltI (a := 10) (by omega) (by omega)).mpr c_12; omega
                refine lv_iload_n hx hb dX12_worksAgain_59 rfl (lv_at hl 1 rfl) ?_
                refine lv_iconst (v := 1) hx hb dX12_worksAgain_60 (by decide) ?_
                refine lv_icmp_ne (tgt := 68) hx hb dX12_worksAgain_61 (by decide) (fun c_13 => ?_) (fun c_13 => ?_)
                · have hne : ¬ n = 1 := by intro h; exact c_13 (by rw [h]; rfl)
                  refine lv_ldcw (v := 1000000) hx hb hown (hts (.constant RX12 500 1000000) (by decide +kernel)) dX12_worksAgain_68 ?_
                  refine lv_istore_n (lv' := [(3, .int 1000000), (2, .int (nI k)), (1, .int (nI n)), (0, .ref h0)]) hx hb dX12_worksAgain_71 rfl hl (by decide) rfl (fun ls hl => ?_)
                  refine lv_aload_n hx hb dX12_worksAgain_72 rfl (lv_at hl 3 rfl) ?_
                  refine va_get (D := D) (ci := 11) (v := .ref (ma 84)) (C := RX12) (T := TX12) (N := 85) hx hb hts inX12 hown hK hP 0 rfl rfl 84 (by decide) fl185 (fun _ h9 => h9) rfl dX12_worksAgain_73 ?_
                  refine lv_bipush (v := 11) hx hb dX12_worksAgain_76 (by decide) ?_
                  refine lv_iload_n hx hb dX12_worksAgain_78 rfl (lv_at hl 2 rfl) ?_
                  refine lv_imul hx hb dX12_worksAgain_79 ?_
                  refine lv_topi (fun i_14 ei_14 => ?_)
                  obtain rfl : i_14 = (nI (11 * n)) := ei_14.trans (pk_mul 11 n)
                  refine lv_iload_n hx hb dX12_worksAgain_80 rfl (lv_at hl 1 rfl) ?_
                  refine lv_iadd hx hb dX12_worksAgain_81 ?_
                  refine lv_topi (fun i_15 ei_15 => ?_)
                  obtain rfl : i_15 = (nI ((11 * n) + k)) := ei_15.trans (nI_add (11 * n) k)
                  refine lv_iconst (v := (-1)) hx hb dX12_worksAgain_82 (by decide) ?_
                  refine va_iast hx hb hK hP hD hS 2 2 rfl rfl (vp_in_nI (n := ((11 * n) + k)) (by omega) (by decide)) dX12_worksAgain_83 (fun H locs hP hD hS => ?_)
                  have hP : va_P D vwCl [(h0, .inr (11, mF ma (upd mi 82 1) mj)), ((ma 83), .inl (y 2, 1111, .inl f2)), ((ma 84), .inl (y 2, 1111, .inl (upd g2 (Int32.toNatClampNeg (nI ((11 * n) + k))) (-1))))] H := hP
                  have hD : va_D A [(h0, .inr (11, mF ma (upd mi 82 1) mj)), ((ma 83), .inl (y 2, 1111, .inl f2)), ((ma 84), .inl (y 2, 1111, .inl (upd g2 (Int32.toNatClampNeg (nI ((11 * n) + k))) (-1))))] := hD
                  obtain ⟨f_16, ef_16⟩ : ∃ z : Nat → Int32, z = (upd g2 (Int32.toNatClampNeg (nI ((11 * n) + k))) (-1)) := ⟨_, rfl⟩
                  rw [← ef_16] at hP hD
                  rw [nI_clamp (n := ((11 * n) + k)) (by omega)] at ef_16
                  refine lv_iconst (v := 1) hx hb dX12_worksAgain_84 (by decide) ?_
                  refine lv_istore (lv' := [(4, .int 1), (3, .int 1000000), (2, .int (nI k)), (1, .int (nI n)), (0, .ref h0)]) hx hb dX12_worksAgain_85 hl (by decide) rfl (fun ls hl => ?_)
                  have loop3 : ∀ (fu : Nat) (j : Nat) (bs : Int32) (g3 : (Nat → Int32)) (H : Heap) (locs : List Loc) (ls : Array Slot), (1 ≤ j) → (j ≤ n) → (bs = if n = 1 then 0 else nI (gs (gc k n) (j - 1)).1) → (∀ x : Nat, x ≠ 11 * n + k → g3 x = g2 x) → (j = 1 → g3 (11 * n + k) = -1) → (2 ≤ j → g3 (11 * n + k) = nI (gs (gc k n) (j - 1)).2) → ((n : Int) - j < (fu : Int)) → va_P D vwCl [(h0, .inr (11, mF ma (upd mi 82 1) mj)), ((ma 83), .inl (y 2, 1111, .inl f2)), ((ma 84), .inl (y 2, 1111, .inl g3))] H → va_D A [(h0, .inr (11, mF ma (upd mi 82 1) mj)), ((ma 83), .inl (y 2, 1111, .inl f2)), ((ma 84), .inl (y 2, 1111, .inl g3))] → va_S A s.heap H locs → lv_has ls 6 [(4, .int (nI j)), (3, .int bs), (2, .int (nI k)), (1, .int (nI n)), (0, .ref h0)] → W p l e ({ frames := 0, cells := 0, slots := 0, locals := 0 } : Room) s m ([.ref h0] : List Value).toArray below meth c H locs 0 0 Q (F0 m 87 ls []) := by
                    intro fu
                    induction fu with
                    | zero =>
                      intro j bs g3 H locs ls hj1 hj2 hbs hg3 hv1 hv2 hm
                      exact absurd hm (by omega)
                    | succ fu ih_loop3 =>
                      intro j bs g3 H locs ls hj1 hj2 hbs hg3 hv1 hv2 hm hP hD hS hl
                      refine lv_iload hx hb dX12_worksAgain_87 (lv_at hl 0 rfl) ?_
                      refine lv_iload_n hx hb dX12_worksAgain_89 rfl (lv_at hl 3 rfl) ?_
                      refine lv_icmp_ge (tgt := 158) hx hb dX12_worksAgain_90 (by decide) (fun c_17 => ?_) (fun c_17 => ?_)
                      · have hjn : j = n := by have h := (nI_leI (by omega) (by omega)).mp c_17; omega
                        have hgg : bs = nI (gg k n) := by rw [hbs]; exact if h : n = 1 then (by rw [if_pos h, h, gg_one (by omega)]; rfl) else (by rw [if_neg h, gg_step hk1 (by omega), hjn])
                        have hgv : g3 (11 * n + k) = gx k n := by unfold gx; exact if h : n = 1 then (by rw [if_pos (Or.inr h)]; exact hv1 (by omega)) else (by rw [if_neg (by omega), hv2 (by omega), hjn]; rfl)
                        refine lv_aload_n hx hb dX12_worksAgain_158 rfl (lv_at hl 4 rfl) ?_
                        refine va_get (D := D) (ci := 11) (v := .ref (ma 83)) (C := RX12) (T := TX12) (N := 85) hx hb hts inX12 hown hK hP 0 rfl rfl 83 (by decide) fl182 (fun _ h9 => h9) rfl dX12_worksAgain_159 ?_
                        refine lv_bipush (v := 11) hx hb dX12_worksAgain_162 (by decide) ?_
                        refine lv_iload_n hx hb dX12_worksAgain_164 rfl (lv_at hl 3 rfl) ?_
                        refine lv_imul hx hb dX12_worksAgain_165 ?_
                        refine lv_topi (fun i_18 ei_18 => ?_)
                        obtain rfl : i_18 = (nI (11 * n)) := ei_18.trans (pk_mul 11 n)
                        refine lv_iload_n hx hb dX12_worksAgain_166 rfl (lv_at hl 2 rfl) ?_
                        refine lv_iadd hx hb dX12_worksAgain_167 ?_
                        refine lv_topi (fun i_19 ei_19 => ?_)
                        obtain rfl : i_19 = (nI ((11 * n) + k)) := ei_19.trans (nI_add (11 * n) k)
                        refine lv_iload_n hx hb dX12_worksAgain_168 rfl (lv_at hl 1 rfl) ?_
                        refine va_iast hx hb hK hP hD hS 1 2 rfl rfl (vp_in_nI (n := ((11 * n) + k)) (by omega) (by decide)) dX12_worksAgain_169 (fun H locs hP hD hS => ?_)
                        have hP : va_P D vwCl [(h0, .inr (11, mF ma (upd mi 82 1) mj)), ((ma 83), .inl (y 2, 1111, .inl (upd f2 (Int32.toNatClampNeg (nI ((11 * n) + k))) bs))), ((ma 84), .inl (y 2, 1111, .inl g3))] H := hP
                        have hD : va_D A [(h0, .inr (11, mF ma (upd mi 82 1) mj)), ((ma 83), .inl (y 2, 1111, .inl (upd f2 (Int32.toNatClampNeg (nI ((11 * n) + k))) bs))), ((ma 84), .inl (y 2, 1111, .inl g3))] := hD
                        obtain ⟨f_20, ef_20⟩ : ∃ z : Nat → Int32, z = (upd f2 (Int32.toNatClampNeg (nI ((11 * n) + k))) bs) := ⟨_, rfl⟩
                        rw [← ef_20] at hP hD
                        rw [nI_clamp (n := ((11 * n) + k)) (by omega)] at ef_20
                        refine lv_iinc (v := (nI (k + 1))) (lv' := [(2, .int (nI (k + 1))), (4, .int (nI j)), (3, .int bs), (1, .int (nI n)), (0, .ref h0)]) hx hb dX12_worksAgain_170 hl (k := 2) rfl (nI_1 k) (by decide) rfl (fun ls hl => ?_)
                        refine lv_goto (tgt := 53) hx hb dX12_worksAgain_173 (by decide) ?_
                        exact ih_loop2 (k + 1) f_20 g3 H locs ls (by omega) (by omega) (by intro a b h1 h2 h3 h4; rw [ef_20, pk_un (by omega)]; exact hf2 a b h1 h2 h3 h4) (by intro a b h1 h2 h3 h4; rw [hg3 _ (by omega)]; exact hg2 a b h1 h2 h3 h4) (by intro b h1 h2; rw [ef_20]; exact if h : b = k then (by rw [h, pk_us]; exact hgg) else (by rw [pk_un (by omega)]; exact hp b h1 (by omega))) (by intro b h1 h2; exact if h : b = k then (by rw [h]; exact hgv) else (by rw [hg3 _ (by omega)]; exact hq b h1 (by omega))) (by (try dsimp only); (try simp only [lg_cmp_lt, lg_cmp_le, lg_cmp_gt, lg_cmp_ge] at *); (try simp only [x_lt, x_le, Int32.reduceToInt, x_ltL, x_leL, Int64.reduceToInt] at *); omega) (x_subP hP [0, 1, 2] rfl) (x_subD hD [0, 1, 2] rfl (by decide)) hS (lv_sub hl [0, 3, 4] rfl)
                      · have hjn : j < n := by have h := mt (nI_leI (by omega) (by omega)).mpr c_17; omega
                        refine lv_iload hx hb dX12_worksAgain_93 (lv_at hl 0 rfl) ?_
                        refine lv_aload_n hx hb dX12_worksAgain_95 rfl (lv_at hl 4 rfl) ?_
                        refine va_get (D := D) (ci := 11) (v := .ref (ma 83)) (C := RX12) (T := TX12) (N := 85) hx hb hts inX12 hown hK hP 0 rfl rfl 83 (by decide) fl182 (fun _ h9 => h9) rfl dX12_worksAgain_96 ?_
                        refine lv_bipush (v := 11) hx hb dX12_worksAgain_99 (by decide) ?_
                        refine lv_iload hx hb dX12_worksAgain_101 (lv_at hl 0 rfl) ?_
                        refine lv_imul hx hb dX12_worksAgain_103 ?_
                        refine lv_topi (fun i_21 ei_21 => ?_)
                        obtain rfl : i_21 = (nI (11 * j)) := ei_21.trans (pk_mul 11 j)
                        refine lv_iload_n hx hb dX12_worksAgain_104 rfl (lv_at hl 2 rfl) ?_
                        refine lv_iadd hx hb dX12_worksAgain_105 ?_
                        refine lv_topi (fun i_22 ei_22 => ?_)
                        obtain rfl : i_22 = (nI ((11 * j) + k)) := ei_22.trans (nI_add (11 * j) k)
                        refine va_iald hx hb hK hP 1 2 rfl rfl (vp_in_nI (n := ((11 * j) + k)) (by omega) (by decide)) dX12_worksAgain_106 ?_
                        refine lv_topi (fun i_23 ei_23 => ?_)
                        rw [nI_clamp (n := ((11 * j) + k)) (by omega)] at ei_23
                        refine lv_iadd hx hb dX12_worksAgain_107 ?_
                        refine lv_topi (fun i_24 ei_24 => ?_)
                        refine lv_aload_n hx hb dX12_worksAgain_108 rfl (lv_at hl 4 rfl) ?_
                        refine va_get (D := D) (ci := 11) (v := .ref (ma 83)) (C := RX12) (T := TX12) (N := 85) hx hb hts inX12 hown hK hP 0 rfl rfl 83 (by decide) fl182 (fun _ h9 => h9) rfl dX12_worksAgain_109 ?_
                        refine lv_bipush (v := 11) hx hb dX12_worksAgain_112 (by decide) ?_
                        refine lv_iload_n hx hb dX12_worksAgain_114 rfl (lv_at hl 3 rfl) ?_
                        refine lv_iload hx hb dX12_worksAgain_115 (lv_at hl 0 rfl) ?_
                        refine lv_isub hx hb dX12_worksAgain_117 ?_
                        refine lv_topi (fun i_25 ei_25 => ?_)
                        obtain rfl : i_25 = (nI (n - j)) := ei_25.trans (pk_sub (a := n) (b := j) (by omega))
                        refine lv_imul hx hb dX12_worksAgain_118 ?_
                        refine lv_topi (fun i_26 ei_26 => ?_)
                        obtain rfl : i_26 = (nI (11 * (n - j))) := ei_26.trans (pk_mul 11 (n - j))
                        refine lv_iload_n hx hb dX12_worksAgain_119 rfl (lv_at hl 2 rfl) ?_
                        refine lv_iadd hx hb dX12_worksAgain_120 ?_
                        refine lv_topi (fun i_27 ei_27 => ?_)
                        obtain rfl : i_27 = (nI ((11 * (n - j)) + k)) := ei_27.trans (nI_add (11 * (n - j)) k)
                        refine lv_iconst (v := 1) hx hb dX12_worksAgain_121 (by decide) ?_
                        refine lv_isub hx hb dX12_worksAgain_122 ?_
                        refine lv_topi (fun i_28 ei_28 => ?_)
                        obtain rfl : i_28 = (nI (((11 * (n - j)) + k) - 1)) := ei_28.trans (pk_sub (a := ((11 * (n - j)) + k)) (b := 1) (by omega))
                        refine va_iald hx hb hK hP 1 2 rfl rfl (vp_in_nI (n := (((11 * (n - j)) + k) - 1)) (by omega) (by decide)) dX12_worksAgain_123 ?_
                        refine lv_topi (fun i_29 ei_29 => ?_)
                        rw [nI_clamp (n := (((11 * (n - j)) + k) - 1)) (by omega)] at ei_29
                        refine lv_iadd hx hb dX12_worksAgain_124 ?_
                        refine lv_topi (fun i_30 ei_30 => ?_)
                        refine lv_istore (lv' := [(5, .int i_30), (4, .int (nI j)), (3, .int bs), (2, .int (nI k)), (1, .int (nI n)), (0, .ref h0)]) hx hb dX12_worksAgain_125 hl (by decide) rfl (fun ls hl => ?_)
                        have hc : i_30 = nI (gc k n j) := by rw [ei_30, ei_24, ei_23, ei_29, show 11 * (n - j) + k - 1 = 11 * (n - j) + (k - 1) by omega, hf2 j k hj1 hjn (by omega) (by omega), hf2 (n - j) (k - 1) (by omega) (by omega) (by omega) (by omega), nI_add, nI_add]; rfl
                        have hlt : gc k n j < 20000 := gc_lt hk1 (by omega) (by omega) hjn
                        have htp := (gs_top (c := gc k n) (j - 1)).1
                        have e1 : gs (gc k n) j = if gc k n j < (gs (gc k n) (j - 1)).1 then (gc k n j, j) else gs (gc k n) (j - 1) := by obtain ⟨q, rfl⟩ : ∃ q, j = q + 1 := ⟨j - 1, by omega⟩; exact gs_step _ q
                        rw [if_neg (by omega)] at hbs
                        refine lv_iload hx hb dX12_worksAgain_127 (lv_at hl 0 rfl) ?_
                        refine lv_iload_n hx hb dX12_worksAgain_129 rfl (lv_at hl 2 rfl) ?_
                        refine lv_icmp_lt (tgt := 136) hx hb dX12_worksAgain_130 (by decide) (fun c_31 => ?_) (fun c_31 => ?_)
                        · have hye : gc k n j < (gs (gc k n) (j - 1)).1 := by rw [hc, hbs] at c_31; exact (nI_ltI (by omega) (by omega)).mp c_31
                          have e2 : gs (gc k n) (j + 1 - 1) = (gc k n j, j) := by rw [Nat.add_sub_cancel, e1, if_pos hye]
                          have hbn := hc
                          refine lv_iload hx hb dX12_worksAgain_136 (lv_at hl 0 rfl) ?_
                          refine lv_istore_n (lv' := [(3, .int i_30), (5, .int i_30), (4, .int (nI j)), (2, .int (nI k)), (1, .int (nI n)), (0, .ref h0)]) hx hb dX12_worksAgain_138 rfl hl (by decide) rfl (fun ls hl => ?_)
                          refine lv_aload_n hx hb dX12_worksAgain_139 rfl (lv_at hl 5 rfl) ?_
                          refine va_get (D := D) (ci := 11) (v := .ref (ma 84)) (C := RX12) (T := TX12) (N := 85) hx hb hts inX12 hown hK hP 0 rfl rfl 84 (by decide) fl185 (fun _ h9 => h9) rfl dX12_worksAgain_140 ?_
                          refine lv_bipush (v := 11) hx hb dX12_worksAgain_143 (by decide) ?_
                          refine lv_iload_n hx hb dX12_worksAgain_145 rfl (lv_at hl 4 rfl) ?_
                          refine lv_imul hx hb dX12_worksAgain_146 ?_
                          refine lv_topi (fun i_32 ei_32 => ?_)
                          obtain rfl : i_32 = (nI (11 * n)) := ei_32.trans (pk_mul 11 n)
                          refine lv_iload_n hx hb dX12_worksAgain_147 rfl (lv_at hl 3 rfl) ?_
                          refine lv_iadd hx hb dX12_worksAgain_148 ?_
                          refine lv_topi (fun i_33 ei_33 => ?_)
                          obtain rfl : i_33 = (nI ((11 * n) + k)) := ei_33.trans (nI_add (11 * n) k)
                          refine lv_iload hx hb dX12_worksAgain_149 (lv_at hl 2 rfl) ?_
                          refine va_iast hx hb hK hP hD hS 2 2 rfl rfl (vp_in_nI (n := ((11 * n) + k)) (by omega) (by decide)) dX12_worksAgain_151 (fun H locs hP hD hS => ?_)
                          have hP : va_P D vwCl [(h0, .inr (11, mF ma (upd mi 82 1) mj)), ((ma 83), .inl (y 2, 1111, .inl f2)), ((ma 84), .inl (y 2, 1111, .inl (upd g3 (Int32.toNatClampNeg (nI ((11 * n) + k))) (nI j))))] H := hP
                          have hD : va_D A [(h0, .inr (11, mF ma (upd mi 82 1) mj)), ((ma 83), .inl (y 2, 1111, .inl f2)), ((ma 84), .inl (y 2, 1111, .inl (upd g3 (Int32.toNatClampNeg (nI ((11 * n) + k))) (nI j))))] := hD
                          obtain ⟨f_34, ef_34⟩ : ∃ z : Nat → Int32, z = (upd g3 (Int32.toNatClampNeg (nI ((11 * n) + k))) (nI j)) := ⟨_, rfl⟩
                          rw [← ef_34] at hP hD
                          rw [nI_clamp (n := ((11 * n) + k)) (by omega)] at ef_34
                          refine lv_iinc (v := (nI (j + 1))) (lv' := [(4, .int (nI (j + 1))), (3, .int i_30), (5, .int i_30), (2, .int (nI k)), (1, .int (nI n)), (0, .ref h0)]) hx hb dX12_worksAgain_152 hl (k := 2) rfl (nI_1 j) (by decide) rfl (fun ls hl => ?_)
                          refine lv_goto (tgt := 87) hx hb dX12_worksAgain_155 (by decide) ?_
                          exact ih_loop3 (j + 1) i_30 f_34 H locs ls (by omega) (by omega) (by rw [if_neg (by omega), e2]; exact hbn) (by intro x h; rw [ef_34, pk_un h]; exact hg3 x h) (fun h => absurd h (by omega)) (by intro _; rw [e2, ef_34, pk_us]) (by (try dsimp only); (try simp only [lg_cmp_lt, lg_cmp_le, lg_cmp_gt, lg_cmp_ge] at *); (try simp only [x_lt, x_le, Int32.reduceToInt, x_ltL, x_leL, Int64.reduceToInt] at *); omega) (x_subP hP [0, 1, 2] rfl) (x_subD hD [0, 1, 2] rfl (by decide)) hS (lv_sub hl [0, 1, 3, 4, 5] rfl)
                        · have hno : ¬ gc k n j < (gs (gc k n) (j - 1)).1 := by rw [hc, hbs] at c_31; exact mt (nI_ltI (by omega) (by omega)).mpr c_31
                          have e2 : gs (gc k n) (j + 1 - 1) = gs (gc k n) (j - 1) := by rw [Nat.add_sub_cancel, e1, if_neg hno]
                          have hbn := hbs
                          refine lv_goto (tgt := 152) hx hb dX12_worksAgain_133 (by decide) ?_
                          refine lv_iinc (v := (nI (j + 1))) (lv' := [(4, .int (nI (j + 1))), (5, .int i_30), (3, .int bs), (2, .int (nI k)), (1, .int (nI n)), (0, .ref h0)]) hx hb dX12_worksAgain_152 hl (k := 1) rfl (nI_1 j) (by decide) rfl (fun ls hl => ?_)
                          refine lv_goto (tgt := 87) hx hb dX12_worksAgain_155 (by decide) ?_
                          exact ih_loop3 (j + 1) bs g3 H locs ls (by omega) (by omega) (by rw [if_neg (by omega), e2]; exact hbn) hg3 (fun h => absurd h (by omega)) (by intro _; rw [e2]; exact hv2 ((Nat.lt_or_ge 1 j).elim id (fun q => absurd (show gc k n j < (gs (gc k n) (j - 1)).1 by rw [show j - 1 = 0 by omega]; show gc k n j < 1000000; omega) hno))) (by (try dsimp only); (try simp only [lg_cmp_lt, lg_cmp_le, lg_cmp_gt, lg_cmp_ge] at *); (try simp only [x_lt, x_le, Int32.reduceToInt, x_ltL, x_leL, Int64.reduceToInt] at *); omega) (x_subP hP [0, 1, 2] rfl) (x_subD hD [0, 1, 2] rfl (by decide)) hS (lv_sub hl [0, 2, 3, 4, 5] rfl)
                  exact loop3 (n + 1) 1 1000000 f_16 H locs ls (Nat.le_refl 1) (by omega) (by first | (rw [if_pos hne]) | (rw [if_neg hne]; rfl)) (by intro x h; rw [ef_16, pk_un h]) (by intro _; rw [ef_16, pk_us]) (fun h => absurd h (by omega)) (by (try dsimp only); (try simp only [lg_cmp_lt, lg_cmp_le, lg_cmp_gt, lg_cmp_ge] at *); (try simp only [x_lt, x_le, Int32.reduceToInt, x_ltL, x_leL, Int64.reduceToInt] at *); omega) (x_subP hP [0, 1, 2] rfl) (x_subD hD [0, 1, 2] rfl (by decide)) hS (lv_sub hl [0, 1, 2, 3, 4] rfl)
                · have hne : n = 1 := by have h := c_13; rw [x_eq, nI_toInt (by omega)] at h; simp only [Int32.reduceToInt] at h; omega
                  refine lv_iconst (v := 0) hx hb dX12_worksAgain_64 (by decide) ?_
                  refine lv_goto (tgt := 71) hx hb dX12_worksAgain_65 (by decide) ?_
                  refine lv_istore_n (lv' := [(3, .int 0), (2, .int (nI k)), (1, .int (nI n)), (0, .ref h0)]) hx hb dX12_worksAgain_71 rfl hl (by decide) rfl (fun ls hl => ?_)
                  refine lv_aload_n hx hb dX12_worksAgain_72 rfl (lv_at hl 3 rfl) ?_
                  refine va_get (D := D) (ci := 11) (v := .ref (ma 84)) (C := RX12) (T := TX12) (N := 85) hx hb hts inX12 hown hK hP 0 rfl rfl 84 (by decide) fl185 (fun _ h9 => h9) rfl dX12_worksAgain_73 ?_
                  refine lv_bipush (v := 11) hx hb dX12_worksAgain_76 (by decide) ?_
                  refine lv_iload_n hx hb dX12_worksAgain_78 rfl (lv_at hl 2 rfl) ?_
                  refine lv_imul hx hb dX12_worksAgain_79 ?_
                  refine lv_topi (fun i_35 ei_35 => ?_)
                  obtain rfl : i_35 = (nI (11 * n)) := ei_35.trans (pk_mul 11 n)
                  refine lv_iload_n hx hb dX12_worksAgain_80 rfl (lv_at hl 1 rfl) ?_
                  refine lv_iadd hx hb dX12_worksAgain_81 ?_
                  refine lv_topi (fun i_36 ei_36 => ?_)
                  obtain rfl : i_36 = (nI ((11 * n) + k)) := ei_36.trans (nI_add (11 * n) k)
                  refine lv_iconst (v := (-1)) hx hb dX12_worksAgain_82 (by decide) ?_
                  refine va_iast hx hb hK hP hD hS 2 2 rfl rfl (vp_in_nI (n := ((11 * n) + k)) (by omega) (by decide)) dX12_worksAgain_83 (fun H locs hP hD hS => ?_)
                  have hP : va_P D vwCl [(h0, .inr (11, mF ma (upd mi 82 1) mj)), ((ma 83), .inl (y 2, 1111, .inl f2)), ((ma 84), .inl (y 2, 1111, .inl (upd g2 (Int32.toNatClampNeg (nI ((11 * n) + k))) (-1))))] H := hP
                  have hD : va_D A [(h0, .inr (11, mF ma (upd mi 82 1) mj)), ((ma 83), .inl (y 2, 1111, .inl f2)), ((ma 84), .inl (y 2, 1111, .inl (upd g2 (Int32.toNatClampNeg (nI ((11 * n) + k))) (-1))))] := hD
                  obtain ⟨f_37, ef_37⟩ : ∃ z : Nat → Int32, z = (upd g2 (Int32.toNatClampNeg (nI ((11 * n) + k))) (-1)) := ⟨_, rfl⟩
                  rw [← ef_37] at hP hD
                  rw [nI_clamp (n := ((11 * n) + k)) (by omega)] at ef_37
                  refine lv_iconst (v := 1) hx hb dX12_worksAgain_84 (by decide) ?_
                  refine lv_istore (lv' := [(4, .int 1), (3, .int 0), (2, .int (nI k)), (1, .int (nI n)), (0, .ref h0)]) hx hb dX12_worksAgain_85 hl (by decide) rfl (fun ls hl => ?_)
                  have loop3 : ∀ (fu : Nat) (j : Nat) (bs : Int32) (g3 : (Nat → Int32)) (H : Heap) (locs : List Loc) (ls : Array Slot), (1 ≤ j) → (j ≤ n) → (bs = if n = 1 then 0 else nI (gs (gc k n) (j - 1)).1) → (∀ x : Nat, x ≠ 11 * n + k → g3 x = g2 x) → (j = 1 → g3 (11 * n + k) = -1) → (2 ≤ j → g3 (11 * n + k) = nI (gs (gc k n) (j - 1)).2) → ((n : Int) - j < (fu : Int)) → va_P D vwCl [(h0, .inr (11, mF ma (upd mi 82 1) mj)), ((ma 83), .inl (y 2, 1111, .inl f2)), ((ma 84), .inl (y 2, 1111, .inl g3))] H → va_D A [(h0, .inr (11, mF ma (upd mi 82 1) mj)), ((ma 83), .inl (y 2, 1111, .inl f2)), ((ma 84), .inl (y 2, 1111, .inl g3))] → va_S A s.heap H locs → lv_has ls 6 [(4, .int (nI j)), (3, .int bs), (2, .int (nI k)), (1, .int (nI n)), (0, .ref h0)] → W p l e ({ frames := 0, cells := 0, slots := 0, locals := 0 } : Room) s m ([.ref h0] : List Value).toArray below meth c H locs 0 0 Q (F0 m 87 ls []) := by
                    intro fu
                    induction fu with
                    | zero =>
                      intro j bs g3 H locs ls hj1 hj2 hbs hg3 hv1 hv2 hm
                      exact absurd hm (by omega)
                    | succ fu ih_loop3 =>
                      intro j bs g3 H locs ls hj1 hj2 hbs hg3 hv1 hv2 hm hP hD hS hl
                      refine lv_iload hx hb dX12_worksAgain_87 (lv_at hl 0 rfl) ?_
                      refine lv_iload_n hx hb dX12_worksAgain_89 rfl (lv_at hl 3 rfl) ?_
                      refine lv_icmp_ge (tgt := 158) hx hb dX12_worksAgain_90 (by decide) (fun c_38 => ?_) (fun c_38 => ?_)
                      · have hjn : j = n := by have h := (nI_leI (by omega) (by omega)).mp c_38; omega
                        have hgg : bs = nI (gg k n) := by rw [hbs]; exact if h : n = 1 then (by rw [if_pos h, h, gg_one (by omega)]; rfl) else (by rw [if_neg h, gg_step hk1 (by omega), hjn])
                        have hgv : g3 (11 * n + k) = gx k n := by unfold gx; exact if h : n = 1 then (by rw [if_pos (Or.inr h)]; exact hv1 (by omega)) else (by rw [if_neg (by omega), hv2 (by omega), hjn]; rfl)
                        refine lv_aload_n hx hb dX12_worksAgain_158 rfl (lv_at hl 4 rfl) ?_
                        refine va_get (D := D) (ci := 11) (v := .ref (ma 83)) (C := RX12) (T := TX12) (N := 85) hx hb hts inX12 hown hK hP 0 rfl rfl 83 (by decide) fl182 (fun _ h9 => h9) rfl dX12_worksAgain_159 ?_
                        refine lv_bipush (v := 11) hx hb dX12_worksAgain_162 (by decide) ?_
                        refine lv_iload_n hx hb dX12_worksAgain_164 rfl (lv_at hl 3 rfl) ?_
                        refine lv_imul hx hb dX12_worksAgain_165 ?_
                        refine lv_topi (fun i_39 ei_39 => ?_)
                        obtain rfl : i_39 = (nI (11 * n)) := ei_39.trans (pk_mul 11 n)
                        refine lv_iload_n hx hb dX12_worksAgain_166 rfl (lv_at hl 2 rfl) ?_
                        refine lv_iadd hx hb dX12_worksAgain_167 ?_
                        refine lv_topi (fun i_40 ei_40 => ?_)
                        obtain rfl : i_40 = (nI ((11 * n) + k)) := ei_40.trans (nI_add (11 * n) k)
                        refine lv_iload_n hx hb dX12_worksAgain_168 rfl (lv_at hl 1 rfl) ?_
                        refine va_iast hx hb hK hP hD hS 1 2 rfl rfl (vp_in_nI (n := ((11 * n) + k)) (by omega) (by decide)) dX12_worksAgain_169 (fun H locs hP hD hS => ?_)
                        have hP : va_P D vwCl [(h0, .inr (11, mF ma (upd mi 82 1) mj)), ((ma 83), .inl (y 2, 1111, .inl (upd f2 (Int32.toNatClampNeg (nI ((11 * n) + k))) bs))), ((ma 84), .inl (y 2, 1111, .inl g3))] H := hP
                        have hD : va_D A [(h0, .inr (11, mF ma (upd mi 82 1) mj)), ((ma 83), .inl (y 2, 1111, .inl (upd f2 (Int32.toNatClampNeg (nI ((11 * n) + k))) bs))), ((ma 84), .inl (y 2, 1111, .inl g3))] := hD
                        obtain ⟨f_41, ef_41⟩ : ∃ z : Nat → Int32, z = (upd f2 (Int32.toNatClampNeg (nI ((11 * n) + k))) bs) := ⟨_, rfl⟩
                        rw [← ef_41] at hP hD
                        rw [nI_clamp (n := ((11 * n) + k)) (by omega)] at ef_41
                        refine lv_iinc (v := (nI (k + 1))) (lv' := [(2, .int (nI (k + 1))), (4, .int (nI j)), (3, .int bs), (1, .int (nI n)), (0, .ref h0)]) hx hb dX12_worksAgain_170 hl (k := 2) rfl (nI_1 k) (by decide) rfl (fun ls hl => ?_)
                        refine lv_goto (tgt := 53) hx hb dX12_worksAgain_173 (by decide) ?_
                        exact ih_loop2 (k + 1) f_41 g3 H locs ls (by omega) (by omega) (by intro a b h1 h2 h3 h4; rw [ef_41, pk_un (by omega)]; exact hf2 a b h1 h2 h3 h4) (by intro a b h1 h2 h3 h4; rw [hg3 _ (by omega)]; exact hg2 a b h1 h2 h3 h4) (by intro b h1 h2; rw [ef_41]; exact if h : b = k then (by rw [h, pk_us]; exact hgg) else (by rw [pk_un (by omega)]; exact hp b h1 (by omega))) (by intro b h1 h2; exact if h : b = k then (by rw [h]; exact hgv) else (by rw [hg3 _ (by omega)]; exact hq b h1 (by omega))) (by (try dsimp only); (try simp only [lg_cmp_lt, lg_cmp_le, lg_cmp_gt, lg_cmp_ge] at *); (try simp only [x_lt, x_le, Int32.reduceToInt, x_ltL, x_leL, Int64.reduceToInt] at *); omega) (x_subP hP [0, 1, 2] rfl) (x_subD hD [0, 1, 2] rfl (by decide)) hS (lv_sub hl [0, 3, 4] rfl)
                      · have hjn : j < n := by have h := mt (nI_leI (by omega) (by omega)).mpr c_38; omega
                        refine lv_iload hx hb dX12_worksAgain_93 (lv_at hl 0 rfl) ?_
                        refine lv_aload_n hx hb dX12_worksAgain_95 rfl (lv_at hl 4 rfl) ?_
                        refine va_get (D := D) (ci := 11) (v := .ref (ma 83)) (C := RX12) (T := TX12) (N := 85) hx hb hts inX12 hown hK hP 0 rfl rfl 83 (by decide) fl182 (fun _ h9 => h9) rfl dX12_worksAgain_96 ?_
                        refine lv_bipush (v := 11) hx hb dX12_worksAgain_99 (by decide) ?_
                        refine lv_iload hx hb dX12_worksAgain_101 (lv_at hl 0 rfl) ?_
                        refine lv_imul hx hb dX12_worksAgain_103 ?_
                        refine lv_topi (fun i_42 ei_42 => ?_)
                        obtain rfl : i_42 = (nI (11 * j)) := ei_42.trans (pk_mul 11 j)
                        refine lv_iload_n hx hb dX12_worksAgain_104 rfl (lv_at hl 2 rfl) ?_
                        refine lv_iadd hx hb dX12_worksAgain_105 ?_
                        refine lv_topi (fun i_43 ei_43 => ?_)
                        obtain rfl : i_43 = (nI ((11 * j) + k)) := ei_43.trans (nI_add (11 * j) k)
                        refine va_iald hx hb hK hP 1 2 rfl rfl (vp_in_nI (n := ((11 * j) + k)) (by omega) (by decide)) dX12_worksAgain_106 ?_
                        refine lv_topi (fun i_44 ei_44 => ?_)
                        rw [nI_clamp (n := ((11 * j) + k)) (by omega)] at ei_44
                        refine lv_iadd hx hb dX12_worksAgain_107 ?_
                        refine lv_topi (fun i_45 ei_45 => ?_)
                        refine lv_aload_n hx hb dX12_worksAgain_108 rfl (lv_at hl 4 rfl) ?_
                        refine va_get (D := D) (ci := 11) (v := .ref (ma 83)) (C := RX12) (T := TX12) (N := 85) hx hb hts inX12 hown hK hP 0 rfl rfl 83 (by decide) fl182 (fun _ h9 => h9) rfl dX12_worksAgain_109 ?_
                        refine lv_bipush (v := 11) hx hb dX12_worksAgain_112 (by decide) ?_
                        refine lv_iload_n hx hb dX12_worksAgain_114 rfl (lv_at hl 3 rfl) ?_
                        refine lv_iload hx hb dX12_worksAgain_115 (lv_at hl 0 rfl) ?_
                        refine lv_isub hx hb dX12_worksAgain_117 ?_
                        refine lv_topi (fun i_46 ei_46 => ?_)
                        obtain rfl : i_46 = (nI (n - j)) := ei_46.trans (pk_sub (a := n) (b := j) (by omega))
                        refine lv_imul hx hb dX12_worksAgain_118 ?_
                        refine lv_topi (fun i_47 ei_47 => ?_)
                        obtain rfl : i_47 = (nI (11 * (n - j))) := ei_47.trans (pk_mul 11 (n - j))
                        refine lv_iload_n hx hb dX12_worksAgain_119 rfl (lv_at hl 2 rfl) ?_
                        refine lv_iadd hx hb dX12_worksAgain_120 ?_
                        refine lv_topi (fun i_48 ei_48 => ?_)
                        obtain rfl : i_48 = (nI ((11 * (n - j)) + k)) := ei_48.trans (nI_add (11 * (n - j)) k)
                        refine lv_iconst (v := 1) hx hb dX12_worksAgain_121 (by decide) ?_
                        refine lv_isub hx hb dX12_worksAgain_122 ?_
                        refine lv_topi (fun i_49 ei_49 => ?_)
                        obtain rfl : i_49 = (nI (((11 * (n - j)) + k) - 1)) := ei_49.trans (pk_sub (a := ((11 * (n - j)) + k)) (b := 1) (by omega))
                        refine va_iald hx hb hK hP 1 2 rfl rfl (vp_in_nI (n := (((11 * (n - j)) + k) - 1)) (by omega) (by decide)) dX12_worksAgain_123 ?_
                        refine lv_topi (fun i_50 ei_50 => ?_)
                        rw [nI_clamp (n := (((11 * (n - j)) + k) - 1)) (by omega)] at ei_50
                        refine lv_iadd hx hb dX12_worksAgain_124 ?_
                        refine lv_topi (fun i_51 ei_51 => ?_)
                        refine lv_istore (lv' := [(5, .int i_51), (4, .int (nI j)), (3, .int bs), (2, .int (nI k)), (1, .int (nI n)), (0, .ref h0)]) hx hb dX12_worksAgain_125 hl (by decide) rfl (fun ls hl => ?_)
                        have hc : i_51 = nI (gc k n j) := by rw [ei_51, ei_45, ei_44, ei_50, show 11 * (n - j) + k - 1 = 11 * (n - j) + (k - 1) by omega, hf2 j k hj1 hjn (by omega) (by omega), hf2 (n - j) (k - 1) (by omega) (by omega) (by omega) (by omega), nI_add, nI_add]; rfl
                        have hlt : gc k n j < 20000 := gc_lt hk1 (by omega) (by omega) hjn
                        have htp := (gs_top (c := gc k n) (j - 1)).1
                        have e1 : gs (gc k n) j = if gc k n j < (gs (gc k n) (j - 1)).1 then (gc k n j, j) else gs (gc k n) (j - 1) := by obtain ⟨q, rfl⟩ : ∃ q, j = q + 1 := ⟨j - 1, by omega⟩; exact gs_step _ q
                        rw [if_neg (by omega)] at hbs
                        refine lv_iload hx hb dX12_worksAgain_127 (lv_at hl 0 rfl) ?_
                        refine lv_iload_n hx hb dX12_worksAgain_129 rfl (lv_at hl 2 rfl) ?_
                        refine lv_icmp_lt (tgt := 136) hx hb dX12_worksAgain_130 (by decide) (fun c_52 => ?_) (fun c_52 => ?_)
                        · have hye : gc k n j < (gs (gc k n) (j - 1)).1 := by rw [hc, hbs] at c_52; exact (nI_ltI (by omega) (by omega)).mp c_52
                          have e2 : gs (gc k n) (j + 1 - 1) = (gc k n j, j) := by rw [Nat.add_sub_cancel, e1, if_pos hye]
                          have hbn := hc
                          refine lv_iload hx hb dX12_worksAgain_136 (lv_at hl 0 rfl) ?_
                          refine lv_istore_n (lv' := [(3, .int i_51), (5, .int i_51), (4, .int (nI j)), (2, .int (nI k)), (1, .int (nI n)), (0, .ref h0)]) hx hb dX12_worksAgain_138 rfl hl (by decide) rfl (fun ls hl => ?_)
                          refine lv_aload_n hx hb dX12_worksAgain_139 rfl (lv_at hl 5 rfl) ?_
                          refine va_get (D := D) (ci := 11) (v := .ref (ma 84)) (C := RX12) (T := TX12) (N := 85) hx hb hts inX12 hown hK hP 0 rfl rfl 84 (by decide) fl185 (fun _ h9 => h9) rfl dX12_worksAgain_140 ?_
                          refine lv_bipush (v := 11) hx hb dX12_worksAgain_143 (by decide) ?_
                          refine lv_iload_n hx hb dX12_worksAgain_145 rfl (lv_at hl 4 rfl) ?_
                          refine lv_imul hx hb dX12_worksAgain_146 ?_
                          refine lv_topi (fun i_53 ei_53 => ?_)
                          obtain rfl : i_53 = (nI (11 * n)) := ei_53.trans (pk_mul 11 n)
                          refine lv_iload_n hx hb dX12_worksAgain_147 rfl (lv_at hl 3 rfl) ?_
                          refine lv_iadd hx hb dX12_worksAgain_148 ?_
                          refine lv_topi (fun i_54 ei_54 => ?_)
                          obtain rfl : i_54 = (nI ((11 * n) + k)) := ei_54.trans (nI_add (11 * n) k)
                          refine lv_iload hx hb dX12_worksAgain_149 (lv_at hl 2 rfl) ?_
                          refine va_iast hx hb hK hP hD hS 2 2 rfl rfl (vp_in_nI (n := ((11 * n) + k)) (by omega) (by decide)) dX12_worksAgain_151 (fun H locs hP hD hS => ?_)
                          have hP : va_P D vwCl [(h0, .inr (11, mF ma (upd mi 82 1) mj)), ((ma 83), .inl (y 2, 1111, .inl f2)), ((ma 84), .inl (y 2, 1111, .inl (upd g3 (Int32.toNatClampNeg (nI ((11 * n) + k))) (nI j))))] H := hP
                          have hD : va_D A [(h0, .inr (11, mF ma (upd mi 82 1) mj)), ((ma 83), .inl (y 2, 1111, .inl f2)), ((ma 84), .inl (y 2, 1111, .inl (upd g3 (Int32.toNatClampNeg (nI ((11 * n) + k))) (nI j))))] := hD
                          obtain ⟨f_55, ef_55⟩ : ∃ z : Nat → Int32, z = (upd g3 (Int32.toNatClampNeg (nI ((11 * n) + k))) (nI j)) := ⟨_, rfl⟩
                          rw [← ef_55] at hP hD
                          rw [nI_clamp (n := ((11 * n) + k)) (by omega)] at ef_55
                          refine lv_iinc (v := (nI (j + 1))) (lv' := [(4, .int (nI (j + 1))), (3, .int i_51), (5, .int i_51), (2, .int (nI k)), (1, .int (nI n)), (0, .ref h0)]) hx hb dX12_worksAgain_152 hl (k := 2) rfl (nI_1 j) (by decide) rfl (fun ls hl => ?_)
                          refine lv_goto (tgt := 87) hx hb dX12_worksAgain_155 (by decide) ?_
                          exact ih_loop3 (j + 1) i_51 f_55 H locs ls (by omega) (by omega) (by rw [if_neg (by omega), e2]; exact hbn) (by intro x h; rw [ef_55, pk_un h]; exact hg3 x h) (fun h => absurd h (by omega)) (by intro _; rw [e2, ef_55, pk_us]) (by (try dsimp only); (try simp only [lg_cmp_lt, lg_cmp_le, lg_cmp_gt, lg_cmp_ge] at *); (try simp only [x_lt, x_le, Int32.reduceToInt, x_ltL, x_leL, Int64.reduceToInt] at *); omega) (x_subP hP [0, 1, 2] rfl) (x_subD hD [0, 1, 2] rfl (by decide)) hS (lv_sub hl [0, 1, 3, 4, 5] rfl)
                        · have hno : ¬ gc k n j < (gs (gc k n) (j - 1)).1 := by rw [hc, hbs] at c_52; exact mt (nI_ltI (by omega) (by omega)).mpr c_52
                          have e2 : gs (gc k n) (j + 1 - 1) = gs (gc k n) (j - 1) := by rw [Nat.add_sub_cancel, e1, if_neg hno]
                          have hbn := hbs
                          refine lv_goto (tgt := 152) hx hb dX12_worksAgain_133 (by decide) ?_
                          refine lv_iinc (v := (nI (j + 1))) (lv' := [(4, .int (nI (j + 1))), (5, .int i_51), (3, .int bs), (2, .int (nI k)), (1, .int (nI n)), (0, .ref h0)]) hx hb dX12_worksAgain_152 hl (k := 1) rfl (nI_1 j) (by decide) rfl (fun ls hl => ?_)
                          refine lv_goto (tgt := 87) hx hb dX12_worksAgain_155 (by decide) ?_
                          exact ih_loop3 (j + 1) bs g3 H locs ls (by omega) (by omega) (by rw [if_neg (by omega), e2]; exact hbn) hg3 (fun h => absurd h (by omega)) (by intro _; rw [e2]; exact hv2 ((Nat.lt_or_ge 1 j).elim id (fun q => absurd (show gc k n j < (gs (gc k n) (j - 1)).1 by rw [show j - 1 = 0 by omega]; show gc k n j < 1000000; omega) hno))) (by (try dsimp only); (try simp only [lg_cmp_lt, lg_cmp_le, lg_cmp_gt, lg_cmp_ge] at *); (try simp only [x_lt, x_le, Int32.reduceToInt, x_ltL, x_leL, Int64.reduceToInt] at *); omega) (x_subP hP [0, 1, 2] rfl) (x_subD hD [0, 1, 2] rfl (by decide)) hS (lv_sub hl [0, 2, 3, 4, 5] rfl)
                  exact loop3 (n + 1) 1 0 f_37 H locs ls (Nat.le_refl 1) (by omega) (by first | (rw [if_pos hne]) | (rw [if_neg hne]; rfl)) (by intro x h; rw [ef_37, pk_un h]) (by intro _; rw [ef_37, pk_us]) (fun h => absurd h (by omega)) (by (try dsimp only); (try simp only [lg_cmp_lt, lg_cmp_le, lg_cmp_gt, lg_cmp_ge] at *); (try simp only [x_lt, x_le, Int32.reduceToInt, x_ltL, x_leL, Int64.reduceToInt] at *); omega) (x_subP hP [0, 1, 2] rfl) (x_subD hD [0, 1, 2] rfl (by decide)) hS (lv_sub hl [0, 1, 2, 3, 4] rfl)
          exact loop2 12 2 f_8 f_11 H locs ls (Nat.le_refl 2) (by decide) (by intro a b h1 h2 h3 h4; rw [ef_8, pk_un (by omega)]; exact hf a b h1 h2 h3 h4) (by intro a b h1 h2 h3 h4; rw [ef_11, pk_un (by omega)]; exact hg a b h1 h2 h3 h4) (by intro b h1 h2; rw [show b = 1 by omega, ef_8, pk_us]; rfl) (by intro b h1 h2; rw [show b = 1 by omega, ef_11, pk_us]; rfl) (by (try dsimp only); (try simp only [lg_cmp_lt, lg_cmp_le, lg_cmp_gt, lg_cmp_ge] at *); (try simp only [x_lt, x_le, Int32.reduceToInt, x_ltL, x_leL, Int64.reduceToInt] at *); omega) (x_subP hP [0, 1, 2] rfl) (x_subD hD [0, 1, 2] rfl (by decide)) hS (lv_sub hl [0, 1, 2] rfl)
    exact loop1 102 1 f g H locs ls (Nat.le_refl 1) (by decide) (fun a b h1 h2 => absurd h2 (by omega)) (fun a b h1 h2 => absurd h2 (by omega)) (by (try dsimp only); (try simp only [lg_cmp_lt, lg_cmp_le, lg_cmp_gt, lg_cmp_ge] at *); (try simp only [x_lt, x_le, Int32.reduceToInt, x_ltL, x_leL, Int64.reduceToInt] at *); omega) (x_subP hP [0, 1, 2] rfl) (x_subD hD [0, 1, 2] rfl (by decide)) hS (lv_sub hl [0, 1] rfl)
  · exact absurd (by decide) c_1

def v_m_again0 : List Cond := .code yX12_again cX12_again 3 (some .int) :: ([.fieldLink RX12 182 "SlopeRunnerModel" "again" "[I", .constantLong RX12 501 100, .constantLong RX12 503 10] ++ ((wsS RX12 231 yX12_isIn v_m_isIn) ++ ((wsV RX12 505 RX12 yX12_worksAgain v_m_worksAgain0) ++ wsX120)))
theorem g_m_again0_0 : GoodIn v_m_again0 (wsS RX12 231 yX12_isIn v_m_isIn) := goodIn_sub (fun w h => List.mem_cons_of_mem _ (List.mem_append_right _ (List.mem_append_left _ h))) (by decide +kernel)
theorem g_m_again0_1 : GoodIn v_m_again0 (wsV RX12 505 RX12 yX12_worksAgain v_m_worksAgain0) := goodIn_sub (fun w h => List.mem_cons_of_mem _ (List.mem_append_right _ (List.mem_append_right _ (List.mem_append_left _ h)))) (by decide +kernel)
set_option maxHeartbeats 4000000 in
set_option maxRecDepth 100000 in
theorem m_again0 (l : Launch) (D : va_G) (y : Nat → ClassId) (sz : Nat) (h0 : Nat) (ma : Nat → Nat) (mi : Nat → Int32) (mj : Nat → Int64) (f g : Nat → Int32) (n k : Int32) : Met l yX12_again v_m_again0 ({ frames := 1, cells := 0, slots := 0, locals := 25 } : Room) (va_Pc [.ref h0, .int n, .int k] (xPre D (xT y) [(h0, .inr (11, mF ma (upd mi 82 0) mj)), ((ma 83), .inl (y 2, 1111, .inl f)), ((ma 84), .inl (y 2, 1111, .inl g))] sz)) (va_Qi (fun (r : Int32) (_ : Int32 × (Nat → Int32) × (Nat → Int32)) => r = ga n k) (fun (u : Int32 × (Nat → Int32) × (Nat → Int32)) => xB D (xT y) (va_A [(h0, .inr (11, mF ma (upd mi 82 0) mj)), ((ma 83), .inl (y 2, 1111, .inl f)), ((ma 84), .inl (y 2, 1111, .inl g))] sz) [(h0, .inr (11, mF ma (upd mi 82 u.1) mj)), ((ma 83), .inl (y 2, 1111, .inl u.2.1)), ((ma 84), .inl (y 2, 1111, .inl u.2.2))]) (va_A [(h0, .inr (11, mF ma (upd mi 82 0) mj)), ((ma 83), .inl (y 2, 1111, .inl f)), ((ma 84), .inl (y 2, 1111, .inl g))] sz)) 0 0 (va_A [(h0, .inr (11, mF ma (upd mi 82 0) mj)), ((ma 83), .inl (y 2, 1111, .inl f)), ((ma 84), .inl (y 2, 1111, .inl g))] sz) := by
  refine x_meti (cc := cX12_again) (maxL := 3) (by decide) rfl (Nat.le_of_ble_eq_true rfl) ?_
  intro p e s m below meth c A H locs Q hx hb hml hown hts hr hlocks hmn hA hP hK hD hS ls hl hQ
  have hl : lv_has ls 3 [(0, .ref h0), (1, .int n), (2, .int k)] := hl
  have fl182 := hts (.fieldLink RX12 182 "SlopeRunnerModel" "again" "[I") (by decide +kernel)
  have inX12 : ∀ w ∈ wsX120, w ∈ v_m_again0 := (fun w h => List.mem_cons_of_mem _ (List.mem_append_right _ (List.mem_append_right _ (List.mem_append_right _ h))))
  refine lv_iload_n hx hb dX12_again_0 rfl (lv_at hl 1 rfl) ?_
  refine lv_i2l hx hb dX12_again_1 rfl ?_
  refine lv_topl (fun j_1 ej_1 => ?_)
  have vj_1 : j_1.toInt = n.toInt := by rw [ej_1]; exact Int32.toInt_toInt64 _
  refine lv_lconst (v := 1) hx hb dX12_again_2 (by decide) ?_
  refine lv_ldc2 (v := 100) hx hb hown (hts (.constantLong RX12 501 100) (by decide +kernel)) dX12_again_3 ?_
  refine x_calli (w1 := fun (u : Unit) => []) (wr := [(h0, .inr (11, mF ma (upd mi 82 0) mj)), ((ma 83), .inl (y 2, 1111, .inl f)), ((ma 84), .inl (y 2, 1111, .inl g))]) (ws' := fun (u : Unit) => [(h0, .inr (11, mF ma (upd mi 82 0) mj)), ((ma 83), .inl (y 2, 1111, .inl f)), ((ma 84), .inl (y 2, 1111, .inl g))]) (va_runS (As := [.long j_1, .long 1, .long 100]) (rest := []) ⟨hx, hb, hml, hown, hts⟩ (m_isIn l D y H.size j_1 1 100) (cwS 3 hts g_m_again0_0 rfl rfl rfl (by decide +kernel) ⟨Nat.le_of_ble_eq_true rfl, Nat.le_of_ble_eq_true rfl⟩) (x_preS hK (x_subP hP [] rfl) (x_subD hD [] rfl (by decide))) rfl rfl hl.1 rfl (lv_room (Nat.le_of_ble_eq_true rfl)) dX12_again_6 ⟨Nat.le_of_ble_eq_true rfl, Nat.le_of_ble_eq_true rfl⟩) hP hD hS hA [] [0, 1, 2] rfl rfl (by decide) (by decide) [0, 1, 2] (fun _ => rfl) (by decide) (fun r_2 u H locs hw hP hD hS => ?_)
  try dsimp only at hw
  have hP : va_P D vwCl [(h0, .inr (11, mF ma (upd mi 82 0) mj)), ((ma 83), .inl (y 2, 1111, .inl f)), ((ma 84), .inl (y 2, 1111, .inl g))] H := hP
  have hD : va_D A [(h0, .inr (11, mF ma (upd mi 82 0) mj)), ((ma 83), .inl (y 2, 1111, .inl f)), ((ma 84), .inl (y 2, 1111, .inl g))] := hD
  rcases hw with ⟨rfl, g_3⟩ | ⟨rfl, g_3⟩
  · refine lv_if_eq (tgt := 24) hx hb dX12_again_9 (by decide) (fun c_4 => ?_) (fun c_4 => ?_)
    · exact absurd c_4 (by decide)
    · have hga : ((1 : Nat) : Int) ≤ n.toInt ∧ n.toInt ≤ ((100 : Nat) : Int) := by simp only [Int64.reduceToInt] at *; omega
      refine lv_iload_n hx hb dX12_again_12 rfl (lv_at hl 2 rfl) ?_
      refine lv_i2l hx hb dX12_again_13 rfl ?_
      refine lv_topl (fun j_5 ej_5 => ?_)
      have vj_5 : j_5.toInt = k.toInt := by rw [ej_5]; exact Int32.toInt_toInt64 _
      refine lv_lconst (v := 1) hx hb dX12_again_14 (by decide) ?_
      refine lv_ldc2 (v := 10) hx hb hown (hts (.constantLong RX12 503 10) (by decide +kernel)) dX12_again_15 ?_
      refine x_calli (w1 := fun (u : Unit) => []) (wr := [(h0, .inr (11, mF ma (upd mi 82 0) mj)), ((ma 83), .inl (y 2, 1111, .inl f)), ((ma 84), .inl (y 2, 1111, .inl g))]) (ws' := fun (u : Unit) => [(h0, .inr (11, mF ma (upd mi 82 0) mj)), ((ma 83), .inl (y 2, 1111, .inl f)), ((ma 84), .inl (y 2, 1111, .inl g))]) (va_runS (As := [.long j_5, .long 1, .long 10]) (rest := []) ⟨hx, hb, hml, hown, hts⟩ (m_isIn l D y H.size j_5 1 10) (cwS 3 hts g_m_again0_0 rfl rfl rfl (by decide +kernel) ⟨Nat.le_of_ble_eq_true rfl, Nat.le_of_ble_eq_true rfl⟩) (x_preS hK (x_subP hP [] rfl) (x_subD hD [] rfl (by decide))) rfl rfl hl.1 rfl (lv_room (Nat.le_of_ble_eq_true rfl)) dX12_again_18 ⟨Nat.le_of_ble_eq_true rfl, Nat.le_of_ble_eq_true rfl⟩) hP hD hS hA [] [0, 1, 2] rfl rfl (by decide) (by decide) [0, 1, 2] (fun _ => rfl) (by decide) (fun r_6 u H locs hw hP hD hS => ?_)
      try dsimp only at hw
      have hP : va_P D vwCl [(h0, .inr (11, mF ma (upd mi 82 0) mj)), ((ma 83), .inl (y 2, 1111, .inl f)), ((ma 84), .inl (y 2, 1111, .inl g))] H := hP
      have hD : va_D A [(h0, .inr (11, mF ma (upd mi 82 0) mj)), ((ma 83), .inl (y 2, 1111, .inl f)), ((ma 84), .inl (y 2, 1111, .inl g))] := hD
      rcases hw with ⟨rfl, g_7⟩ | ⟨rfl, g_7⟩
      · refine lv_if_ne (tgt := 26) hx hb dX12_again_21 (by decide) (fun c_8 => ?_) (fun c_8 => ?_)
        · have hgb : ((1 : Nat) : Int) ≤ k.toInt ∧ k.toInt ≤ ((10 : Nat) : Int) := by simp only [Int64.reduceToInt] at *; omega
          obtain ⟨N, hN1, hN2, rfl⟩ := x_nat (x := n) (a := 1) (b := 100) hga.1 hga.2 (by decide)
          obtain ⟨K, hK1, hK2, rfl⟩ := x_nat (x := k) (a := 1) (b := 10) hgb.1 hgb.2 (by decide)
          refine lv_aload_n hx hb dX12_again_26 rfl (lv_at hl 0 rfl) ?_
          refine x_callv (w1 := fun (u : (Nat → Int32) × (Nat → Int32)) => [(h0, .inr (11, mF ma (upd (upd mi 82 0) 82 1) mj)), ((ma 83), .inl (y 2, 1111, .inl u.1)), ((ma 84), .inl (y 2, 1111, .inl u.2))]) (wr := []) (ws' := fun (u : (Nat → Int32) × (Nat → Int32)) => [(h0, .inr (11, mF ma (upd mi 82 1) mj)), ((ma 83), .inl (y 2, 1111, .inl u.1)), ((ma 84), .inl (y 2, 1111, .inl u.2))]) (va_runV (As := []) (rest := []) ⟨hx, hb, hml, hown, hts⟩ (m_worksAgain0 l D y H.size h0 ma (upd mi 82 0) mj f g) (cwV 0 hts g_m_again0_1 rfl rfl rfl (by decide +kernel) ⟨Nat.le_of_ble_eq_true rfl, Nat.le_of_ble_eq_true rfl⟩) (x_preV (q := (RX12, TX12, 85)) hK (x_subP hP [0, 1, 2] rfl) (x_subD hD [0, 1, 2] rfl (by decide)) (ci := 11) (q0 := 0) rfl rfl) rfl rfl hl.1 rfl (lv_room (Nat.le_of_ble_eq_true rfl)) dX12_again_27 ⟨Nat.le_of_ble_eq_true rfl, Nat.le_of_ble_eq_true rfl⟩) hP hD hS hA [0, 1, 2] [] rfl rfl (by decide) (by decide) [0, 1, 2] (fun _ => rfl) (by decide) (fun u H locs hw hP hD hS => ?_)
          obtain ⟨f_9, f_10⟩ := u
          try dsimp only at hw
          obtain ⟨hw1, hw2⟩ := hw
          have hP : va_P D vwCl [(h0, .inr (11, mF ma (upd mi 82 1) mj)), ((ma 83), .inl (y 2, 1111, .inl f_9)), ((ma 84), .inl (y 2, 1111, .inl f_10))] H := hP
          have hD : va_D A [(h0, .inr (11, mF ma (upd mi 82 1) mj)), ((ma 83), .inl (y 2, 1111, .inl f_9)), ((ma 84), .inl (y 2, 1111, .inl f_10))] := hD
          refine lv_aload_n hx hb dX12_again_30 rfl (lv_at hl 0 rfl) ?_
          refine va_get (D := D) (ci := 11) (v := .ref (ma 83)) (C := RX12) (T := TX12) (N := 85) hx hb hts inX12 hown hK hP 0 rfl rfl 83 (by decide) fl182 (fun _ h9 => h9) rfl dX12_again_31 ?_
          refine lv_bipush (v := 11) hx hb dX12_again_34 (by decide) ?_
          refine lv_iload_n hx hb dX12_again_36 rfl (lv_at hl 1 rfl) ?_
          refine lv_imul hx hb dX12_again_37 ?_
          refine lv_topi (fun i_11 ei_11 => ?_)
          obtain rfl : i_11 = (nI (11 * N)) := ei_11.trans (pk_mul 11 N)
          refine lv_iload_n hx hb dX12_again_38 rfl (lv_at hl 2 rfl) ?_
          refine lv_iadd hx hb dX12_again_39 ?_
          refine lv_topi (fun i_12 ei_12 => ?_)
          obtain rfl : i_12 = (nI ((11 * N) + K)) := ei_12.trans (nI_add (11 * N) K)
          refine va_iald hx hb hK hP 1 2 rfl rfl (vp_in_nI (n := ((11 * N) + K)) (by omega) (by decide)) dX12_again_40 ?_
          refine lv_topi (fun i_13 ei_13 => ?_)
          rw [nI_clamp (n := ((11 * N) + K)) (by omega)] at ei_13
          exact x_iret (v := i_13) (u := (1, f_9, f_10)) hx hb hr (by rw [ga_nI hN1 hN2 hK1 hK2, ei_13]; exact hw1 N K hN1 hN2 hK1 hK2) hP hD hK hS [0, 1, 2] rfl (by decide) dX12_again_41 hlocks hQ
        · exact absurd c_8 (by decide)
      · refine lv_if_ne (tgt := 26) hx hb dX12_again_21 (by decide) (fun c_14 => ?_) (fun c_14 => ?_)
        · exact absurd (by decide) c_14
        · refine lv_iconst (v := (-1)) hx hb dX12_again_24 (by decide) ?_
          exact x_iret (v := (-1)) (u := (0, f, g)) hx hb hr (by unfold ga; rw [if_neg (by simp only [Int64.reduceToInt] at *; omega)]) hP hD hK hS [0, 1, 2] rfl (by decide) dX12_again_25 hlocks hQ
  · refine lv_if_eq (tgt := 24) hx hb dX12_again_9 (by decide) (fun c_15 => ?_) (fun c_15 => ?_)
    · refine lv_iconst (v := (-1)) hx hb dX12_again_24 (by decide) ?_
      exact x_iret (v := (-1)) (u := (0, f, g)) hx hb hr (by unfold ga; rw [if_neg (by simp only [Int64.reduceToInt] at *; omega)]) hP hD hK hS [0, 1, 2] rfl (by decide) dX12_again_25 hlocks hQ
    · exact absurd (by decide) c_15

def v_m_first0 : List Cond := .code yX12_first cX12_first 3 (some .int) :: ([.fieldLink RX12 185 "SlopeRunnerModel" "firstKept" "[I", .constantLong RX12 501 100, .constantLong RX12 503 10] ++ ((wsS RX12 231 yX12_isIn v_m_isIn) ++ ((wsV RX12 505 RX12 yX12_worksAgain v_m_worksAgain0) ++ wsX120)))
theorem g_m_first0_0 : GoodIn v_m_first0 (wsS RX12 231 yX12_isIn v_m_isIn) := goodIn_sub (fun w h => List.mem_cons_of_mem _ (List.mem_append_right _ (List.mem_append_left _ h))) (by decide +kernel)
theorem g_m_first0_1 : GoodIn v_m_first0 (wsV RX12 505 RX12 yX12_worksAgain v_m_worksAgain0) := goodIn_sub (fun w h => List.mem_cons_of_mem _ (List.mem_append_right _ (List.mem_append_right _ (List.mem_append_left _ h)))) (by decide +kernel)
set_option maxHeartbeats 4000000 in
set_option maxRecDepth 100000 in
theorem m_first0 (l : Launch) (D : va_G) (y : Nat → ClassId) (sz : Nat) (h0 : Nat) (ma : Nat → Nat) (mi : Nat → Int32) (mj : Nat → Int64) (f g : Nat → Int32) (n k : Int32) : Met l yX12_first v_m_first0 ({ frames := 1, cells := 0, slots := 0, locals := 25 } : Room) (va_Pc [.ref h0, .int n, .int k] (xPre D (xT y) [(h0, .inr (11, mF ma (upd mi 82 0) mj)), ((ma 83), .inl (y 2, 1111, .inl f)), ((ma 84), .inl (y 2, 1111, .inl g))] sz)) (va_Qi (fun (r : Int32) (_ : Int32 × (Nat → Int32) × (Nat → Int32)) => r = gb n k) (fun (u : Int32 × (Nat → Int32) × (Nat → Int32)) => xB D (xT y) (va_A [(h0, .inr (11, mF ma (upd mi 82 0) mj)), ((ma 83), .inl (y 2, 1111, .inl f)), ((ma 84), .inl (y 2, 1111, .inl g))] sz) [(h0, .inr (11, mF ma (upd mi 82 u.1) mj)), ((ma 83), .inl (y 2, 1111, .inl u.2.1)), ((ma 84), .inl (y 2, 1111, .inl u.2.2))]) (va_A [(h0, .inr (11, mF ma (upd mi 82 0) mj)), ((ma 83), .inl (y 2, 1111, .inl f)), ((ma 84), .inl (y 2, 1111, .inl g))] sz)) 0 0 (va_A [(h0, .inr (11, mF ma (upd mi 82 0) mj)), ((ma 83), .inl (y 2, 1111, .inl f)), ((ma 84), .inl (y 2, 1111, .inl g))] sz) := by
  refine x_meti (cc := cX12_first) (maxL := 3) (by decide) rfl (Nat.le_of_ble_eq_true rfl) ?_
  intro p e s m below meth c A H locs Q hx hb hml hown hts hr hlocks hmn hA hP hK hD hS ls hl hQ
  have hl : lv_has ls 3 [(0, .ref h0), (1, .int n), (2, .int k)] := hl
  have fl185 := hts (.fieldLink RX12 185 "SlopeRunnerModel" "firstKept" "[I") (by decide +kernel)
  have inX12 : ∀ w ∈ wsX120, w ∈ v_m_first0 := (fun w h => List.mem_cons_of_mem _ (List.mem_append_right _ (List.mem_append_right _ (List.mem_append_right _ h))))
  refine lv_iload_n hx hb dX12_first_0 rfl (lv_at hl 1 rfl) ?_
  refine lv_i2l hx hb dX12_first_1 rfl ?_
  refine lv_topl (fun j_1 ej_1 => ?_)
  have vj_1 : j_1.toInt = n.toInt := by rw [ej_1]; exact Int32.toInt_toInt64 _
  refine lv_lconst (v := 1) hx hb dX12_first_2 (by decide) ?_
  refine lv_ldc2 (v := 100) hx hb hown (hts (.constantLong RX12 501 100) (by decide +kernel)) dX12_first_3 ?_
  refine x_calli (w1 := fun (u : Unit) => []) (wr := [(h0, .inr (11, mF ma (upd mi 82 0) mj)), ((ma 83), .inl (y 2, 1111, .inl f)), ((ma 84), .inl (y 2, 1111, .inl g))]) (ws' := fun (u : Unit) => [(h0, .inr (11, mF ma (upd mi 82 0) mj)), ((ma 83), .inl (y 2, 1111, .inl f)), ((ma 84), .inl (y 2, 1111, .inl g))]) (va_runS (As := [.long j_1, .long 1, .long 100]) (rest := []) ⟨hx, hb, hml, hown, hts⟩ (m_isIn l D y H.size j_1 1 100) (cwS 3 hts g_m_first0_0 rfl rfl rfl (by decide +kernel) ⟨Nat.le_of_ble_eq_true rfl, Nat.le_of_ble_eq_true rfl⟩) (x_preS hK (x_subP hP [] rfl) (x_subD hD [] rfl (by decide))) rfl rfl hl.1 rfl (lv_room (Nat.le_of_ble_eq_true rfl)) dX12_first_6 ⟨Nat.le_of_ble_eq_true rfl, Nat.le_of_ble_eq_true rfl⟩) hP hD hS hA [] [0, 1, 2] rfl rfl (by decide) (by decide) [0, 1, 2] (fun _ => rfl) (by decide) (fun r_2 u H locs hw hP hD hS => ?_)
  try dsimp only at hw
  have hP : va_P D vwCl [(h0, .inr (11, mF ma (upd mi 82 0) mj)), ((ma 83), .inl (y 2, 1111, .inl f)), ((ma 84), .inl (y 2, 1111, .inl g))] H := hP
  have hD : va_D A [(h0, .inr (11, mF ma (upd mi 82 0) mj)), ((ma 83), .inl (y 2, 1111, .inl f)), ((ma 84), .inl (y 2, 1111, .inl g))] := hD
  rcases hw with ⟨rfl, g_3⟩ | ⟨rfl, g_3⟩
  · refine lv_if_eq (tgt := 24) hx hb dX12_first_9 (by decide) (fun c_4 => ?_) (fun c_4 => ?_)
    · exact absurd c_4 (by decide)
    · have hga : ((1 : Nat) : Int) ≤ n.toInt ∧ n.toInt ≤ ((100 : Nat) : Int) := by simp only [Int64.reduceToInt] at *; omega
      refine lv_iload_n hx hb dX12_first_12 rfl (lv_at hl 2 rfl) ?_
      refine lv_i2l hx hb dX12_first_13 rfl ?_
      refine lv_topl (fun j_5 ej_5 => ?_)
      have vj_5 : j_5.toInt = k.toInt := by rw [ej_5]; exact Int32.toInt_toInt64 _
      refine lv_lconst (v := 1) hx hb dX12_first_14 (by decide) ?_
      refine lv_ldc2 (v := 10) hx hb hown (hts (.constantLong RX12 503 10) (by decide +kernel)) dX12_first_15 ?_
      refine x_calli (w1 := fun (u : Unit) => []) (wr := [(h0, .inr (11, mF ma (upd mi 82 0) mj)), ((ma 83), .inl (y 2, 1111, .inl f)), ((ma 84), .inl (y 2, 1111, .inl g))]) (ws' := fun (u : Unit) => [(h0, .inr (11, mF ma (upd mi 82 0) mj)), ((ma 83), .inl (y 2, 1111, .inl f)), ((ma 84), .inl (y 2, 1111, .inl g))]) (va_runS (As := [.long j_5, .long 1, .long 10]) (rest := []) ⟨hx, hb, hml, hown, hts⟩ (m_isIn l D y H.size j_5 1 10) (cwS 3 hts g_m_first0_0 rfl rfl rfl (by decide +kernel) ⟨Nat.le_of_ble_eq_true rfl, Nat.le_of_ble_eq_true rfl⟩) (x_preS hK (x_subP hP [] rfl) (x_subD hD [] rfl (by decide))) rfl rfl hl.1 rfl (lv_room (Nat.le_of_ble_eq_true rfl)) dX12_first_18 ⟨Nat.le_of_ble_eq_true rfl, Nat.le_of_ble_eq_true rfl⟩) hP hD hS hA [] [0, 1, 2] rfl rfl (by decide) (by decide) [0, 1, 2] (fun _ => rfl) (by decide) (fun r_6 u H locs hw hP hD hS => ?_)
      try dsimp only at hw
      have hP : va_P D vwCl [(h0, .inr (11, mF ma (upd mi 82 0) mj)), ((ma 83), .inl (y 2, 1111, .inl f)), ((ma 84), .inl (y 2, 1111, .inl g))] H := hP
      have hD : va_D A [(h0, .inr (11, mF ma (upd mi 82 0) mj)), ((ma 83), .inl (y 2, 1111, .inl f)), ((ma 84), .inl (y 2, 1111, .inl g))] := hD
      rcases hw with ⟨rfl, g_7⟩ | ⟨rfl, g_7⟩
      · refine lv_if_ne (tgt := 26) hx hb dX12_first_21 (by decide) (fun c_8 => ?_) (fun c_8 => ?_)
        · have hgb : ((1 : Nat) : Int) ≤ k.toInt ∧ k.toInt ≤ ((10 : Nat) : Int) := by simp only [Int64.reduceToInt] at *; omega
          obtain ⟨N, hN1, hN2, rfl⟩ := x_nat (x := n) (a := 1) (b := 100) hga.1 hga.2 (by decide)
          obtain ⟨K, hK1, hK2, rfl⟩ := x_nat (x := k) (a := 1) (b := 10) hgb.1 hgb.2 (by decide)
          refine lv_aload_n hx hb dX12_first_26 rfl (lv_at hl 0 rfl) ?_
          refine x_callv (w1 := fun (u : (Nat → Int32) × (Nat → Int32)) => [(h0, .inr (11, mF ma (upd (upd mi 82 0) 82 1) mj)), ((ma 83), .inl (y 2, 1111, .inl u.1)), ((ma 84), .inl (y 2, 1111, .inl u.2))]) (wr := []) (ws' := fun (u : (Nat → Int32) × (Nat → Int32)) => [(h0, .inr (11, mF ma (upd mi 82 1) mj)), ((ma 83), .inl (y 2, 1111, .inl u.1)), ((ma 84), .inl (y 2, 1111, .inl u.2))]) (va_runV (As := []) (rest := []) ⟨hx, hb, hml, hown, hts⟩ (m_worksAgain0 l D y H.size h0 ma (upd mi 82 0) mj f g) (cwV 0 hts g_m_first0_1 rfl rfl rfl (by decide +kernel) ⟨Nat.le_of_ble_eq_true rfl, Nat.le_of_ble_eq_true rfl⟩) (x_preV (q := (RX12, TX12, 85)) hK (x_subP hP [0, 1, 2] rfl) (x_subD hD [0, 1, 2] rfl (by decide)) (ci := 11) (q0 := 0) rfl rfl) rfl rfl hl.1 rfl (lv_room (Nat.le_of_ble_eq_true rfl)) dX12_first_27 ⟨Nat.le_of_ble_eq_true rfl, Nat.le_of_ble_eq_true rfl⟩) hP hD hS hA [0, 1, 2] [] rfl rfl (by decide) (by decide) [0, 1, 2] (fun _ => rfl) (by decide) (fun u H locs hw hP hD hS => ?_)
          obtain ⟨f_9, f_10⟩ := u
          try dsimp only at hw
          obtain ⟨hw1, hw2⟩ := hw
          have hP : va_P D vwCl [(h0, .inr (11, mF ma (upd mi 82 1) mj)), ((ma 83), .inl (y 2, 1111, .inl f_9)), ((ma 84), .inl (y 2, 1111, .inl f_10))] H := hP
          have hD : va_D A [(h0, .inr (11, mF ma (upd mi 82 1) mj)), ((ma 83), .inl (y 2, 1111, .inl f_9)), ((ma 84), .inl (y 2, 1111, .inl f_10))] := hD
          refine lv_aload_n hx hb dX12_first_30 rfl (lv_at hl 0 rfl) ?_
          refine va_get (D := D) (ci := 11) (v := .ref (ma 84)) (C := RX12) (T := TX12) (N := 85) hx hb hts inX12 hown hK hP 0 rfl rfl 84 (by decide) fl185 (fun _ h9 => h9) rfl dX12_first_31 ?_
          refine lv_bipush (v := 11) hx hb dX12_first_34 (by decide) ?_
          refine lv_iload_n hx hb dX12_first_36 rfl (lv_at hl 1 rfl) ?_
          refine lv_imul hx hb dX12_first_37 ?_
          refine lv_topi (fun i_11 ei_11 => ?_)
          obtain rfl : i_11 = (nI (11 * N)) := ei_11.trans (pk_mul 11 N)
          refine lv_iload_n hx hb dX12_first_38 rfl (lv_at hl 2 rfl) ?_
          refine lv_iadd hx hb dX12_first_39 ?_
          refine lv_topi (fun i_12 ei_12 => ?_)
          obtain rfl : i_12 = (nI ((11 * N) + K)) := ei_12.trans (nI_add (11 * N) K)
          refine va_iald hx hb hK hP 2 2 rfl rfl (vp_in_nI (n := ((11 * N) + K)) (by omega) (by decide)) dX12_first_40 ?_
          refine lv_topi (fun i_13 ei_13 => ?_)
          rw [nI_clamp (n := ((11 * N) + K)) (by omega)] at ei_13
          exact x_iret (v := i_13) (u := (1, f_9, f_10)) hx hb hr (by rw [ei_13, hw2 N K hN1 hN2 hK1 hK2]; unfold gx; exact if h : K = 1 ∨ N = 1 then (by unfold gb; rw [if_pos h, if_neg (by rw [nI_toInt (by omega), nI_toInt (by omega)]; omega)]) else (by rw [if_neg h, gb_nI (by omega) hN2 (by omega) hK2])) hP hD hK hS [0, 1, 2] rfl (by decide) dX12_first_41 hlocks hQ
        · exact absurd c_8 (by decide)
      · refine lv_if_ne (tgt := 26) hx hb dX12_first_21 (by decide) (fun c_14 => ?_) (fun c_14 => ?_)
        · exact absurd (by decide) c_14
        · refine lv_iconst (v := (-1)) hx hb dX12_first_24 (by decide) ?_
          exact x_iret (v := (-1)) (u := (0, f, g)) hx hb hr (by unfold gb; rw [if_neg (by simp only [Int64.reduceToInt] at *; omega)]) hP hD hK hS [0, 1, 2] rfl (by decide) dX12_first_25 hlocks hQ
  · refine lv_if_eq (tgt := 24) hx hb dX12_first_9 (by decide) (fun c_15 => ?_) (fun c_15 => ?_)
    · refine lv_iconst (v := (-1)) hx hb dX12_first_24 (by decide) ?_
      exact x_iret (v := (-1)) (u := (0, f, g)) hx hb hr (by unfold gb; rw [if_neg (by simp only [Int64.reduceToInt] at *; omega)]) hP hD hK hS [0, 1, 2] rfl (by decide) dX12_first_25 hlocks hQ
    · exact absurd (by decide) c_15

