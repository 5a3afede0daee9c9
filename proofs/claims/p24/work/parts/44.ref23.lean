/-- behind a 'not' stands a 'not' or a square -/
def NT (w : Nat → Int32) (n : Nat) : Prop := ∀ k, k + 1 < n → (w k).toInt = 16 → ((w (k + 1)).toInt = 16 ∨ (w (k + 1)).toInt = 30)
/-- no 'not' on top -/
def NK (w : Nat → Int32) (n : Nat) : Prop := NT w n ∧ (n = 0 ∨ (w (n - 1)).toInt ≠ 16)
theorem NT_start (w : Nat → Int32) : NT w 0 := fun k h => absurd h (by omega)
theorem NT_low {w : Nat → Int32} {n m : Nat} (h : NT w n) (hm : m ≤ n) : NT w m := fun k hk => h k (by omega)
theorem NT_congr {w w' : Nat → Int32} {n : Nat} (h : NT w n) (e : ∀ k, k < n → w' k = w k) : NT w' n := fun k hk h1 => by rw [e (k + 1) hk]; exact h k hk (by rw [← e k (by omega)]; exact h1)
theorem NK_drop {w : Nat → Int32} {n : Nat} (h : NK w n) (hn : 0 < n) (h30 : (w (n - 1)).toInt ≠ 30) : NK w (n - 1) := by
  refine ⟨NT_low h.1 (by omega), ?_⟩
  rcases Nat.lt_or_ge 1 n with h1 | h1
  · refine Or.inr (fun e => ?_)
    have h2 := h.1 (n - 1 - 1) (by omega) e
    rw [show n - 1 - 1 + 1 = n - 1 by omega] at h2
    rcases h2 with h2 | h2
    · rcases h.2 with h3 | h3
      · omega
      · exact h3 h2
    · exact h30 h2
  · exact Or.inl (by omega)
theorem NT_push {w : Nat → Int32} {n : Nat} {v : Int32} (h : NK w n) : NT (upd w n v) (n + 1) := by
  intro k hk h1
  by_cases e : k + 1 = n
  · rw [upd_low w v k (by omega)] at h1
    rcases h.2 with h3 | h3
    · omega
    · exact absurd (by rw [show n - 1 = k by omega]; exact h1) h3
  · rw [upd_low w v k (by omega)] at h1
    rw [upd_low w v (k + 1) (by omega)]
    exact h.1 k (by omega) h1
theorem NT_open {w : Nat → Int32} {n : Nat} {v : Int32} (h : NT w n) (hv : v.toInt = 30 ∨ v.toInt = 16) : NT (upd w n v) (n + 1) := by
  intro k hk h1
  by_cases e : k + 1 = n
  · rw [e, x_upd_same]; omega
  · rw [upd_low w v k (by omega)] at h1
    rw [upd_low w v (k + 1) (by omega)]
    exact h k (by omega) h1
theorem TS_top {f0 f w : Nat → Int32} {c0 c n d : Nat} {X op o0 : Int} (h : TS f0 f w c0 c n d X op o0) (hk : NK w n) (hn : 0 < n) (h30 : (w (n - 1)).toInt ≠ 30) : 14 ≤ (w (n - 1)).toInt ∧ (w (n - 1)).toInt ≤ 15 := by
  have h1 := h.2.2.2.1 (n - 1) (by omega)
  have h2 := hk.2
  omega
theorem TS_open1 {f0 f w : Nat → Int32} {c0 c n : Nat} {X op o0 : Int} (h : TS f0 f w c0 c n 1 X op o0) (hn : 0 < n) (hv : (w (n - 1)).toInt = 30) (ho : 0 ≤ o0) : 1 ≤ op := by
  have h9 := (TS_close h hn hv rfl).2.2.2.2.1
  omega
/-- a square waits -/
def SQ (w : Nat → Int32) (n : Nat) : Prop := ∃ k : Nat, k < n ∧ (w k).toInt = 30
theorem SQ_pos {w : Nat → Int32} {n : Nat} (h : SQ w n) : 0 < n := by obtain ⟨k, h1, _⟩ := h; omega
theorem SQ_drop {w : Nat → Int32} {n : Nat} (h : SQ w n) (h30 : (w (n - 1)).toInt ≠ 30) : SQ w (n - 1) := by
  obtain ⟨k, h1, h2⟩ := h
  refine ⟨k, ?_, h2⟩
  by_cases e : k = n - 1
  · exact absurd (by rw [← e]; exact h2) h30
  · omega

theorem dX12_goesOnTest_0 : decode cX12_goesOnTest 0 = .ok (.aload_n 0, 1) := by decide +kernel
theorem dX12_goesOnTest_1 : decode cX12_goesOnTest 1 = .ok (.getfield 191, 3) := by decide +kernel
theorem dX12_goesOnTest_4 : decode cX12_goesOnTest 4 = .ok (.ifCond .ne 72, 3) := by decide +kernel
theorem dX12_goesOnTest_7 : decode cX12_goesOnTest 7 = .ok (.aload_n 0, 1) := by decide +kernel
theorem dX12_goesOnTest_8 : decode cX12_goesOnTest 8 = .ok (.invokevirtual 203, 3) := by decide +kernel
theorem dX12_goesOnTest_11 : decode cX12_goesOnTest 11 = .ok (.bipush 93, 2) := by decide +kernel
theorem dX12_goesOnTest_13 : decode cX12_goesOnTest 13 = .ok (.if_icmp .ne 63, 3) := by decide +kernel
theorem dX12_goesOnTest_16 : decode cX12_goesOnTest 16 = .ok (.aload_n 0, 1) := by decide +kernel
theorem dX12_goesOnTest_17 : decode cX12_goesOnTest 17 = .ok (.invokevirtual 329, 3) := by decide +kernel
theorem dX12_goesOnTest_20 : decode cX12_goesOnTest 20 = .ok (.ifCond .eq 56, 3) := by decide +kernel
theorem dX12_goesOnTest_23 : decode cX12_goesOnTest 23 = .ok (.aload_n 0, 1) := by decide +kernel
theorem dX12_goesOnTest_24 : decode cX12_goesOnTest 24 = .ok (.dup, 1) := by decide +kernel
theorem dX12_goesOnTest_25 : decode cX12_goesOnTest 25 = .ok (.getfield 197, 3) := by decide +kernel
theorem dX12_goesOnTest_28 : decode cX12_goesOnTest 28 = .ok (.iconst 1, 1) := by decide +kernel
theorem dX12_goesOnTest_29 : decode cX12_goesOnTest 29 = .ok (.iadd, 1) := by decide +kernel
theorem dX12_goesOnTest_30 : decode cX12_goesOnTest 30 = .ok (.putfield 197, 3) := by decide +kernel
theorem dX12_goesOnTest_33 : decode cX12_goesOnTest 33 = .ok (.aload_n 0, 1) := by decide +kernel
theorem dX12_goesOnTest_34 : decode cX12_goesOnTest 34 = .ok (.bipush 30, 2) := by decide +kernel
theorem dX12_goesOnTest_36 : decode cX12_goesOnTest 36 = .ok (.invokevirtual 308, 3) := by decide +kernel
theorem dX12_goesOnTest_39 : decode cX12_goesOnTest 39 = .ok (.ifCond .ne 10, 3) := by decide +kernel
theorem dX12_goesOnTest_42 : decode cX12_goesOnTest 42 = .ok (.aload_n 0, 1) := by decide +kernel
theorem dX12_goesOnTest_43 : decode cX12_goesOnTest 43 = .ok (.invokevirtual 276, 3) := by decide +kernel
theorem dX12_goesOnTest_46 : decode cX12_goesOnTest 46 = .ok (.goto (-13), 3) := by decide +kernel
theorem dX12_goesOnTest_49 : decode cX12_goesOnTest 49 = .ok (.aload_n 0, 1) := by decide +kernel
theorem dX12_goesOnTest_50 : decode cX12_goesOnTest 50 = .ok (.dup, 1) := by decide +kernel
theorem dX12_goesOnTest_51 : decode cX12_goesOnTest 51 = .ok (.getfield 263, 3) := by decide +kernel
theorem dX12_goesOnTest_54 : decode cX12_goesOnTest 54 = .ok (.iconst 1, 1) := by decide +kernel
theorem dX12_goesOnTest_55 : decode cX12_goesOnTest 55 = .ok (.isub, 1) := by decide +kernel
theorem dX12_goesOnTest_56 : decode cX12_goesOnTest 56 = .ok (.putfield 263, 3) := by decide +kernel
theorem dX12_goesOnTest_59 : decode cX12_goesOnTest 59 = .ok (.aload_n 0, 1) := by decide +kernel
theorem dX12_goesOnTest_60 : decode cX12_goesOnTest 60 = .ok (.dup, 1) := by decide +kernel
theorem dX12_goesOnTest_61 : decode cX12_goesOnTest 61 = .ok (.getfield 260, 3) := by decide +kernel
theorem dX12_goesOnTest_64 : decode cX12_goesOnTest 64 = .ok (.iconst 1, 1) := by decide +kernel
theorem dX12_goesOnTest_65 : decode cX12_goesOnTest 65 = .ok (.isub, 1) := by decide +kernel
theorem dX12_goesOnTest_66 : decode cX12_goesOnTest 66 = .ok (.putfield 260, 3) := by decide +kernel
theorem dX12_goesOnTest_69 : decode cX12_goesOnTest 69 = .ok (.aload_n 0, 1) := by decide +kernel
theorem dX12_goesOnTest_70 : decode cX12_goesOnTest 70 = .ok (.invokevirtual 323, 3) := by decide +kernel
theorem dX12_goesOnTest_73 : decode cX12_goesOnTest 73 = .ok (.goto (-73), 3) := by decide +kernel
theorem dX12_goesOnTest_76 : decode cX12_goesOnTest 76 = .ok (.aload_n 0, 1) := by decide +kernel
theorem dX12_goesOnTest_77 : decode cX12_goesOnTest 77 = .ok (.aload_n 0, 1) := by decide +kernel
theorem dX12_goesOnTest_78 : decode cX12_goesOnTest 78 = .ok (.getfield 42, 3) := by decide +kernel
theorem dX12_goesOnTest_81 : decode cX12_goesOnTest 81 = .ok (.invokevirtual 218, 3) := by decide +kernel
theorem dX12_goesOnTest_84 : decode cX12_goesOnTest 84 = .ok (.ifCond .eq 42, 3) := by decide +kernel
theorem dX12_goesOnTest_87 : decode cX12_goesOnTest 87 = .ok (.aload_n 0, 1) := by decide +kernel
theorem dX12_goesOnTest_88 : decode cX12_goesOnTest 88 = .ok (.bipush 14, 2) := by decide +kernel
theorem dX12_goesOnTest_90 : decode cX12_goesOnTest 90 = .ok (.invokevirtual 308, 3) := by decide +kernel
theorem dX12_goesOnTest_93 : decode cX12_goesOnTest 93 = .ok (.ifCond .eq 10, 3) := by decide +kernel
theorem dX12_goesOnTest_96 : decode cX12_goesOnTest 96 = .ok (.aload_n 0, 1) := by decide +kernel
theorem dX12_goesOnTest_97 : decode cX12_goesOnTest 97 = .ok (.invokevirtual 276, 3) := by decide +kernel
theorem dX12_goesOnTest_100 : decode cX12_goesOnTest 100 = .ok (.goto (-13), 3) := by decide +kernel
theorem dX12_goesOnTest_103 : decode cX12_goesOnTest 103 = .ok (.aload_n 0, 1) := by decide +kernel
theorem dX12_goesOnTest_104 : decode cX12_goesOnTest 104 = .ok (.getfield 75, 3) := by decide +kernel
theorem dX12_goesOnTest_107 : decode cX12_goesOnTest 107 = .ok (.aload_n 0, 1) := by decide +kernel
theorem dX12_goesOnTest_108 : decode cX12_goesOnTest 108 = .ok (.getfield 263, 3) := by decide +kernel
theorem dX12_goesOnTest_111 : decode cX12_goesOnTest 111 = .ok (.bipush 14, 2) := by decide +kernel
theorem dX12_goesOnTest_113 : decode cX12_goesOnTest 113 = .ok (.iastore, 1) := by decide +kernel
theorem dX12_goesOnTest_114 : decode cX12_goesOnTest 114 = .ok (.aload_n 0, 1) := by decide +kernel
theorem dX12_goesOnTest_115 : decode cX12_goesOnTest 115 = .ok (.dup, 1) := by decide +kernel
theorem dX12_goesOnTest_116 : decode cX12_goesOnTest 116 = .ok (.getfield 263, 3) := by decide +kernel
theorem dX12_goesOnTest_119 : decode cX12_goesOnTest 119 = .ok (.iconst 1, 1) := by decide +kernel
theorem dX12_goesOnTest_120 : decode cX12_goesOnTest 120 = .ok (.iadd, 1) := by decide +kernel
theorem dX12_goesOnTest_121 : decode cX12_goesOnTest 121 = .ok (.putfield 263, 3) := by decide +kernel
theorem dX12_goesOnTest_124 : decode cX12_goesOnTest 124 = .ok (.iconst 1, 1) := by decide +kernel
theorem dX12_goesOnTest_125 : decode cX12_goesOnTest 125 = .ok (.ireturn, 1) := by decide +kernel
theorem dX12_goesOnTest_126 : decode cX12_goesOnTest 126 = .ok (.aload_n 0, 1) := by decide +kernel
theorem dX12_goesOnTest_127 : decode cX12_goesOnTest 127 = .ok (.aload_n 0, 1) := by decide +kernel
theorem dX12_goesOnTest_128 : decode cX12_goesOnTest 128 = .ok (.getfield 45, 3) := by decide +kernel
theorem dX12_goesOnTest_131 : decode cX12_goesOnTest 131 = .ok (.invokevirtual 218, 3) := by decide +kernel
theorem dX12_goesOnTest_134 : decode cX12_goesOnTest 134 = .ok (.ifCond .eq 51, 3) := by decide +kernel
theorem dX12_goesOnTest_137 : decode cX12_goesOnTest 137 = .ok (.aload_n 0, 1) := by decide +kernel
theorem dX12_goesOnTest_138 : decode cX12_goesOnTest 138 = .ok (.bipush 14, 2) := by decide +kernel
theorem dX12_goesOnTest_140 : decode cX12_goesOnTest 140 = .ok (.invokevirtual 308, 3) := by decide +kernel
theorem dX12_goesOnTest_143 : decode cX12_goesOnTest 143 = .ok (.ifCond .ne 12, 3) := by decide +kernel
theorem dX12_goesOnTest_146 : decode cX12_goesOnTest 146 = .ok (.aload_n 0, 1) := by decide +kernel
theorem dX12_goesOnTest_147 : decode cX12_goesOnTest 147 = .ok (.bipush 15, 2) := by decide +kernel
theorem dX12_goesOnTest_149 : decode cX12_goesOnTest 149 = .ok (.invokevirtual 308, 3) := by decide +kernel
theorem dX12_goesOnTest_152 : decode cX12_goesOnTest 152 = .ok (.ifCond .eq 10, 3) := by decide +kernel
theorem dX12_goesOnTest_155 : decode cX12_goesOnTest 155 = .ok (.aload_n 0, 1) := by decide +kernel
theorem dX12_goesOnTest_156 : decode cX12_goesOnTest 156 = .ok (.invokevirtual 276, 3) := by decide +kernel
theorem dX12_goesOnTest_159 : decode cX12_goesOnTest 159 = .ok (.goto (-22), 3) := by decide +kernel
theorem dX12_goesOnTest_162 : decode cX12_goesOnTest 162 = .ok (.aload_n 0, 1) := by decide +kernel
theorem dX12_goesOnTest_163 : decode cX12_goesOnTest 163 = .ok (.getfield 75, 3) := by decide +kernel
theorem dX12_goesOnTest_166 : decode cX12_goesOnTest 166 = .ok (.aload_n 0, 1) := by decide +kernel
theorem dX12_goesOnTest_167 : decode cX12_goesOnTest 167 = .ok (.getfield 263, 3) := by decide +kernel
theorem dX12_goesOnTest_170 : decode cX12_goesOnTest 170 = .ok (.bipush 15, 2) := by decide +kernel
theorem dX12_goesOnTest_172 : decode cX12_goesOnTest 172 = .ok (.iastore, 1) := by decide +kernel
theorem dX12_goesOnTest_173 : decode cX12_goesOnTest 173 = .ok (.aload_n 0, 1) := by decide +kernel
theorem dX12_goesOnTest_174 : decode cX12_goesOnTest 174 = .ok (.dup, 1) := by decide +kernel
theorem dX12_goesOnTest_175 : decode cX12_goesOnTest 175 = .ok (.getfield 263, 3) := by decide +kernel
theorem dX12_goesOnTest_178 : decode cX12_goesOnTest 178 = .ok (.iconst 1, 1) := by decide +kernel
theorem dX12_goesOnTest_179 : decode cX12_goesOnTest 179 = .ok (.iadd, 1) := by decide +kernel
theorem dX12_goesOnTest_180 : decode cX12_goesOnTest 180 = .ok (.putfield 263, 3) := by decide +kernel
theorem dX12_goesOnTest_183 : decode cX12_goesOnTest 183 = .ok (.iconst 1, 1) := by decide +kernel
theorem dX12_goesOnTest_184 : decode cX12_goesOnTest 184 = .ok (.ireturn, 1) := by decide +kernel
theorem dX12_goesOnTest_185 : decode cX12_goesOnTest 185 = .ok (.aload_n 0, 1) := by decide +kernel
theorem dX12_goesOnTest_186 : decode cX12_goesOnTest 186 = .ok (.getfield 191, 3) := by decide +kernel
theorem dX12_goesOnTest_189 : decode cX12_goesOnTest 189 = .ok (.ifCond .ne 19, 3) := by decide +kernel
theorem dX12_goesOnTest_192 : decode cX12_goesOnTest 192 = .ok (.aload_n 0, 1) := by decide +kernel
theorem dX12_goesOnTest_193 : decode cX12_goesOnTest 193 = .ok (.invokevirtual 329, 3) := by decide +kernel
theorem dX12_goesOnTest_196 : decode cX12_goesOnTest 196 = .ok (.ifCond .eq 12, 3) := by decide +kernel
theorem dX12_goesOnTest_199 : decode cX12_goesOnTest 199 = .ok (.aload_n 0, 1) := by decide +kernel
theorem dX12_goesOnTest_200 : decode cX12_goesOnTest 200 = .ok (.iconst 1, 1) := by decide +kernel
theorem dX12_goesOnTest_201 : decode cX12_goesOnTest 201 = .ok (.aload_n 0, 1) := by decide +kernel
theorem dX12_goesOnTest_202 : decode cX12_goesOnTest 202 = .ok (.getfield 197, 3) := by decide +kernel
theorem dX12_goesOnTest_205 : decode cX12_goesOnTest 205 = .ok (.invokevirtual 221, 3) := by decide +kernel
theorem dX12_goesOnTest_208 : decode cX12_goesOnTest 208 = .ok (.iconst 0, 1) := by decide +kernel
theorem dX12_goesOnTest_209 : decode cX12_goesOnTest 209 = .ok (.ireturn, 1) := by decide +kernel
def v_q_goesOnTest : List Cond := .code yX12_goesOnTest cX12_goesOnTest 1 (some .boolean) :: ([.fieldLink RX12 191 "SlopeRunnerModel" "bad" "I", .fieldLink RX12 42 "SlopeRunnerModel" "andWord" "[C", .fieldLink RX12 45 "SlopeRunnerModel" "orWord" "[C", .fieldLink RX12 197 "SlopeRunnerModel" "at" "I", .fieldLink RX12 75 "SlopeRunnerModel" "wait" "[I", .fieldLink RX12 263 "SlopeRunnerModel" "waits" "I", .fieldLink RX12 260 "SlopeRunnerModel" "open" "I"] ++ ((wsV RX12 218 RX12 yX12_takes v_q_takes) ++ ((wsV RX12 329 RX12 yX12_hasSquare v_q_hasSquare) ++ ((wsV RX12 221 RX12 yX12_fail v_q_fail) ++ ((wsV RX12 308 RX12 yX12_isOn v_q_isOn) ++ ((wsV RX12 276 RX12 yX12_drops v_q_drops) ++ ((wsV RX12 203 RX12 yX12_look v_q_look2) ++ ((wsV RX12 323 RX12 yX12_dropsNots v_q_dropsNots) ++ wsX120))))))))
theorem g_q_goesOnTest_0 : GoodIn v_q_goesOnTest (wsV RX12 218 RX12 yX12_takes v_q_takes) := goodIn_sub (fun w h => List.mem_cons_of_mem _ (List.mem_append_right _ (List.mem_append_left _ h))) (by decide +kernel)
theorem g_q_goesOnTest_1 : GoodIn v_q_goesOnTest (wsV RX12 329 RX12 yX12_hasSquare v_q_hasSquare) := goodIn_sub (fun w h => List.mem_cons_of_mem _ (List.mem_append_right _ (List.mem_append_right _ (List.mem_append_left _ h)))) (by decide +kernel)
theorem g_q_goesOnTest_2 : GoodIn v_q_goesOnTest (wsV RX12 221 RX12 yX12_fail v_q_fail) := goodIn_sub (fun w h => List.mem_cons_of_mem _ (List.mem_append_right _ (List.mem_append_right _ (List.mem_append_right _ (List.mem_append_left _ h))))) (by decide +kernel)
theorem g_q_goesOnTest_3 : GoodIn v_q_goesOnTest (wsV RX12 308 RX12 yX12_isOn v_q_isOn) := goodIn_sub (fun w h => List.mem_cons_of_mem _ (List.mem_append_right _ (List.mem_append_right _ (List.mem_append_right _ (List.mem_append_right _ (List.mem_append_left _ h)))))) (by decide +kernel)
theorem g_q_goesOnTest_4 : GoodIn v_q_goesOnTest (wsV RX12 276 RX12 yX12_drops v_q_drops) := goodIn_sub (fun w h => List.mem_cons_of_mem _ (List.mem_append_right _ (List.mem_append_right _ (List.mem_append_right _ (List.mem_append_right _ (List.mem_append_right _ (List.mem_append_left _ h))))))) (by decide +kernel)
theorem g_q_goesOnTest_5 : GoodIn v_q_goesOnTest (wsV RX12 203 RX12 yX12_look v_q_look2) := goodIn_sub (fun w h => List.mem_cons_of_mem _ (List.mem_append_right _ (List.mem_append_right _ (List.mem_append_right _ (List.mem_append_right _ (List.mem_append_right _ (List.mem_append_right _ (List.mem_append_left _ h)))))))) (by decide +kernel)
theorem g_q_goesOnTest_6 : GoodIn v_q_goesOnTest (wsV RX12 323 RX12 yX12_dropsNots v_q_dropsNots) := goodIn_sub (fun w h => List.mem_cons_of_mem _ (List.mem_append_right _ (List.mem_append_right _ (List.mem_append_right _ (List.mem_append_right _ (List.mem_append_right _ (List.mem_append_right _ (List.mem_append_right _ (List.mem_append_left _ h))))))))) (by decide +kernel)
set_option maxHeartbeats 4000000 in
set_option maxRecDepth 100000 in
theorem q_goesOnTest (l : Launch) (D : va_G) (y : Nat → ClassId) (sz : Nat) (ad : Nat → Nat) (zw : Nat → Nat → Int32) (σ : OS) (f0 : Nat → Int32) (c0 : Nat) (X o0 : Int) (ha0 : 0 ≤ (σ.1 2).toInt) (ha1 : (σ.1 2).toInt ≤ (σ.1 3).toInt) (ha2 : (σ.1 3).toInt ≤ 700) (hb0 : (σ.1 5).toInt = 0) (ho2 : 0 ≤ o0) (ho0 : 0 ≤ (σ.1 32).toInt) (ho1 : (σ.1 32).toInt ≤ 8) (hw0 : 0 ≤ (σ.1 31).toInt) (hc0 : 0 ≤ (σ.1 29).toInt) (hcw : (σ.1 29).toInt + (σ.1 31).toInt ≤ (σ.1 2).toInt + 20) (hX1 : 1000 ≤ X) (hts0 : TS f0 (σ.2.2.1 27) (σ.2.2.1 30) c0 (σ.1 29).toInt.toNat (σ.1 31).toInt.toNat 1 X (σ.1 32).toInt o0) (hnk : NK (σ.2.2.1 30) (σ.1 31).toInt.toNat) : Met l yX12_goesOnTest v_q_goesOnTest ({ frames := 3, cells := 0, slots := 0, locals := 64 } : Room) (va_Pc [.ref (ad 1)] (xPre D (xT y) (mwd y ad zw σ) sz)) (va_Qi (fun (r : Int32) (u : Int32 × Int32 × Int32 × Int32 × Int32 × (Nat → Int32) × Int32 × (Nat → Int32) × Int32) => (σ.1 2).toInt ≤ u.1.toInt ∧ u.1.toInt ≤ (σ.1 3).toInt ∧ 0 ≤ u.2.2.2.2.2.2.1.toInt ∧ u.2.2.2.2.2.2.1.toInt ≤ 8 ∧ 0 ≤ u.2.2.2.2.2.2.2.2.toInt ∧ (σ.1 29).toInt ≤ u.2.2.2.2.1.toInt ∧ u.2.2.2.2.1.toInt + u.2.2.2.2.2.2.2.2.toInt - u.1.toInt ≤ ((σ.1 29).toInt + (σ.1 31).toInt - (σ.1 2).toInt) ∧ (r.toInt = 0 ∨ r.toInt = 1) ∧ (u.2.2.1.toInt = 0 → XE (r.toInt = 1) ((σ.1 2).toInt + 1 ≤ u.1.toInt ∧ TS f0 u.2.2.2.2.2.1 u.2.2.2.2.2.2.2.1 c0 u.2.2.2.2.1.toInt.toNat u.2.2.2.2.2.2.2.2.toInt.toNat 0 X u.2.2.2.2.2.2.1.toInt o0 ∧ NT u.2.2.2.2.2.2.2.1 u.2.2.2.2.2.2.2.2.toInt.toNat) ∧ XE (r.toInt = 0) (TS f0 u.2.2.2.2.2.1 u.2.2.2.2.2.2.2.1 c0 u.2.2.2.2.1.toInt.toNat u.2.2.2.2.2.2.2.2.toInt.toNat 1 X u.2.2.2.2.2.2.1.toInt o0 ∧ NK u.2.2.2.2.2.2.2.1 u.2.2.2.2.2.2.2.2.toInt.toNat ∧ ∀ k : Nat, k < u.2.2.2.2.2.2.2.2.toInt.toNat → (u.2.2.2.2.2.2.2.1 k).toInt ≠ 30))) (fun (u : Int32 × Int32 × Int32 × Int32 × Int32 × (Nat → Int32) × Int32 × (Nat → Int32) × Int32) => xB D (xT y) (va_A (mwd y ad zw σ) sz) (mwd y ad zw (sI (tI (sI (tI (sI (sI (sI (sI (sI σ 2 u.1) 4 u.2.1) 5 u.2.2.1) 6 u.2.2.2.1) 29 u.2.2.2.2.1) 27 u.2.2.2.2.2.1) 32 u.2.2.2.2.2.2.1) 30 u.2.2.2.2.2.2.2.1) 31 u.2.2.2.2.2.2.2.2))) (va_A (mwd y ad zw σ) sz)) 0 0 (va_A (mwd y ad zw σ) sz) := by
  refine x_meti (cc := cX12_goesOnTest) (maxL := 1) (by decide) rfl (Nat.le_of_ble_eq_true rfl) ?_
  intro p e s m below meth c A H locs Q hx hb hml hown hts hr hlocks hmn hA hP hK hD hS ls hl hQ
  have hl : lv_has ls 1 [(0, .ref (ad 1))] := hl
  have fl191 := hts (.fieldLink RX12 191 "SlopeRunnerModel" "bad" "I") (List.mem_of_getElem? (i := 1) rfl)
  have inX12 : ∀ w ∈ wsX120, w ∈ v_q_goesOnTest := (fun w h => List.mem_cons_of_mem _ (List.mem_append_right _ (List.mem_append_right _ (List.mem_append_right _ (List.mem_append_right _ (List.mem_append_right _ (List.mem_append_right _ (List.mem_append_right _ (List.mem_append_right _ h)))))))))
  have kk_0 : (0 : Int32).toInt = 0 := rfl
  have fl42 := hts (.fieldLink RX12 42 "SlopeRunnerModel" "andWord" "[C") (List.mem_of_getElem? (i := 2) rfl)
  have fl45 := hts (.fieldLink RX12 45 "SlopeRunnerModel" "orWord" "[C") (List.mem_of_getElem? (i := 3) rfl)
  have fl197 := hts (.fieldLink RX12 197 "SlopeRunnerModel" "at" "I") (List.mem_of_getElem? (i := 4) rfl)
  have kk_1 : (1 : Int32).toInt = 1 := rfl
  have kk_14 : (14 : Int32).toInt = 14 := rfl
  have kk_15 : (15 : Int32).toInt = 15 := rfl
  have fl75 := hts (.fieldLink RX12 75 "SlopeRunnerModel" "wait" "[I") (List.mem_of_getElem? (i := 5) rfl)
  have fl263 := hts (.fieldLink RX12 263 "SlopeRunnerModel" "waits" "I") (List.mem_of_getElem? (i := 6) rfl)
  have kk_93 : (93 : Int32).toInt = 93 := rfl
  have kk_30 : (30 : Int32).toInt = 30 := rfl
  have fl260 := hts (.fieldLink RX12 260 "SlopeRunnerModel" "open" "I") (List.mem_of_getElem? (i := 7) rfl)
  have hP : va_P D vwCl (mwd y ad zw (sI (sI (tI (sI (sI σ 2 (σ.1 2)) 29 (σ.1 29)) 27 (σ.2.2.1 27)) 32 (σ.1 32)) 31 (σ.1 31))) H := hP
  have hD : va_D A (mwd y ad zw (sI (sI (tI (sI (sI σ 2 (σ.1 2)) 29 (σ.1 29)) 27 (σ.2.2.1 27)) 32 (σ.1 32)) 31 (σ.1 31))) := hD
  have loop : ∀ (fu : Nat) (a : Int32) (cd : Int32) (fc : Nat → Int32) (op : Int32) (ws : Int32) (H : Heap) (locs : List Loc) (ls : Array Slot), ((σ.1 2).toInt ≤ a.toInt) → (a.toInt ≤ (σ.1 3).toInt) → (0 ≤ op.toInt) → (op.toInt ≤ 8) → (0 ≤ ws.toInt) → ((σ.1 29).toInt ≤ cd.toInt) → (cd.toInt + ws.toInt - a.toInt ≤ ((σ.1 29).toInt + (σ.1 31).toInt - (σ.1 2).toInt)) → (TS f0 fc (σ.2.2.1 30) c0 cd.toInt.toNat ws.toInt.toNat 1 X op.toInt o0) → (NK (σ.2.2.1 30) ws.toInt.toNat) → ((σ.1 3).toInt - a.toInt < (fu : Int)) → va_P D vwCl (mwd y ad zw (sI (sI (tI (sI (sI σ 2 a) 29 cd) 27 fc) 32 op) 31 ws)) H → va_D A (mwd y ad zw (sI (sI (tI (sI (sI σ 2 a) 29 cd) 27 fc) 32 op) 31 ws)) → va_S A s.heap H locs → lv_has ls 1 [(0, .ref (ad 1))] → W p l e ({ frames := 3, cells := 0, slots := 0, locals := 64 } : Room) s m ([.ref (ad 1)] : List Value).toArray below meth c H locs 0 0 Q (F0 m 0 ls []) := by
    intro fu
    induction fu with
    | zero =>
      intro a cd fc op ws H locs ls hA0 hA1 hO0 hO1 hW0 hC0 hpot hE hNK hm
      exact absurd hm (by omega)
    | succ fu ih_loop =>
      intro a cd fc op ws H locs ls hA0 hA1 hO0 hO1 hW0 hC0 hpot hE hNK hm hP hD hS hl
      refine lv_aload_n hx hb dX12_goesOnTest_0 rfl (lv_at hl 0 rfl) ?_
      refine va_get (D := D) (ci := 11) (v := .int (σ.1 5)) (C := RX12) (T := TX12) (N := 85) hx hb hts inX12 hown hK hP 0 mwd_o0 rfl 5 (by decide) fl191 (fun _ h9 => h9) rfl dX12_goesOnTest_1 ?_
      refine lv_if_ne (tgt := 76) hx hb dX12_goesOnTest_4 (by decide) (fun c_1 => ?_) (fun c_1 => ?_)
      · have kc_1 : (σ.1 5).toInt ≠ 0 := by have h9 := c_1; simp only [ge_iff_le, gt_iff_lt, x_lt, x_le, x_eq, ne_eq, Int32.not_lt, Int32.not_le] at h9; simp only [Int32.reduceToInt] at h9; omega
        exfalso
        omega
      · have kc_1 : (σ.1 5).toInt = 0 := by have h9 := c_1; simp only [ge_iff_le, gt_iff_lt, x_lt, x_le, x_eq, ne_eq, Int32.not_lt, Int32.not_le] at h9; simp only [Int32.reduceToInt] at h9; omega
        have cut76 : ∀ (a1 : Int32) (H : Heap) (locs : List Loc) (ls : Array Slot), (a.toInt ≤ a1.toInt) → (a1.toInt ≤ (σ.1 3).toInt) → va_P D vwCl (mwd y ad zw (sI (sI (sI (tI (sI σ 29 cd) 27 fc) 32 op) 31 ws) 2 a1)) H → va_D A (mwd y ad zw (sI (sI (sI (tI (sI σ 29 cd) 27 fc) 32 op) 31 ws) 2 a1)) → va_S A s.heap H locs → lv_has ls 1 [(0, .ref (ad 1))] → W p l e ({ frames := 3, cells := 0, slots := 0, locals := 64 } : Room) s m ([.ref (ad 1)] : List Value).toArray below meth c H locs 0 0 Q (F0 m 76 ls []) := by
          intro a1 H locs ls hd1 hd2 hP hD hS hl
          refine lv_aload_n hx hb dX12_goesOnTest_76 rfl (lv_at hl 0 rfl) ?_
          refine lv_aload_n hx hb dX12_goesOnTest_77 rfl (lv_at hl 0 rfl) ?_
          refine va_get (D := D) (ci := 11) (v := .ref (ad 17)) (C := RX12) (T := TX12) (N := 85) hx hb hts inX12 hown hK hP 0 mwd_o0 rfl 17 (by decide) fl42 (fun _ h9 => h9) rfl dX12_goesOnTest_78 ?_
          refine x_calliW (va_runV (As := [.ref (ad 17)]) (rest := []) ⟨hx, hb, hml, hown, hts⟩ (q_takes l D y H.size ad zw (sI (sI (sI (tI (sI σ 29 cd) 27 fc) 32 op) 31 ws) 2 a1) (ad 17) 3 10 (zw 17) (fun _ => rfl) (by decide) (by decide) (show 0 ≤ (a1).toInt from by first | omega | decide) (show (a1).toInt ≤ ((σ.1 3)).toInt from by first | omega | decide) (show ((σ.1 3)).toInt ≤ 700 from by first | omega | decide)) (cwV 1 hts g_q_goesOnTest_0 rfl rfl rfl (by decide +kernel) ⟨Nat.le_of_ble_eq_true rfl, Nat.le_of_ble_eq_true rfl⟩) (x_preV (q := (RX12, TX12, 85)) hK hP hD (ci := 11) (q0 := 0) rfl mwd_o0) rfl rfl hl.1 rfl (lv_room (Nat.le_of_ble_eq_true rfl)) dX12_goesOnTest_81 ⟨Nat.le_of_ble_eq_true rfl, Nat.le_of_ble_eq_true rfl⟩) hP hD hS hA (fun r_2 u H locs hw hP hD hS => ?_)
          obtain ⟨n_3, n_4⟩ := u
          try dsimp only at hw
          have hP : va_P D vwCl (mwd y ad zw (sI (sI (sI (sI (sI (tI (sI σ 29 cd) 27 fc) 32 op) 31 ws) 2 a1) 2 n_3) 4 n_4)) H := hP
          have hD : va_D A (mwd y ad zw (sI (sI (sI (sI (sI (tI (sI σ 29 cd) 27 fc) 32 op) 31 ws) 2 a1) 2 n_3) 4 n_4)) := hD
          replace hw : (a1).toInt ≤ n_3.toInt ∧ n_3.toInt ≤ ((σ.1 3)).toInt ∧ ((r_2.toInt = 0 ∧ n_4 = ((σ.1 4))) ∨ (r_2.toInt = 1 ∧ ((σ.1 5)).toInt = 0 ∧ (a1).toInt + 3 ≤ n_3.toInt)) := hw
          rcases hw with ⟨ht1, ht2, ⟨ht3, ht4⟩ | ⟨ht3, ht4, ht5⟩⟩
          · skip
            refine lv_if_eq (tgt := 126) hx hb dX12_goesOnTest_84 (by decide) (fun c_5 => ?_) (fun c_5 => ?_)
            · have kc_5 : r_2.toInt = 0 := by have h9 := c_5; simp only [ge_iff_le, gt_iff_lt, x_lt, x_le, x_eq, ne_eq, Int32.not_lt, Int32.not_le] at h9; simp only [Int32.reduceToInt] at h9; omega
              refine lv_aload_n hx hb dX12_goesOnTest_126 rfl (lv_at hl 0 rfl) ?_
              refine lv_aload_n hx hb dX12_goesOnTest_127 rfl (lv_at hl 0 rfl) ?_
              refine va_get (D := D) (ci := 11) (v := .ref (ad 18)) (C := RX12) (T := TX12) (N := 85) hx hb hts inX12 hown hK hP 0 mwd_o0 rfl 18 (by decide) fl45 (fun _ h9 => h9) rfl dX12_goesOnTest_128 ?_
              refine x_calliW (va_runV (As := [.ref (ad 18)]) (rest := []) ⟨hx, hb, hml, hown, hts⟩ (q_takes l D y H.size ad zw (sI (sI (sI (sI (sI (tI (sI σ 29 cd) 27 fc) 32 op) 31 ws) 2 a1) 2 n_3) 4 n_4) (ad 18) 2 11 (zw 18) (fun _ => rfl) (by decide) (by decide) (show 0 ≤ (n_3).toInt from by first | omega | decide) (show (n_3).toInt ≤ ((σ.1 3)).toInt from by first | omega | decide) (show ((σ.1 3)).toInt ≤ 700 from by first | omega | decide)) (cwV 1 hts g_q_goesOnTest_0 rfl rfl rfl (by decide +kernel) ⟨Nat.le_of_ble_eq_true rfl, Nat.le_of_ble_eq_true rfl⟩) (x_preV (q := (RX12, TX12, 85)) hK hP hD (ci := 11) (q0 := 0) rfl mwd_o0) rfl rfl hl.1 rfl (lv_room (Nat.le_of_ble_eq_true rfl)) dX12_goesOnTest_131 ⟨Nat.le_of_ble_eq_true rfl, Nat.le_of_ble_eq_true rfl⟩) hP hD hS hA (fun r_6 u H locs hw hP hD hS => ?_)
              obtain ⟨n_7, n_8⟩ := u
              try dsimp only at hw
              have hP : va_P D vwCl (mwd y ad zw (sI (sI (sI (sI (sI (sI (sI (tI (sI σ 29 cd) 27 fc) 32 op) 31 ws) 2 a1) 2 n_3) 4 n_4) 2 n_7) 4 n_8)) H := hP
              have hD : va_D A (mwd y ad zw (sI (sI (sI (sI (sI (sI (sI (tI (sI σ 29 cd) 27 fc) 32 op) 31 ws) 2 a1) 2 n_3) 4 n_4) 2 n_7) 4 n_8)) := hD
              replace hw : (n_3).toInt ≤ n_7.toInt ∧ n_7.toInt ≤ ((σ.1 3)).toInt ∧ ((r_6.toInt = 0 ∧ n_8 = (n_4)) ∨ (r_6.toInt = 1 ∧ ((σ.1 5)).toInt = 0 ∧ (n_3).toInt + 2 ≤ n_7.toInt)) := hw
              rcases hw with ⟨ht1, ht2, ⟨ht3, ht4⟩ | ⟨ht3, ht4, ht5⟩⟩
              · skip
                refine lv_if_eq (tgt := 185) hx hb dX12_goesOnTest_134 (by decide) (fun c_9 => ?_) (fun c_9 => ?_)
                · have kc_9 : r_6.toInt = 0 := by have h9 := c_9; simp only [ge_iff_le, gt_iff_lt, x_lt, x_le, x_eq, ne_eq, Int32.not_lt, Int32.not_le] at h9; simp only [Int32.reduceToInt] at h9; omega
                  refine lv_aload_n hx hb dX12_goesOnTest_185 rfl (lv_at hl 0 rfl) ?_
                  refine va_get (D := D) (ci := 11) (v := .int (σ.1 5)) (C := RX12) (T := TX12) (N := 85) hx hb hts inX12 hown hK hP 0 mwd_o0 rfl 5 (by decide) fl191 (fun _ h9 => h9) rfl dX12_goesOnTest_186 ?_
                  refine lv_if_ne (tgt := 208) hx hb dX12_goesOnTest_189 (by decide) (fun c_10 => ?_) (fun c_10 => ?_)
                  · have kc_10 : (σ.1 5).toInt ≠ 0 := by have h9 := c_10; simp only [ge_iff_le, gt_iff_lt, x_lt, x_le, x_eq, ne_eq, Int32.not_lt, Int32.not_le] at h9; simp only [Int32.reduceToInt] at h9; omega
                    exfalso
                    omega
                  · have kc_10 : (σ.1 5).toInt = 0 := by have h9 := c_10; simp only [ge_iff_le, gt_iff_lt, x_lt, x_le, x_eq, ne_eq, Int32.not_lt, Int32.not_le] at h9; simp only [Int32.reduceToInt] at h9; omega
                    refine lv_aload_n hx hb dX12_goesOnTest_192 rfl (lv_at hl 0 rfl) ?_
                    refine x_calliW (va_runV (As := []) (rest := []) ⟨hx, hb, hml, hown, hts⟩ (q_hasSquare l D y H.size ad zw (sI (sI (sI (sI (sI (sI (sI (tI (sI σ 29 cd) 27 fc) 32 op) 31 ws) 2 a1) 2 n_3) 4 n_4) 2 n_7) 4 n_8) (show 0 ≤ (ws).toInt from by first | omega | decide) (show (ws).toInt ≤ 800 from by first | omega | decide)) (cwV 0 hts g_q_goesOnTest_1 rfl rfl rfl (by decide +kernel) ⟨Nat.le_of_ble_eq_true rfl, Nat.le_of_ble_eq_true rfl⟩) (x_preV (q := (RX12, TX12, 85)) hK hP hD (ci := 11) (q0 := 0) rfl mwd_o0) rfl rfl hl.1 rfl (lv_room (Nat.le_of_ble_eq_true rfl)) dX12_goesOnTest_193 ⟨Nat.le_of_ble_eq_true rfl, Nat.le_of_ble_eq_true rfl⟩) hP hD hS hA (fun r_11 u H locs hw hP hD hS => ?_)
                    try dsimp only at hw
                    have hP : va_P D vwCl (mwd y ad zw (sI (sI (sI (sI (sI (sI (sI (tI (sI σ 29 cd) 27 fc) 32 op) 31 ws) 2 a1) 2 n_3) 4 n_4) 2 n_7) 4 n_8)) H := hP
                    have hD : va_D A (mwd y ad zw (sI (sI (sI (sI (sI (sI (sI (tI (sI σ 29 cd) 27 fc) 32 op) 31 ws) 2 a1) 2 n_3) 4 n_4) 2 n_7) 4 n_8)) := hD
                    replace hw : (r_11.toInt = 1 ∧ ∃ k : Nat, k < (ws).toInt.toNat ∧ (((σ.2.2.1 30)) k).toInt = 30) ∨ (r_11.toInt = 0 ∧ ∀ k : Nat, k < (ws).toInt.toNat → (((σ.2.2.1 30)) k).toInt ≠ 30) := hw
                    rcases hw with ⟨hs1, hs2⟩ | ⟨hs1, hs2⟩
                    · have hsq : SQ (σ.2.2.1 30) ws.toInt.toNat := hs2
                      clear hs2
                      refine lv_if_eq (tgt := 208) hx hb dX12_goesOnTest_196 (by decide) (fun c_12 => ?_) (fun c_12 => ?_)
                      · have kc_12 : r_11.toInt = 0 := by have h9 := c_12; simp only [ge_iff_le, gt_iff_lt, x_lt, x_le, x_eq, ne_eq, Int32.not_lt, Int32.not_le] at h9; simp only [Int32.reduceToInt] at h9; omega
                        exfalso
                        omega
                      · have kc_12 : r_11.toInt ≠ 0 := by have h9 := c_12; simp only [ge_iff_le, gt_iff_lt, x_lt, x_le, x_eq, ne_eq, Int32.not_lt, Int32.not_le] at h9; simp only [Int32.reduceToInt] at h9; omega
                        refine lv_aload_n hx hb dX12_goesOnTest_199 rfl (lv_at hl 0 rfl) ?_
                        refine lv_iconst (v := 1) hx hb dX12_goesOnTest_200 (by decide) ?_
                        refine lv_aload_n hx hb dX12_goesOnTest_201 rfl (lv_at hl 0 rfl) ?_
                        refine va_get (D := D) (ci := 11) (v := .int n_7) (C := RX12) (T := TX12) (N := 85) hx hb hts inX12 hown hK hP 0 mwd_o0 rfl 2 (by decide) fl197 (fun _ h9 => h9) rfl dX12_goesOnTest_202 ?_
                        refine x_callvW (va_runV (As := [.int 1, .int n_7]) (rest := []) ⟨hx, hb, hml, hown, hts⟩ (q_fail l D y H.size ad zw (sI (sI (sI (sI (sI (sI (sI (tI (sI σ 29 cd) 27 fc) 32 op) 31 ws) 2 a1) 2 n_3) 4 n_4) 2 n_7) 4 n_8) 1 n_7) (cwV 2 hts g_q_goesOnTest_2 rfl rfl rfl (by decide +kernel) ⟨Nat.le_of_ble_eq_true rfl, Nat.le_of_ble_eq_true rfl⟩) (x_preV (q := (RX12, TX12, 85)) hK hP hD (ci := 11) (q0 := 0) rfl mwd_o0) rfl rfl hl.1 rfl (lv_room (Nat.le_of_ble_eq_true rfl)) dX12_goesOnTest_205 ⟨Nat.le_of_ble_eq_true rfl, Nat.le_of_ble_eq_true rfl⟩) hP hD hS hA (fun u H locs hw hP hD hS => ?_)
                        obtain ⟨b_13, b_14⟩ := u
                        try dsimp only at hw
                        have hP : va_P D vwCl (mwd y ad zw (sI (sI (sI (sI (sI (sI (sI (sI (sI (tI (sI σ 29 cd) 27 fc) 32 op) 31 ws) 2 a1) 2 n_3) 4 n_4) 2 n_7) 4 n_8) 5 b_13) 6 b_14)) H := hP
                        have hD : va_D A (mwd y ad zw (sI (sI (sI (sI (sI (sI (sI (sI (sI (tI (sI σ 29 cd) 27 fc) 32 op) 31 ws) 2 a1) 2 n_3) 4 n_4) 2 n_7) 4 n_8) 5 b_13) 6 b_14)) := hD
                        replace hw : b_13 = if (σ.1 5) = 0 then (1 : Int32) else (σ.1 5) := hw
                        have hbd : b_13.toInt ≠ 0 := by rw [hw]; split <;> first | decide | (rename_i h9; intro h8; exact h9 (Int32.toInt_inj.mp (by rw [h8]; rfl)))
                        clear hw
                        refine lv_iconst (v := 0) hx hb dX12_goesOnTest_208 (by decide) ?_
                        have hP : va_P D vwCl (mwd y ad zw (sI (tI (sI (tI (sI (sI (sI (sI (sI σ 2 n_7) 4 n_8) 5 b_13) 6 b_14) 29 cd) 27 fc) 32 op) 30 (σ.2.2.1 30)) 31 ws)) H := hP
                        have hD : va_D A (mwd y ad zw (sI (tI (sI (tI (sI (sI (sI (sI (sI σ 2 n_7) 4 n_8) 5 b_13) 6 b_14) 29 cd) 27 fc) 32 op) 30 (σ.2.2.1 30)) 31 ws)) := hD
                        exact x_zretW (v := 0) (u := (n_7, n_8, b_13, b_14, cd, fc, op, (σ.2.2.1 30), ws)) hx hb hr hQ rfl (by (try dsimp only); exact ⟨by omega, by omega, by omega, by omega, by omega, by omega, by omega, by omega, fun h9 => absurd h9 (by omega)⟩) hP hD hK hS dX12_goesOnTest_209 hlocks
                    · refine lv_if_eq (tgt := 208) hx hb dX12_goesOnTest_196 (by decide) (fun c_15 => ?_) (fun c_15 => ?_)
                      · have kc_15 : r_11.toInt = 0 := by have h9 := c_15; simp only [ge_iff_le, gt_iff_lt, x_lt, x_le, x_eq, ne_eq, Int32.not_lt, Int32.not_le] at h9; simp only [Int32.reduceToInt] at h9; omega
                        refine lv_iconst (v := 0) hx hb dX12_goesOnTest_208 (by decide) ?_
                        have hP : va_P D vwCl (mwd y ad zw (sI (tI (sI (tI (sI (sI (sI (sI (sI σ 2 n_7) 4 n_8) 5 (σ.1 5)) 6 (σ.1 6)) 29 cd) 27 fc) 32 op) 30 (σ.2.2.1 30)) 31 ws)) H := hP
                        have hD : va_D A (mwd y ad zw (sI (tI (sI (tI (sI (sI (sI (sI (sI σ 2 n_7) 4 n_8) 5 (σ.1 5)) 6 (σ.1 6)) 29 cd) 27 fc) 32 op) 30 (σ.2.2.1 30)) 31 ws)) := hD
                        exact x_zretW (v := 0) (u := (n_7, n_8, (σ.1 5), (σ.1 6), cd, fc, op, (σ.2.2.1 30), ws)) hx hb hr hQ rfl (by (try dsimp only); exact ⟨by omega, by omega, by omega, by omega, by omega, by omega, by omega, by omega, fun h9 => ⟨fun h8 => absurd h8 (by decide), fun _ => ⟨hE, hNK, hs2⟩⟩⟩) hP hD hK hS dX12_goesOnTest_209 hlocks
                      · have kc_15 : r_11.toInt ≠ 0 := by have h9 := c_15; simp only [ge_iff_le, gt_iff_lt, x_lt, x_le, x_eq, ne_eq, Int32.not_lt, Int32.not_le] at h9; simp only [Int32.reduceToInt] at h9; omega
                        exfalso
                        omega
                · have kc_9 : r_6.toInt ≠ 0 := by have h9 := c_9; simp only [ge_iff_le, gt_iff_lt, x_lt, x_le, x_eq, ne_eq, Int32.not_lt, Int32.not_le] at h9; simp only [Int32.reduceToInt] at h9; omega
                  exfalso
                  omega
              · skip
                refine lv_if_eq (tgt := 185) hx hb dX12_goesOnTest_134 (by decide) (fun c_16 => ?_) (fun c_16 => ?_)
                · have kc_16 : r_6.toInt = 0 := by have h9 := c_16; simp only [ge_iff_le, gt_iff_lt, x_lt, x_le, x_eq, ne_eq, Int32.not_lt, Int32.not_le] at h9; simp only [Int32.reduceToInt] at h9; omega
                  exfalso
                  omega
                · have kc_16 : r_6.toInt ≠ 0 := by have h9 := c_16; simp only [ge_iff_le, gt_iff_lt, x_lt, x_le, x_eq, ne_eq, Int32.not_lt, Int32.not_le] at h9; simp only [Int32.reduceToInt] at h9; omega
                  have hP : va_P D vwCl (mwd y ad zw (sI (tI (sI (sI (sI (sI σ 32 op) 2 n_7) 4 n_8) 29 cd) 27 fc) 31 ws)) H := hP
                  have hD : va_D A (mwd y ad zw (sI (tI (sI (sI (sI (sI σ 32 op) 2 n_7) 4 n_8) 29 cd) 27 fc) 31 ws)) := hD
                  have loop4 : ∀ (fu : Nat) (cd2 : Int32) (fc2 : Nat → Int32) (ws2 : Int32) (H : Heap) (locs : List Loc) (ls : Array Slot), (0 ≤ ws2.toInt) → ((σ.1 29).toInt ≤ cd2.toInt) → (cd2.toInt + ws2.toInt = cd.toInt + ws.toInt) → (TS f0 fc2 (σ.2.2.1 30) c0 cd2.toInt.toNat ws2.toInt.toNat 1 X op.toInt o0) → (NK (σ.2.2.1 30) ws2.toInt.toNat) → (ws2.toInt < (fu : Int)) → va_P D vwCl (mwd y ad zw (sI (tI (sI (sI (sI (sI σ 32 op) 2 n_7) 4 n_8) 29 cd2) 27 fc2) 31 ws2)) H → va_D A (mwd y ad zw (sI (tI (sI (sI (sI (sI σ 32 op) 2 n_7) 4 n_8) 29 cd2) 27 fc2) 31 ws2)) → va_S A s.heap H locs → lv_has ls 1 [(0, .ref (ad 1))] → W p l e ({ frames := 3, cells := 0, slots := 0, locals := 64 } : Room) s m ([.ref (ad 1)] : List Value).toArray below meth c H locs 0 0 Q (F0 m 137 ls []) := by
                    intro fu
                    induction fu with
                    | zero =>
                      intro cd2 fc2 ws2 H locs ls hW2 hC2 hp2 hE2 hN2 hm
                      exact absurd hm (by omega)
                    | succ fu ih_loop4 =>
                      intro cd2 fc2 ws2 H locs ls hW2 hC2 hp2 hE2 hN2 hm hP hD hS hl
                      refine lv_aload_n hx hb dX12_goesOnTest_137 rfl (lv_at hl 0 rfl) ?_
                      refine lv_bipush (v := 14) hx hb dX12_goesOnTest_138 (by decide) ?_
                      refine x_calliW (va_runV (As := [.int 14]) (rest := []) ⟨hx, hb, hml, hown, hts⟩ (q_isOn l D y H.size ad zw (sI (tI (sI (sI (sI (sI σ 32 op) 2 n_7) 4 n_8) 29 cd2) 27 fc2) 31 ws2) 14 (show 0 ≤ (ws2).toInt from by first | omega | decide) (show (ws2).toInt ≤ 800 from by first | omega | decide)) (cwV 1 hts g_q_goesOnTest_3 rfl rfl rfl (by decide +kernel) ⟨Nat.le_of_ble_eq_true rfl, Nat.le_of_ble_eq_true rfl⟩) (x_preV (q := (RX12, TX12, 85)) hK hP hD (ci := 11) (q0 := 0) rfl mwd_o0) rfl rfl hl.1 rfl (lv_room (Nat.le_of_ble_eq_true rfl)) dX12_goesOnTest_140 ⟨Nat.le_of_ble_eq_true rfl, Nat.le_of_ble_eq_true rfl⟩) hP hD hS hA (fun r_17 u H locs hw hP hD hS => ?_)
                      try dsimp only at hw
                      have hP : va_P D vwCl (mwd y ad zw (sI (tI (sI (sI (sI (sI σ 32 op) 2 n_7) 4 n_8) 29 cd2) 27 fc2) 31 ws2)) H := hP
                      have hD : va_D A (mwd y ad zw (sI (tI (sI (sI (sI (sI σ 32 op) 2 n_7) 4 n_8) 29 cd2) 27 fc2) 31 ws2)) := hD
                      replace hw : (r_17.toInt = 0 ∧ ((ws2).toInt ≤ 0 ∨ (((σ.2.2.1 30)) ((ws2).toInt.toNat - 1)).toInt ≠ (14 : Int32).toInt)) ∨ (r_17.toInt = 1 ∧ 1 ≤ (ws2).toInt ∧ (((σ.2.2.1 30)) ((ws2).toInt.toNat - 1)).toInt = (14 : Int32).toInt) := hw
                      have lv : (14 : Int32).toInt = 14 := rfl
                      rcases hw with ⟨hi1, hi2⟩ | ⟨hi1, hi2, hi3⟩
                      · clear hi2
                        refine lv_if_ne (tgt := 155) hx hb dX12_goesOnTest_143 (by decide) (fun c_18 => ?_) (fun c_18 => ?_)
                        · have kc_18 : r_17.toInt ≠ 0 := by have h9 := c_18; simp only [ge_iff_le, gt_iff_lt, x_lt, x_le, x_eq, ne_eq, Int32.not_lt, Int32.not_le] at h9; simp only [Int32.reduceToInt] at h9; omega
                          exfalso
                          omega
                        · have kc_18 : r_17.toInt = 0 := by have h9 := c_18; simp only [ge_iff_le, gt_iff_lt, x_lt, x_le, x_eq, ne_eq, Int32.not_lt, Int32.not_le] at h9; simp only [Int32.reduceToInt] at h9; omega
                          refine lv_aload_n hx hb dX12_goesOnTest_146 rfl (lv_at hl 0 rfl) ?_
                          refine lv_bipush (v := 15) hx hb dX12_goesOnTest_147 (by decide) ?_
                          refine x_calliW (va_runV (As := [.int 15]) (rest := []) ⟨hx, hb, hml, hown, hts⟩ (q_isOn l D y H.size ad zw (sI (tI (sI (sI (sI (sI σ 32 op) 2 n_7) 4 n_8) 29 cd2) 27 fc2) 31 ws2) 15 (show 0 ≤ (ws2).toInt from by first | omega | decide) (show (ws2).toInt ≤ 800 from by first | omega | decide)) (cwV 1 hts g_q_goesOnTest_3 rfl rfl rfl (by decide +kernel) ⟨Nat.le_of_ble_eq_true rfl, Nat.le_of_ble_eq_true rfl⟩) (x_preV (q := (RX12, TX12, 85)) hK hP hD (ci := 11) (q0 := 0) rfl mwd_o0) rfl rfl hl.1 rfl (lv_room (Nat.le_of_ble_eq_true rfl)) dX12_goesOnTest_149 ⟨Nat.le_of_ble_eq_true rfl, Nat.le_of_ble_eq_true rfl⟩) hP hD hS hA (fun r_19 u H locs hw hP hD hS => ?_)
                          try dsimp only at hw
                          have hP : va_P D vwCl (mwd y ad zw (sI (tI (sI (sI (sI (sI σ 32 op) 2 n_7) 4 n_8) 29 cd2) 27 fc2) 31 ws2)) H := hP
                          have hD : va_D A (mwd y ad zw (sI (tI (sI (sI (sI (sI σ 32 op) 2 n_7) 4 n_8) 29 cd2) 27 fc2) 31 ws2)) := hD
                          replace hw : (r_19.toInt = 0 ∧ ((ws2).toInt ≤ 0 ∨ (((σ.2.2.1 30)) ((ws2).toInt.toNat - 1)).toInt ≠ (15 : Int32).toInt)) ∨ (r_19.toInt = 1 ∧ 1 ≤ (ws2).toInt ∧ (((σ.2.2.1 30)) ((ws2).toInt.toNat - 1)).toInt = (15 : Int32).toInt) := hw
                          have lv : (15 : Int32).toInt = 15 := rfl
                          rcases hw with ⟨hi1, hi2⟩ | ⟨hi1, hi2, hi3⟩
                          · clear hi2
                            refine lv_if_eq (tgt := 162) hx hb dX12_goesOnTest_152 (by decide) (fun c_20 => ?_) (fun c_20 => ?_)
                            · have kc_20 : r_19.toInt = 0 := by have h9 := c_20; simp only [ge_iff_le, gt_iff_lt, x_lt, x_le, x_eq, ne_eq, Int32.not_lt, Int32.not_le] at h9; simp only [Int32.reduceToInt] at h9; omega
                              refine lv_aload_n hx hb dX12_goesOnTest_162 rfl (lv_at hl 0 rfl) ?_
                              refine va_get (D := D) (ci := 11) (v := .ref (ad 30)) (C := RX12) (T := TX12) (N := 85) hx hb hts inX12 hown hK hP 0 mwd_o0 rfl 30 (by decide) fl75 (fun _ h9 => h9) rfl dX12_goesOnTest_163 ?_
                              refine lv_aload_n hx hb dX12_goesOnTest_166 rfl (lv_at hl 0 rfl) ?_
                              refine va_get (D := D) (ci := 11) (v := .int ws2) (C := RX12) (T := TX12) (N := 85) hx hb hts inX12 hown hK hP 0 mwd_o0 rfl 31 (by decide) fl263 (fun _ h9 => h9) rfl dX12_goesOnTest_167 ?_
                              refine lv_bipush (v := 15) hx hb dX12_goesOnTest_170 (by decide) ?_
                              refine va_iast hx hb hK hP hD hS 21 2 mwd_a21 rfl (x_in (by omega) (by omega)) dX12_goesOnTest_172 (fun H locs hP hD hS => ?_)
                              obtain ⟨f_21, ef_21⟩ : ∃ z9 : Nat → Int32, z9 = (upd (σ.2.2.1 30) (Int32.toNatClampNeg ws2) 15) := ⟨_, rfl⟩
                              have hP : va_P D vwCl (mwd y ad zw (tI (sI (tI (sI (sI (sI (sI σ 32 op) 2 n_7) 4 n_8) 29 cd2) 27 fc2) 31 ws2) 30 f_21)) H := by rw [ef_21]; exact x_trP hP mwd_s21
                              have hD : va_D A (mwd y ad zw (tI (sI (tI (sI (sI (sI (sI σ 32 op) 2 n_7) 4 n_8) 29 cd2) 27 fc2) 31 ws2) 30 f_21)) := by rw [ef_21]; exact x_trD hD mwd_s21
                              rw [x_cl (n := ws2.toInt.toNat) (by omega)] at ef_21
                              refine lv_aload_n hx hb dX12_goesOnTest_173 rfl (lv_at hl 0 rfl) ?_
                              refine lv_dup hx hb dX12_goesOnTest_174 rfl ?_
                              refine va_get (D := D) (ci := 11) (v := .int ws2) (C := RX12) (T := TX12) (N := 85) hx hb hts inX12 hown hK hP 0 mwd_o0 rfl 31 (by decide) fl263 (fun _ h9 => h9) rfl dX12_goesOnTest_175 ?_
                              refine lv_iconst (v := 1) hx hb dX12_goesOnTest_178 (by decide) ?_
                              refine lv_iadd hx hb dX12_goesOnTest_179 ?_
                              refine lv_topi (fun i_22 ei_22 => ?_)
                              have vi_22 : i_22.toInt = ws2.toInt + 1 := by have h9 := x_add ei_22 (by omega) (by omega); omega
                              refine va_put (D := D) (ci := 11) (v := .int i_22) (ty := .int) (C := RX12) (T := TX12) (N := 85) hx hb hts inX12 tyX12 tyX12_ok nmX12 hown hK hP hD hS 0 mwd_o0 rfl 31 (by decide) fl263 (fun _ h9 => h9) rfl (by decide +kernel) rfl rfl (Nat.le_of_ble_eq_true rfl) dX12_goesOnTest_180 (fun H locs hP hD hS => ?_)
                              have hP : va_P D vwCl (mwd y ad zw (sI (tI (sI (tI (sI (sI (sI (sI σ 32 op) 2 n_7) 4 n_8) 29 cd2) 27 fc2) 31 ws2) 30 f_21) 31 i_22)) H := x_trP hP mwd_p0_31
                              have hD : va_D A (mwd y ad zw (sI (tI (sI (tI (sI (sI (sI (sI σ 32 op) 2 n_7) 4 n_8) 29 cd2) 27 fc2) 31 ws2) 30 f_21) 31 i_22)) := x_trD hD mwd_p0_31
                              refine lv_iconst (v := 1) hx hb dX12_goesOnTest_183 (by decide) ?_
                              have hP : va_P D vwCl (mwd y ad zw (sI (tI (sI (tI (sI (sI (sI (sI (sI σ 2 n_7) 4 n_8) 5 (σ.1 5)) 6 (σ.1 6)) 29 cd2) 27 fc2) 32 op) 30 f_21) 31 i_22)) H := hP
                              have hD : va_D A (mwd y ad zw (sI (tI (sI (tI (sI (sI (sI (sI (sI σ 2 n_7) 4 n_8) 5 (σ.1 5)) 6 (σ.1 6)) 29 cd2) 27 fc2) 32 op) 30 f_21) 31 i_22)) := hD
                              exact x_zretW (v := 1) (u := (n_7, n_8, (σ.1 5), (σ.1 6), cd2, fc2, op, f_21, i_22)) hx hb hr hQ rfl (by (try dsimp only); exact ⟨by omega, by omega, by omega, by omega, by omega, by omega, by omega, by omega, fun h9 => ⟨fun _ => ⟨by omega, by rw [ef_21, show i_22.toInt.toNat = ws2.toInt.toNat + 1 by omega]; exact TS_push hE2 (by first | exact Or.inl rfl | exact Or.inr rfl), by rw [ef_21, show i_22.toInt.toNat = ws2.toInt.toNat + 1 by omega]; exact NT_push hN2⟩, fun h8 => absurd h8 (by decide)⟩⟩) hP hD hK hS dX12_goesOnTest_184 hlocks
                            · have kc_20 : r_19.toInt ≠ 0 := by have h9 := c_20; simp only [ge_iff_le, gt_iff_lt, x_lt, x_le, x_eq, ne_eq, Int32.not_lt, Int32.not_le] at h9; simp only [Int32.reduceToInt] at h9; omega
                              exfalso
                              omega
                          · have h3x : ((σ.2.2.1 30) (ws2.toInt.toNat - 1)).toInt ≠ 30 := by omega
                            have hto : 14 ≤ ((σ.2.2.1 30) (ws2.toInt.toNat - 1)).toInt ∧ ((σ.2.2.1 30) (ws2.toInt.toNat - 1)).toInt ≤ 15 := ⟨by omega, by omega⟩
                            refine lv_if_eq (tgt := 162) hx hb dX12_goesOnTest_152 (by decide) (fun c_23 => ?_) (fun c_23 => ?_)
                            · have kc_23 : r_19.toInt = 0 := by have h9 := c_23; simp only [ge_iff_le, gt_iff_lt, x_lt, x_le, x_eq, ne_eq, Int32.not_lt, Int32.not_le] at h9; simp only [Int32.reduceToInt] at h9; omega
                              exfalso
                              omega
                            · have kc_23 : r_19.toInt ≠ 0 := by have h9 := c_23; simp only [ge_iff_le, gt_iff_lt, x_lt, x_le, x_eq, ne_eq, Int32.not_lt, Int32.not_le] at h9; simp only [Int32.reduceToInt] at h9; omega
                              refine lv_aload_n hx hb dX12_goesOnTest_155 rfl (lv_at hl 0 rfl) ?_
                              refine x_callvW (va_runV (As := []) (rest := []) ⟨hx, hb, hml, hown, hts⟩ (q_drops l D y H.size ad zw (sI (tI (sI (sI (sI (sI σ 32 op) 2 n_7) 4 n_8) 29 cd2) 27 fc2) 31 ws2) (show 1 ≤ (ws2).toInt from by first | omega | decide) (show (ws2).toInt ≤ 800 from by first | omega | decide) (show 0 ≤ (cd2).toInt from by first | omega | decide) (show (cd2).toInt < 1200 from by first | omega | decide)) (cwV 0 hts g_q_goesOnTest_4 rfl rfl rfl (by decide +kernel) ⟨Nat.le_of_ble_eq_true rfl, Nat.le_of_ble_eq_true rfl⟩) (x_preV (q := (RX12, TX12, 85)) hK hP hD (ci := 11) (q0 := 0) rfl mwd_o0) rfl rfl hl.1 rfl (lv_room (Nat.le_of_ble_eq_true rfl)) dX12_goesOnTest_156 ⟨Nat.le_of_ble_eq_true rfl, Nat.le_of_ble_eq_true rfl⟩) hP hD hS hA (fun u H locs hw hP hD hS => ?_)
                              obtain ⟨n_24, n_25, f_26⟩ := u
                              try dsimp only at hw
                              have hP : va_P D vwCl (mwd y ad zw (tI (sI (sI (sI (tI (sI (sI (sI (sI σ 32 op) 2 n_7) 4 n_8) 29 cd2) 27 fc2) 31 ws2) 31 n_24) 29 n_25) 27 f_26)) H := hP
                              have hD : va_D A (mwd y ad zw (tI (sI (sI (sI (tI (sI (sI (sI (sI σ 32 op) 2 n_7) 4 n_8) 29 cd2) 27 fc2) 31 ws2) 31 n_24) 29 n_25) 27 f_26)) := hD
                              replace hw : n_24.toInt = (ws2).toInt - 1 ∧ n_25.toInt = (cd2).toInt + 1 ∧ f_26 = upd (fc2) (cd2).toInt.toNat (((σ.2.2.1 30)) ((ws2).toInt.toNat - 1)) := hw
                              refine lv_goto (tgt := 137) hx hb dX12_goesOnTest_159 (by decide) ?_
                              have hP : va_P D vwCl (mwd y ad zw (sI (tI (sI (sI (sI (sI σ 32 op) 2 n_7) 4 n_8) 29 n_25) 27 f_26) 31 n_24)) H := hP
                              have hD : va_D A (mwd y ad zw (sI (tI (sI (sI (sI (sI σ 32 op) 2 n_7) 4 n_8) 29 n_25) 27 f_26) 31 n_24)) := hD
                              exact ih_loop4 n_25 f_26 n_24 H locs ls (by omega) (by omega) (by omega) (by obtain ⟨h7, h6, h5⟩ := hw; rw [h5, show n_25.toInt.toNat = cd2.toInt.toNat + 1 by omega, show n_24.toInt.toNat = ws2.toInt.toNat - 1 by omega]; exact TS_ao hE2 (by omega) hto hX1) (by rw [show n_24.toInt.toNat = ws2.toInt.toNat - 1 by omega]; exact NK_drop hN2 (by omega) h3x) (by omega) hP hD hS (lv_sub hl [0] rfl)
                      · have h3x : ((σ.2.2.1 30) (ws2.toInt.toNat - 1)).toInt ≠ 30 := by omega
                        have hto : 14 ≤ ((σ.2.2.1 30) (ws2.toInt.toNat - 1)).toInt ∧ ((σ.2.2.1 30) (ws2.toInt.toNat - 1)).toInt ≤ 15 := ⟨by omega, by omega⟩
                        refine lv_if_ne (tgt := 155) hx hb dX12_goesOnTest_143 (by decide) (fun c_27 => ?_) (fun c_27 => ?_)
                        · have kc_27 : r_17.toInt ≠ 0 := by have h9 := c_27; simp only [ge_iff_le, gt_iff_lt, x_lt, x_le, x_eq, ne_eq, Int32.not_lt, Int32.not_le] at h9; simp only [Int32.reduceToInt] at h9; omega
                          refine lv_aload_n hx hb dX12_goesOnTest_155 rfl (lv_at hl 0 rfl) ?_
                          refine x_callvW (va_runV (As := []) (rest := []) ⟨hx, hb, hml, hown, hts⟩ (q_drops l D y H.size ad zw (sI (tI (sI (sI (sI (sI σ 32 op) 2 n_7) 4 n_8) 29 cd2) 27 fc2) 31 ws2) (show 1 ≤ (ws2).toInt from by first | omega | decide) (show (ws2).toInt ≤ 800 from by first | omega | decide) (show 0 ≤ (cd2).toInt from by first | omega | decide) (show (cd2).toInt < 1200 from by first | omega | decide)) (cwV 0 hts g_q_goesOnTest_4 rfl rfl rfl (by decide +kernel) ⟨Nat.le_of_ble_eq_true rfl, Nat.le_of_ble_eq_true rfl⟩) (x_preV (q := (RX12, TX12, 85)) hK hP hD (ci := 11) (q0 := 0) rfl mwd_o0) rfl rfl hl.1 rfl (lv_room (Nat.le_of_ble_eq_true rfl)) dX12_goesOnTest_156 ⟨Nat.le_of_ble_eq_true rfl, Nat.le_of_ble_eq_true rfl⟩) hP hD hS hA (fun u H locs hw hP hD hS => ?_)
                          obtain ⟨n_28, n_29, f_30⟩ := u
                          try dsimp only at hw
                          have hP : va_P D vwCl (mwd y ad zw (tI (sI (sI (sI (tI (sI (sI (sI (sI σ 32 op) 2 n_7) 4 n_8) 29 cd2) 27 fc2) 31 ws2) 31 n_28) 29 n_29) 27 f_30)) H := hP
                          have hD : va_D A (mwd y ad zw (tI (sI (sI (sI (tI (sI (sI (sI (sI σ 32 op) 2 n_7) 4 n_8) 29 cd2) 27 fc2) 31 ws2) 31 n_28) 29 n_29) 27 f_30)) := hD
                          replace hw : n_28.toInt = (ws2).toInt - 1 ∧ n_29.toInt = (cd2).toInt + 1 ∧ f_30 = upd (fc2) (cd2).toInt.toNat (((σ.2.2.1 30)) ((ws2).toInt.toNat - 1)) := hw
                          refine lv_goto (tgt := 137) hx hb dX12_goesOnTest_159 (by decide) ?_
                          have hP : va_P D vwCl (mwd y ad zw (sI (tI (sI (sI (sI (sI σ 32 op) 2 n_7) 4 n_8) 29 n_29) 27 f_30) 31 n_28)) H := hP
                          have hD : va_D A (mwd y ad zw (sI (tI (sI (sI (sI (sI σ 32 op) 2 n_7) 4 n_8) 29 n_29) 27 f_30) 31 n_28)) := hD
                          exact ih_loop4 n_29 f_30 n_28 H locs ls (by omega) (by omega) (by omega) (by obtain ⟨h7, h6, h5⟩ := hw; rw [h5, show n_29.toInt.toNat = cd2.toInt.toNat + 1 by omega, show n_28.toInt.toNat = ws2.toInt.toNat - 1 by omega]; exact TS_ao hE2 (by omega) hto hX1) (by rw [show n_28.toInt.toNat = ws2.toInt.toNat - 1 by omega]; exact NK_drop hN2 (by omega) h3x) (by omega) hP hD hS (lv_sub hl [0] rfl)
                        · have kc_27 : r_17.toInt = 0 := by have h9 := c_27; simp only [ge_iff_le, gt_iff_lt, x_lt, x_le, x_eq, ne_eq, Int32.not_lt, Int32.not_le] at h9; simp only [Int32.reduceToInt] at h9; omega
                          exfalso
                          omega
                  exact loop4 801 cd fc ws H locs ls (by omega) (by omega) (by omega) hE hNK (by omega) hP hD hS (lv_sub hl [0] rfl)
            · have kc_5 : r_2.toInt ≠ 0 := by have h9 := c_5; simp only [ge_iff_le, gt_iff_lt, x_lt, x_le, x_eq, ne_eq, Int32.not_lt, Int32.not_le] at h9; simp only [Int32.reduceToInt] at h9; omega
              exfalso
              omega
          · skip
            refine lv_if_eq (tgt := 126) hx hb dX12_goesOnTest_84 (by decide) (fun c_31 => ?_) (fun c_31 => ?_)
            · have kc_31 : r_2.toInt = 0 := by have h9 := c_31; simp only [ge_iff_le, gt_iff_lt, x_lt, x_le, x_eq, ne_eq, Int32.not_lt, Int32.not_le] at h9; simp only [Int32.reduceToInt] at h9; omega
              exfalso
              omega
            · have kc_31 : r_2.toInt ≠ 0 := by have h9 := c_31; simp only [ge_iff_le, gt_iff_lt, x_lt, x_le, x_eq, ne_eq, Int32.not_lt, Int32.not_le] at h9; simp only [Int32.reduceToInt] at h9; omega
              have hP : va_P D vwCl (mwd y ad zw (sI (tI (sI (sI (sI (sI σ 32 op) 2 n_3) 4 n_4) 29 cd) 27 fc) 31 ws)) H := hP
              have hD : va_D A (mwd y ad zw (sI (tI (sI (sI (sI (sI σ 32 op) 2 n_3) 4 n_4) 29 cd) 27 fc) 31 ws)) := hD
              have loop3 : ∀ (fu : Nat) (cd2 : Int32) (fc2 : Nat → Int32) (ws2 : Int32) (H : Heap) (locs : List Loc) (ls : Array Slot), (0 ≤ ws2.toInt) → ((σ.1 29).toInt ≤ cd2.toInt) → (cd2.toInt + ws2.toInt = cd.toInt + ws.toInt) → (TS f0 fc2 (σ.2.2.1 30) c0 cd2.toInt.toNat ws2.toInt.toNat 1 X op.toInt o0) → (NK (σ.2.2.1 30) ws2.toInt.toNat) → (ws2.toInt < (fu : Int)) → va_P D vwCl (mwd y ad zw (sI (tI (sI (sI (sI (sI σ 32 op) 2 n_3) 4 n_4) 29 cd2) 27 fc2) 31 ws2)) H → va_D A (mwd y ad zw (sI (tI (sI (sI (sI (sI σ 32 op) 2 n_3) 4 n_4) 29 cd2) 27 fc2) 31 ws2)) → va_S A s.heap H locs → lv_has ls 1 [(0, .ref (ad 1))] → W p l e ({ frames := 3, cells := 0, slots := 0, locals := 64 } : Room) s m ([.ref (ad 1)] : List Value).toArray below meth c H locs 0 0 Q (F0 m 87 ls []) := by
                intro fu
                induction fu with
                | zero =>
                  intro cd2 fc2 ws2 H locs ls hW2 hC2 hp2 hE2 hN2 hm
                  exact absurd hm (by omega)
                | succ fu ih_loop3 =>
                  intro cd2 fc2 ws2 H locs ls hW2 hC2 hp2 hE2 hN2 hm hP hD hS hl
                  refine lv_aload_n hx hb dX12_goesOnTest_87 rfl (lv_at hl 0 rfl) ?_
                  refine lv_bipush (v := 14) hx hb dX12_goesOnTest_88 (by decide) ?_
                  refine x_calliW (va_runV (As := [.int 14]) (rest := []) ⟨hx, hb, hml, hown, hts⟩ (q_isOn l D y H.size ad zw (sI (tI (sI (sI (sI (sI σ 32 op) 2 n_3) 4 n_4) 29 cd2) 27 fc2) 31 ws2) 14 (show 0 ≤ (ws2).toInt from by first | omega | decide) (show (ws2).toInt ≤ 800 from by first | omega | decide)) (cwV 1 hts g_q_goesOnTest_3 rfl rfl rfl (by decide +kernel) ⟨Nat.le_of_ble_eq_true rfl, Nat.le_of_ble_eq_true rfl⟩) (x_preV (q := (RX12, TX12, 85)) hK hP hD (ci := 11) (q0 := 0) rfl mwd_o0) rfl rfl hl.1 rfl (lv_room (Nat.le_of_ble_eq_true rfl)) dX12_goesOnTest_90 ⟨Nat.le_of_ble_eq_true rfl, Nat.le_of_ble_eq_true rfl⟩) hP hD hS hA (fun r_32 u H locs hw hP hD hS => ?_)
                  try dsimp only at hw
                  have hP : va_P D vwCl (mwd y ad zw (sI (tI (sI (sI (sI (sI σ 32 op) 2 n_3) 4 n_4) 29 cd2) 27 fc2) 31 ws2)) H := hP
                  have hD : va_D A (mwd y ad zw (sI (tI (sI (sI (sI (sI σ 32 op) 2 n_3) 4 n_4) 29 cd2) 27 fc2) 31 ws2)) := hD
                  replace hw : (r_32.toInt = 0 ∧ ((ws2).toInt ≤ 0 ∨ (((σ.2.2.1 30)) ((ws2).toInt.toNat - 1)).toInt ≠ (14 : Int32).toInt)) ∨ (r_32.toInt = 1 ∧ 1 ≤ (ws2).toInt ∧ (((σ.2.2.1 30)) ((ws2).toInt.toNat - 1)).toInt = (14 : Int32).toInt) := hw
                  have lv : (14 : Int32).toInt = 14 := rfl
                  rcases hw with ⟨hi1, hi2⟩ | ⟨hi1, hi2, hi3⟩
                  · clear hi2
                    refine lv_if_eq (tgt := 103) hx hb dX12_goesOnTest_93 (by decide) (fun c_33 => ?_) (fun c_33 => ?_)
                    · have kc_33 : r_32.toInt = 0 := by have h9 := c_33; simp only [ge_iff_le, gt_iff_lt, x_lt, x_le, x_eq, ne_eq, Int32.not_lt, Int32.not_le] at h9; simp only [Int32.reduceToInt] at h9; omega
                      refine lv_aload_n hx hb dX12_goesOnTest_103 rfl (lv_at hl 0 rfl) ?_
                      refine va_get (D := D) (ci := 11) (v := .ref (ad 30)) (C := RX12) (T := TX12) (N := 85) hx hb hts inX12 hown hK hP 0 mwd_o0 rfl 30 (by decide) fl75 (fun _ h9 => h9) rfl dX12_goesOnTest_104 ?_
                      refine lv_aload_n hx hb dX12_goesOnTest_107 rfl (lv_at hl 0 rfl) ?_
                      refine va_get (D := D) (ci := 11) (v := .int ws2) (C := RX12) (T := TX12) (N := 85) hx hb hts inX12 hown hK hP 0 mwd_o0 rfl 31 (by decide) fl263 (fun _ h9 => h9) rfl dX12_goesOnTest_108 ?_
                      refine lv_bipush (v := 14) hx hb dX12_goesOnTest_111 (by decide) ?_
                      refine va_iast hx hb hK hP hD hS 21 2 mwd_a21 rfl (x_in (by omega) (by omega)) dX12_goesOnTest_113 (fun H locs hP hD hS => ?_)
                      obtain ⟨f_34, ef_34⟩ : ∃ z9 : Nat → Int32, z9 = (upd (σ.2.2.1 30) (Int32.toNatClampNeg ws2) 14) := ⟨_, rfl⟩
                      have hP : va_P D vwCl (mwd y ad zw (tI (sI (tI (sI (sI (sI (sI σ 32 op) 2 n_3) 4 n_4) 29 cd2) 27 fc2) 31 ws2) 30 f_34)) H := by rw [ef_34]; exact x_trP hP mwd_s21
                      have hD : va_D A (mwd y ad zw (tI (sI (tI (sI (sI (sI (sI σ 32 op) 2 n_3) 4 n_4) 29 cd2) 27 fc2) 31 ws2) 30 f_34)) := by rw [ef_34]; exact x_trD hD mwd_s21
                      rw [x_cl (n := ws2.toInt.toNat) (by omega)] at ef_34
                      refine lv_aload_n hx hb dX12_goesOnTest_114 rfl (lv_at hl 0 rfl) ?_
                      refine lv_dup hx hb dX12_goesOnTest_115 rfl ?_
                      refine va_get (D := D) (ci := 11) (v := .int ws2) (C := RX12) (T := TX12) (N := 85) hx hb hts inX12 hown hK hP 0 mwd_o0 rfl 31 (by decide) fl263 (fun _ h9 => h9) rfl dX12_goesOnTest_116 ?_
                      refine lv_iconst (v := 1) hx hb dX12_goesOnTest_119 (by decide) ?_
                      refine lv_iadd hx hb dX12_goesOnTest_120 ?_
                      refine lv_topi (fun i_35 ei_35 => ?_)
                      have vi_35 : i_35.toInt = ws2.toInt + 1 := by have h9 := x_add ei_35 (by omega) (by omega); omega
                      refine va_put (D := D) (ci := 11) (v := .int i_35) (ty := .int) (C := RX12) (T := TX12) (N := 85) hx hb hts inX12 tyX12 tyX12_ok nmX12 hown hK hP hD hS 0 mwd_o0 rfl 31 (by decide) fl263 (fun _ h9 => h9) rfl (by decide +kernel) rfl rfl (Nat.le_of_ble_eq_true rfl) dX12_goesOnTest_121 (fun H locs hP hD hS => ?_)
                      have hP : va_P D vwCl (mwd y ad zw (sI (tI (sI (tI (sI (sI (sI (sI σ 32 op) 2 n_3) 4 n_4) 29 cd2) 27 fc2) 31 ws2) 30 f_34) 31 i_35)) H := x_trP hP mwd_p0_31
                      have hD : va_D A (mwd y ad zw (sI (tI (sI (tI (sI (sI (sI (sI σ 32 op) 2 n_3) 4 n_4) 29 cd2) 27 fc2) 31 ws2) 30 f_34) 31 i_35)) := x_trD hD mwd_p0_31
                      refine lv_iconst (v := 1) hx hb dX12_goesOnTest_124 (by decide) ?_
                      have hP : va_P D vwCl (mwd y ad zw (sI (tI (sI (tI (sI (sI (sI (sI (sI σ 2 n_3) 4 n_4) 5 (σ.1 5)) 6 (σ.1 6)) 29 cd2) 27 fc2) 32 op) 30 f_34) 31 i_35)) H := hP
                      have hD : va_D A (mwd y ad zw (sI (tI (sI (tI (sI (sI (sI (sI (sI σ 2 n_3) 4 n_4) 5 (σ.1 5)) 6 (σ.1 6)) 29 cd2) 27 fc2) 32 op) 30 f_34) 31 i_35)) := hD
                      exact x_zretW (v := 1) (u := (n_3, n_4, (σ.1 5), (σ.1 6), cd2, fc2, op, f_34, i_35)) hx hb hr hQ rfl (by (try dsimp only); exact ⟨by omega, by omega, by omega, by omega, by omega, by omega, by omega, by omega, fun h9 => ⟨fun _ => ⟨by omega, by rw [ef_34, show i_35.toInt.toNat = ws2.toInt.toNat + 1 by omega]; exact TS_push hE2 (by first | exact Or.inl rfl | exact Or.inr rfl), by rw [ef_34, show i_35.toInt.toNat = ws2.toInt.toNat + 1 by omega]; exact NT_push hN2⟩, fun h8 => absurd h8 (by decide)⟩⟩) hP hD hK hS dX12_goesOnTest_125 hlocks
                    · have kc_33 : r_32.toInt ≠ 0 := by have h9 := c_33; simp only [ge_iff_le, gt_iff_lt, x_lt, x_le, x_eq, ne_eq, Int32.not_lt, Int32.not_le] at h9; simp only [Int32.reduceToInt] at h9; omega
                      exfalso
                      omega
                  · have h3x : ((σ.2.2.1 30) (ws2.toInt.toNat - 1)).toInt ≠ 30 := by omega
                    have hto : 14 ≤ ((σ.2.2.1 30) (ws2.toInt.toNat - 1)).toInt ∧ ((σ.2.2.1 30) (ws2.toInt.toNat - 1)).toInt ≤ 15 := ⟨by omega, by omega⟩
                    refine lv_if_eq (tgt := 103) hx hb dX12_goesOnTest_93 (by decide) (fun c_36 => ?_) (fun c_36 => ?_)
                    · have kc_36 : r_32.toInt = 0 := by have h9 := c_36; simp only [ge_iff_le, gt_iff_lt, x_lt, x_le, x_eq, ne_eq, Int32.not_lt, Int32.not_le] at h9; simp only [Int32.reduceToInt] at h9; omega
                      exfalso
                      omega
                    · have kc_36 : r_32.toInt ≠ 0 := by have h9 := c_36; simp only [ge_iff_le, gt_iff_lt, x_lt, x_le, x_eq, ne_eq, Int32.not_lt, Int32.not_le] at h9; simp only [Int32.reduceToInt] at h9; omega
                      refine lv_aload_n hx hb dX12_goesOnTest_96 rfl (lv_at hl 0 rfl) ?_
                      refine x_callvW (va_runV (As := []) (rest := []) ⟨hx, hb, hml, hown, hts⟩ (q_drops l D y H.size ad zw (sI (tI (sI (sI (sI (sI σ 32 op) 2 n_3) 4 n_4) 29 cd2) 27 fc2) 31 ws2) (show 1 ≤ (ws2).toInt from by first | omega | decide) (show (ws2).toInt ≤ 800 from by first | omega | decide) (show 0 ≤ (cd2).toInt from by first | omega | decide) (show (cd2).toInt < 1200 from by first | omega | decide)) (cwV 0 hts g_q_goesOnTest_4 rfl rfl rfl (by decide +kernel) ⟨Nat.le_of_ble_eq_true rfl, Nat.le_of_ble_eq_true rfl⟩) (x_preV (q := (RX12, TX12, 85)) hK hP hD (ci := 11) (q0 := 0) rfl mwd_o0) rfl rfl hl.1 rfl (lv_room (Nat.le_of_ble_eq_true rfl)) dX12_goesOnTest_97 ⟨Nat.le_of_ble_eq_true rfl, Nat.le_of_ble_eq_true rfl⟩) hP hD hS hA (fun u H locs hw hP hD hS => ?_)
                      obtain ⟨n_37, n_38, f_39⟩ := u
                      try dsimp only at hw
                      have hP : va_P D vwCl (mwd y ad zw (tI (sI (sI (sI (tI (sI (sI (sI (sI σ 32 op) 2 n_3) 4 n_4) 29 cd2) 27 fc2) 31 ws2) 31 n_37) 29 n_38) 27 f_39)) H := hP
                      have hD : va_D A (mwd y ad zw (tI (sI (sI (sI (tI (sI (sI (sI (sI σ 32 op) 2 n_3) 4 n_4) 29 cd2) 27 fc2) 31 ws2) 31 n_37) 29 n_38) 27 f_39)) := hD
                      replace hw : n_37.toInt = (ws2).toInt - 1 ∧ n_38.toInt = (cd2).toInt + 1 ∧ f_39 = upd (fc2) (cd2).toInt.toNat (((σ.2.2.1 30)) ((ws2).toInt.toNat - 1)) := hw
                      refine lv_goto (tgt := 87) hx hb dX12_goesOnTest_100 (by decide) ?_
                      have hP : va_P D vwCl (mwd y ad zw (sI (tI (sI (sI (sI (sI σ 32 op) 2 n_3) 4 n_4) 29 n_38) 27 f_39) 31 n_37)) H := hP
                      have hD : va_D A (mwd y ad zw (sI (tI (sI (sI (sI (sI σ 32 op) 2 n_3) 4 n_4) 29 n_38) 27 f_39) 31 n_37)) := hD
                      exact ih_loop3 n_38 f_39 n_37 H locs ls (by omega) (by omega) (by omega) (by obtain ⟨h7, h6, h5⟩ := hw; rw [h5, show n_38.toInt.toNat = cd2.toInt.toNat + 1 by omega, show n_37.toInt.toNat = ws2.toInt.toNat - 1 by omega]; exact TS_ao hE2 (by omega) hto hX1) (by rw [show n_37.toInt.toNat = ws2.toInt.toNat - 1 by omega]; exact NK_drop hN2 (by omega) h3x) (by omega) hP hD hS (lv_sub hl [0] rfl)
              exact loop3 801 cd fc ws H locs ls (by omega) (by omega) (by omega) hE hNK (by omega) hP hD hS (lv_sub hl [0] rfl)
        refine lv_aload_n hx hb dX12_goesOnTest_7 rfl (lv_at hl 0 rfl) ?_
        refine x_calliW (va_runV (As := []) (rest := []) ⟨hx, hb, hml, hown, hts⟩ (q_look2 l D y H.size ad zw (sI (sI (tI (sI (sI σ 2 a) 29 cd) 27 fc) 32 op) 31 ws) (show 0 ≤ (a).toInt from by first | omega | decide) (show (a).toInt ≤ ((σ.1 3)).toInt from by first | omega | decide) (show ((σ.1 3)).toInt ≤ 700 from by first | omega | decide)) (cwV 0 hts g_q_goesOnTest_5 rfl rfl rfl (by decide +kernel) ⟨Nat.le_of_ble_eq_true rfl, Nat.le_of_ble_eq_true rfl⟩) (x_preV (q := (RX12, TX12, 85)) hK hP hD (ci := 11) (q0 := 0) rfl mwd_o0) rfl rfl hl.1 rfl (lv_room (Nat.le_of_ble_eq_true rfl)) dX12_goesOnTest_8 ⟨Nat.le_of_ble_eq_true rfl, Nat.le_of_ble_eq_true rfl⟩) hP hD hS hA (fun r_40 u H locs hw hP hD hS => ?_)
        obtain ⟨n_41, rfl⟩ : ∃ z9, z9 = u := ⟨_, rfl⟩
        try dsimp only at hw
        have hP : va_P D vwCl (mwd y ad zw (sI (sI (sI (tI (sI (sI σ 2 a) 29 cd) 27 fc) 32 op) 31 ws) 2 n_41)) H := hP
        have hD : va_D A (mwd y ad zw (sI (sI (sI (tI (sI (sI σ 2 a) 29 cd) 27 fc) 32 op) 31 ws) 2 n_41)) := hD
        replace hw : (a).toInt ≤ n_41.toInt ∧ n_41.toInt ≤ ((σ.1 3)).toInt ∧ (r_40.toInt = -1 ∨ (n_41.toInt < ((σ.1 3)).toInt ∧ r_40 = ((σ.2.2.1 0)) (Int32.toNatClampNeg n_41))) := hw
        replace hw : a.toInt ≤ n_41.toInt ∧ n_41.toInt ≤ (σ.1 3).toInt ∧ (r_40.toInt = -1 ∨ n_41.toInt < (σ.1 3).toInt) := ⟨hw.1, hw.2.1, hw.2.2.imp id And.left⟩
        have hlk := hw
        refine lv_bipush (v := 93) hx hb dX12_goesOnTest_11 (by decide) ?_
        refine lv_icmp_ne (tgt := 76) hx hb dX12_goesOnTest_13 (by decide) (fun c_42 => ?_) (fun c_42 => ?_)
        · have kc_42 : r_40.toInt ≠ 93 := by have h9 := c_42; simp only [ge_iff_le, gt_iff_lt, x_lt, x_le, x_eq, ne_eq, Int32.not_lt, Int32.not_le] at h9; simp only [Int32.reduceToInt] at h9; omega
          have hP : va_P D vwCl (mwd y ad zw (sI (sI (sI (tI (sI σ 29 cd) 27 fc) 32 op) 31 ws) 2 n_41)) H := hP
          have hD : va_D A (mwd y ad zw (sI (sI (sI (tI (sI σ 29 cd) 27 fc) 32 op) 31 ws) 2 n_41)) := hD
          exact cut76 n_41 H locs ls (by omega) (by omega) hP hD hS (lv_sub hl [0] rfl)
        · have kc_42 : r_40.toInt = 93 := by have h9 := c_42; simp only [ge_iff_le, gt_iff_lt, x_lt, x_le, x_eq, ne_eq, Int32.not_lt, Int32.not_le] at h9; simp only [Int32.reduceToInt] at h9; omega
          refine lv_aload_n hx hb dX12_goesOnTest_16 rfl (lv_at hl 0 rfl) ?_
          refine x_calliW (va_runV (As := []) (rest := []) ⟨hx, hb, hml, hown, hts⟩ (q_hasSquare l D y H.size ad zw (sI (sI (sI (tI (sI (sI σ 2 a) 29 cd) 27 fc) 32 op) 31 ws) 2 n_41) (show 0 ≤ (ws).toInt from by first | omega | decide) (show (ws).toInt ≤ 800 from by first | omega | decide)) (cwV 0 hts g_q_goesOnTest_1 rfl rfl rfl (by decide +kernel) ⟨Nat.le_of_ble_eq_true rfl, Nat.le_of_ble_eq_true rfl⟩) (x_preV (q := (RX12, TX12, 85)) hK hP hD (ci := 11) (q0 := 0) rfl mwd_o0) rfl rfl hl.1 rfl (lv_room (Nat.le_of_ble_eq_true rfl)) dX12_goesOnTest_17 ⟨Nat.le_of_ble_eq_true rfl, Nat.le_of_ble_eq_true rfl⟩) hP hD hS hA (fun r_43 u H locs hw hP hD hS => ?_)
          try dsimp only at hw
          have hP : va_P D vwCl (mwd y ad zw (sI (sI (sI (tI (sI (sI σ 2 a) 29 cd) 27 fc) 32 op) 31 ws) 2 n_41)) H := hP
          have hD : va_D A (mwd y ad zw (sI (sI (sI (tI (sI (sI σ 2 a) 29 cd) 27 fc) 32 op) 31 ws) 2 n_41)) := hD
          replace hw : (r_43.toInt = 1 ∧ ∃ k : Nat, k < (ws).toInt.toNat ∧ (((σ.2.2.1 30)) k).toInt = 30) ∨ (r_43.toInt = 0 ∧ ∀ k : Nat, k < (ws).toInt.toNat → (((σ.2.2.1 30)) k).toInt ≠ 30) := hw
          rcases hw with ⟨hs1, hs2⟩ | ⟨hs1, hs2⟩
          · have hsq : SQ (σ.2.2.1 30) ws.toInt.toNat := hs2
            clear hs2
            refine lv_if_eq (tgt := 76) hx hb dX12_goesOnTest_20 (by decide) (fun c_44 => ?_) (fun c_44 => ?_)
            · have kc_44 : r_43.toInt = 0 := by have h9 := c_44; simp only [ge_iff_le, gt_iff_lt, x_lt, x_le, x_eq, ne_eq, Int32.not_lt, Int32.not_le] at h9; simp only [Int32.reduceToInt] at h9; omega
              exfalso
              omega
            · have kc_44 : r_43.toInt ≠ 0 := by have h9 := c_44; simp only [ge_iff_le, gt_iff_lt, x_lt, x_le, x_eq, ne_eq, Int32.not_lt, Int32.not_le] at h9; simp only [Int32.reduceToInt] at h9; omega
              refine lv_aload_n hx hb dX12_goesOnTest_23 rfl (lv_at hl 0 rfl) ?_
              refine lv_dup hx hb dX12_goesOnTest_24 rfl ?_
              refine va_get (D := D) (ci := 11) (v := .int n_41) (C := RX12) (T := TX12) (N := 85) hx hb hts inX12 hown hK hP 0 mwd_o0 rfl 2 (by decide) fl197 (fun _ h9 => h9) rfl dX12_goesOnTest_25 ?_
              refine lv_iconst (v := 1) hx hb dX12_goesOnTest_28 (by decide) ?_
              refine lv_iadd hx hb dX12_goesOnTest_29 ?_
              refine lv_topi (fun i_45 ei_45 => ?_)
              have vi_45 : i_45.toInt = n_41.toInt + 1 := by have h9 := x_add ei_45 (by omega) (by omega); omega
              refine va_put (D := D) (ci := 11) (v := .int i_45) (ty := .int) (C := RX12) (T := TX12) (N := 85) hx hb hts inX12 tyX12 tyX12_ok nmX12 hown hK hP hD hS 0 mwd_o0 rfl 2 (by decide) fl197 (fun _ h9 => h9) rfl (by decide +kernel) rfl rfl (Nat.le_of_ble_eq_true rfl) dX12_goesOnTest_30 (fun H locs hP hD hS => ?_)
              have hP : va_P D vwCl (mwd y ad zw (sI (sI (sI (sI (tI (sI (sI σ 2 a) 29 cd) 27 fc) 32 op) 31 ws) 2 n_41) 2 i_45)) H := x_trP hP mwd_p0_2
              have hD : va_D A (mwd y ad zw (sI (sI (sI (sI (tI (sI (sI σ 2 a) 29 cd) 27 fc) 32 op) 31 ws) 2 n_41) 2 i_45)) := x_trD hD mwd_p0_2
              have hP : va_P D vwCl (mwd y ad zw (sI (tI (sI (sI (sI σ 32 op) 2 i_45) 29 cd) 27 fc) 31 ws)) H := hP
              have hD : va_D A (mwd y ad zw (sI (tI (sI (sI (sI σ 32 op) 2 i_45) 29 cd) 27 fc) 31 ws)) := hD
              have loop2 : ∀ (fu : Nat) (cd2 : Int32) (fc2 : Nat → Int32) (ws2 : Int32) (H : Heap) (locs : List Loc) (ls : Array Slot), (0 ≤ ws2.toInt) → ((σ.1 29).toInt ≤ cd2.toInt) → (cd2.toInt + ws2.toInt = cd.toInt + ws.toInt) → (TS f0 fc2 (σ.2.2.1 30) c0 cd2.toInt.toNat ws2.toInt.toNat 1 X op.toInt o0) → (NK (σ.2.2.1 30) ws2.toInt.toNat) → (SQ (σ.2.2.1 30) ws2.toInt.toNat) → (ws2.toInt < (fu : Int)) → va_P D vwCl (mwd y ad zw (sI (tI (sI (sI (sI σ 32 op) 2 i_45) 29 cd2) 27 fc2) 31 ws2)) H → va_D A (mwd y ad zw (sI (tI (sI (sI (sI σ 32 op) 2 i_45) 29 cd2) 27 fc2) 31 ws2)) → va_S A s.heap H locs → lv_has ls 1 [(0, .ref (ad 1))] → W p l e ({ frames := 3, cells := 0, slots := 0, locals := 64 } : Room) s m ([.ref (ad 1)] : List Value).toArray below meth c H locs 0 0 Q (F0 m 33 ls []) := by
                intro fu
                induction fu with
                | zero =>
                  intro cd2 fc2 ws2 H locs ls hW2 hC2 hp2 hE2 hN2 hS2 hm
                  exact absurd hm (by omega)
                | succ fu ih_loop2 =>
                  intro cd2 fc2 ws2 H locs ls hW2 hC2 hp2 hE2 hN2 hS2 hm hP hD hS hl
                  refine lv_aload_n hx hb dX12_goesOnTest_33 rfl (lv_at hl 0 rfl) ?_
                  refine lv_bipush (v := 30) hx hb dX12_goesOnTest_34 (by decide) ?_
                  refine x_calliW (va_runV (As := [.int 30]) (rest := []) ⟨hx, hb, hml, hown, hts⟩ (q_isOn l D y H.size ad zw (sI (tI (sI (sI (sI σ 32 op) 2 i_45) 29 cd2) 27 fc2) 31 ws2) 30 (show 0 ≤ (ws2).toInt from by first | omega | decide) (show (ws2).toInt ≤ 800 from by first | omega | decide)) (cwV 1 hts g_q_goesOnTest_3 rfl rfl rfl (by decide +kernel) ⟨Nat.le_of_ble_eq_true rfl, Nat.le_of_ble_eq_true rfl⟩) (x_preV (q := (RX12, TX12, 85)) hK hP hD (ci := 11) (q0 := 0) rfl mwd_o0) rfl rfl hl.1 rfl (lv_room (Nat.le_of_ble_eq_true rfl)) dX12_goesOnTest_36 ⟨Nat.le_of_ble_eq_true rfl, Nat.le_of_ble_eq_true rfl⟩) hP hD hS hA (fun r_46 u H locs hw hP hD hS => ?_)
                  try dsimp only at hw
                  have hP : va_P D vwCl (mwd y ad zw (sI (tI (sI (sI (sI σ 32 op) 2 i_45) 29 cd2) 27 fc2) 31 ws2)) H := hP
                  have hD : va_D A (mwd y ad zw (sI (tI (sI (sI (sI σ 32 op) 2 i_45) 29 cd2) 27 fc2) 31 ws2)) := hD
                  replace hw : (r_46.toInt = 0 ∧ ((ws2).toInt ≤ 0 ∨ (((σ.2.2.1 30)) ((ws2).toInt.toNat - 1)).toInt ≠ (30 : Int32).toInt)) ∨ (r_46.toInt = 1 ∧ 1 ≤ (ws2).toInt ∧ (((σ.2.2.1 30)) ((ws2).toInt.toNat - 1)).toInt = (30 : Int32).toInt) := hw
                  have lv : (30 : Int32).toInt = 30 := rfl
                  rcases hw with ⟨hi1, hi2⟩ | ⟨hi1, hi2, hi3⟩
                  · have hwp := SQ_pos hS2
                    have h3x : ((σ.2.2.1 30) (ws2.toInt.toNat - 1)).toInt ≠ 30 := by omega
                    have hto := TS_top hE2 hN2 hwp h3x
                    clear hi2
                    refine lv_if_ne (tgt := 49) hx hb dX12_goesOnTest_39 (by decide) (fun c_47 => ?_) (fun c_47 => ?_)
                    · have kc_47 : r_46.toInt ≠ 0 := by have h9 := c_47; simp only [ge_iff_le, gt_iff_lt, x_lt, x_le, x_eq, ne_eq, Int32.not_lt, Int32.not_le] at h9; simp only [Int32.reduceToInt] at h9; omega
                      exfalso
                      omega
                    · have kc_47 : r_46.toInt = 0 := by have h9 := c_47; simp only [ge_iff_le, gt_iff_lt, x_lt, x_le, x_eq, ne_eq, Int32.not_lt, Int32.not_le] at h9; simp only [Int32.reduceToInt] at h9; omega
                      refine lv_aload_n hx hb dX12_goesOnTest_42 rfl (lv_at hl 0 rfl) ?_
                      refine x_callvW (va_runV (As := []) (rest := []) ⟨hx, hb, hml, hown, hts⟩ (q_drops l D y H.size ad zw (sI (tI (sI (sI (sI σ 32 op) 2 i_45) 29 cd2) 27 fc2) 31 ws2) (show 1 ≤ (ws2).toInt from by first | omega | decide) (show (ws2).toInt ≤ 800 from by first | omega | decide) (show 0 ≤ (cd2).toInt from by first | omega | decide) (show (cd2).toInt < 1200 from by first | omega | decide)) (cwV 0 hts g_q_goesOnTest_4 rfl rfl rfl (by decide +kernel) ⟨Nat.le_of_ble_eq_true rfl, Nat.le_of_ble_eq_true rfl⟩) (x_preV (q := (RX12, TX12, 85)) hK hP hD (ci := 11) (q0 := 0) rfl mwd_o0) rfl rfl hl.1 rfl (lv_room (Nat.le_of_ble_eq_true rfl)) dX12_goesOnTest_43 ⟨Nat.le_of_ble_eq_true rfl, Nat.le_of_ble_eq_true rfl⟩) hP hD hS hA (fun u H locs hw hP hD hS => ?_)
                      obtain ⟨n_48, n_49, f_50⟩ := u
                      try dsimp only at hw
                      have hP : va_P D vwCl (mwd y ad zw (tI (sI (sI (sI (tI (sI (sI (sI σ 32 op) 2 i_45) 29 cd2) 27 fc2) 31 ws2) 31 n_48) 29 n_49) 27 f_50)) H := hP
                      have hD : va_D A (mwd y ad zw (tI (sI (sI (sI (tI (sI (sI (sI σ 32 op) 2 i_45) 29 cd2) 27 fc2) 31 ws2) 31 n_48) 29 n_49) 27 f_50)) := hD
                      replace hw : n_48.toInt = (ws2).toInt - 1 ∧ n_49.toInt = (cd2).toInt + 1 ∧ f_50 = upd (fc2) (cd2).toInt.toNat (((σ.2.2.1 30)) ((ws2).toInt.toNat - 1)) := hw
                      refine lv_goto (tgt := 33) hx hb dX12_goesOnTest_46 (by decide) ?_
                      have hP : va_P D vwCl (mwd y ad zw (sI (tI (sI (sI (sI σ 32 op) 2 i_45) 29 n_49) 27 f_50) 31 n_48)) H := hP
                      have hD : va_D A (mwd y ad zw (sI (tI (sI (sI (sI σ 32 op) 2 i_45) 29 n_49) 27 f_50) 31 n_48)) := hD
                      exact ih_loop2 n_49 f_50 n_48 H locs ls (by omega) (by omega) (by omega) (by obtain ⟨h7, h6, h5⟩ := hw; rw [h5, show n_49.toInt.toNat = cd2.toInt.toNat + 1 by omega, show n_48.toInt.toNat = ws2.toInt.toNat - 1 by omega]; exact TS_ao hE2 (by omega) hto hX1) (by rw [show n_48.toInt.toNat = ws2.toInt.toNat - 1 by omega]; exact NK_drop hN2 (by omega) h3x) (by rw [show n_48.toInt.toNat = ws2.toInt.toNat - 1 by omega]; exact SQ_drop hS2 h3x) (by omega) hP hD hS (lv_sub hl [0] rfl)
                  · have hop1 := TS_open1 hE2 (by omega) (by omega) ho2
                    refine lv_if_ne (tgt := 49) hx hb dX12_goesOnTest_39 (by decide) (fun c_51 => ?_) (fun c_51 => ?_)
                    · have kc_51 : r_46.toInt ≠ 0 := by have h9 := c_51; simp only [ge_iff_le, gt_iff_lt, x_lt, x_le, x_eq, ne_eq, Int32.not_lt, Int32.not_le] at h9; simp only [Int32.reduceToInt] at h9; omega
                      refine lv_aload_n hx hb dX12_goesOnTest_49 rfl (lv_at hl 0 rfl) ?_
                      refine lv_dup hx hb dX12_goesOnTest_50 rfl ?_
                      refine va_get (D := D) (ci := 11) (v := .int ws2) (C := RX12) (T := TX12) (N := 85) hx hb hts inX12 hown hK hP 0 mwd_o0 rfl 31 (by decide) fl263 (fun _ h9 => h9) rfl dX12_goesOnTest_51 ?_
                      refine lv_iconst (v := 1) hx hb dX12_goesOnTest_54 (by decide) ?_
                      refine lv_isub hx hb dX12_goesOnTest_55 ?_
                      refine lv_topi (fun i_52 ei_52 => ?_)
                      have vi_52 : i_52.toInt = ws2.toInt - 1 := by have h9 := x_sub ei_52 (by omega) (by omega); omega
                      refine va_put (D := D) (ci := 11) (v := .int i_52) (ty := .int) (C := RX12) (T := TX12) (N := 85) hx hb hts inX12 tyX12 tyX12_ok nmX12 hown hK hP hD hS 0 mwd_o0 rfl 31 (by decide) fl263 (fun _ h9 => h9) rfl (by decide +kernel) rfl rfl (Nat.le_of_ble_eq_true rfl) dX12_goesOnTest_56 (fun H locs hP hD hS => ?_)
                      have hP : va_P D vwCl (mwd y ad zw (sI (sI (tI (sI (sI (sI σ 32 op) 2 i_45) 29 cd2) 27 fc2) 31 ws2) 31 i_52)) H := x_trP hP mwd_p0_31
                      have hD : va_D A (mwd y ad zw (sI (sI (tI (sI (sI (sI σ 32 op) 2 i_45) 29 cd2) 27 fc2) 31 ws2) 31 i_52)) := x_trD hD mwd_p0_31
                      refine lv_aload_n hx hb dX12_goesOnTest_59 rfl (lv_at hl 0 rfl) ?_
                      refine lv_dup hx hb dX12_goesOnTest_60 rfl ?_
                      refine va_get (D := D) (ci := 11) (v := .int op) (C := RX12) (T := TX12) (N := 85) hx hb hts inX12 hown hK hP 0 mwd_o0 rfl 32 (by decide) fl260 (fun _ h9 => h9) rfl dX12_goesOnTest_61 ?_
                      refine lv_iconst (v := 1) hx hb dX12_goesOnTest_64 (by decide) ?_
                      refine lv_isub hx hb dX12_goesOnTest_65 ?_
                      refine lv_topi (fun i_53 ei_53 => ?_)
                      have vi_53 : i_53.toInt = op.toInt - 1 := by have h9 := x_sub ei_53 (by omega) (by omega); omega
                      refine va_put (D := D) (ci := 11) (v := .int i_53) (ty := .int) (C := RX12) (T := TX12) (N := 85) hx hb hts inX12 tyX12 tyX12_ok nmX12 hown hK hP hD hS 0 mwd_o0 rfl 32 (by decide) fl260 (fun _ h9 => h9) rfl (by decide +kernel) rfl rfl (Nat.le_of_ble_eq_true rfl) dX12_goesOnTest_66 (fun H locs hP hD hS => ?_)
                      have hP : va_P D vwCl (mwd y ad zw (sI (sI (sI (tI (sI (sI (sI σ 32 op) 2 i_45) 29 cd2) 27 fc2) 31 ws2) 31 i_52) 32 i_53)) H := x_trP hP mwd_p0_32
                      have hD : va_D A (mwd y ad zw (sI (sI (sI (tI (sI (sI (sI σ 32 op) 2 i_45) 29 cd2) 27 fc2) 31 ws2) 31 i_52) 32 i_53)) := x_trD hD mwd_p0_32
                      have hE7 : TS f0 fc2 (σ.2.2.1 30) c0 cd2.toInt.toNat i_52.toInt.toNat 1 X i_53.toInt o0 := by rw [show i_52.toInt.toNat = ws2.toInt.toNat - 1 by omega]; exact TS_close hE2 (by omega) (by omega) (by omega)
                      refine lv_aload_n hx hb dX12_goesOnTest_69 rfl (lv_at hl 0 rfl) ?_
                      refine x_callvW (va_runV (As := []) (rest := []) ⟨hx, hb, hml, hown, hts⟩ (q_dropsNots l D y H.size ad zw (sI (sI (sI (tI (sI (sI (sI σ 32 op) 2 i_45) 29 cd2) 27 fc2) 31 ws2) 31 i_52) 32 i_53) f0 c0 X o0 (show ((σ.1 5)).toInt = 0 from by first | omega | decide) (by first | omega | decide) (show 0 ≤ (i_53).toInt from by first | omega | decide) (show (i_53).toInt ≤ 8 from by first | omega | decide) (show 0 ≤ (i_52).toInt from by first | omega | decide) (show (i_52).toInt ≤ 800 from by first | omega | decide) (show 0 ≤ (cd2).toInt from by first | omega | decide) (show (cd2).toInt + (i_52).toInt < 1200 from by first | omega | decide) (by first | omega | decide) hE7) (cwV 0 hts g_q_goesOnTest_6 rfl rfl rfl (by decide +kernel) ⟨Nat.le_of_ble_eq_true rfl, Nat.le_of_ble_eq_true rfl⟩) (x_preV (q := (RX12, TX12, 85)) hK hP hD (ci := 11) (q0 := 0) rfl mwd_o0) rfl rfl hl.1 rfl (lv_room (Nat.le_of_ble_eq_true rfl)) dX12_goesOnTest_70 ⟨Nat.le_of_ble_eq_true rfl, Nat.le_of_ble_eq_true rfl⟩) hP hD hS hA (fun u H locs hw hP hD hS => ?_)
                      obtain ⟨n_54, n_55, f_56, n_57⟩ := u
                      try dsimp only at hw
                      have hP : va_P D vwCl (mwd y ad zw (sI (tI (sI (sI (sI (sI (sI (tI (sI (sI (sI σ 32 op) 2 i_45) 29 cd2) 27 fc2) 31 ws2) 31 i_52) 32 i_53) 31 n_54) 29 n_55) 27 f_56) 32 n_57)) H := hP
                      have hD : va_D A (mwd y ad zw (sI (tI (sI (sI (sI (sI (sI (tI (sI (sI (sI σ 32 op) 2 i_45) 29 cd2) 27 fc2) 31 ws2) 31 i_52) 32 i_53) 31 n_54) 29 n_55) 27 f_56) 32 n_57)) := hD
                      replace hw : 0 ≤ n_57.toInt ∧ n_57.toInt ≤ 8 ∧ 0 ≤ n_54.toInt ∧ n_54.toInt ≤ (i_52).toInt ∧ (cd2).toInt ≤ n_55.toInt ∧ n_55.toInt + n_54.toInt = (cd2).toInt + (i_52).toInt ∧ (n_54.toInt = 0 ∨ (((σ.2.2.1 30)) (n_54.toInt.toNat - 1)).toInt ≠ 16) ∧ TS f0 f_56 ((σ.2.2.1 30)) c0 n_55.toInt.toNat n_54.toInt.toNat 1 X n_57.toInt o0 := hw
                      obtain ⟨hn1, hn2, hn3, hn4, hn5, hn6, hn7, hE9⟩ := hw
                      have hN9 : NK (σ.2.2.1 30) n_54.toInt.toNat := ⟨NT_low hN2.1 (by omega), hn7.imp (fun h9 => by omega) id⟩
                      clear hn7
                      refine lv_goto (tgt := 0) hx hb dX12_goesOnTest_73 (by decide) ?_
                      have hP : va_P D vwCl (mwd y ad zw (sI (sI (tI (sI (sI σ 2 i_45) 29 n_55) 27 f_56) 32 n_57) 31 n_54)) H := hP
                      have hD : va_D A (mwd y ad zw (sI (sI (tI (sI (sI σ 2 i_45) 29 n_55) 27 f_56) 32 n_57) 31 n_54)) := hD
                      exact ih_loop i_45 n_55 f_56 n_57 n_54 H locs ls (by omega) (by omega) (by omega) (by omega) (by omega) (by omega) (by omega) hE9 hN9 (by omega) hP hD hS (lv_sub hl [0] rfl)
                    · have kc_51 : r_46.toInt = 0 := by have h9 := c_51; simp only [ge_iff_le, gt_iff_lt, x_lt, x_le, x_eq, ne_eq, Int32.not_lt, Int32.not_le] at h9; simp only [Int32.reduceToInt] at h9; omega
                      exfalso
                      omega
              exact loop2 801 cd fc ws H locs ls (by omega) (by omega) (by omega) hE hNK hsq (by omega) hP hD hS (lv_sub hl [0] rfl)
          · clear hs2
            refine lv_if_eq (tgt := 76) hx hb dX12_goesOnTest_20 (by decide) (fun c_58 => ?_) (fun c_58 => ?_)
            · have kc_58 : r_43.toInt = 0 := by have h9 := c_58; simp only [ge_iff_le, gt_iff_lt, x_lt, x_le, x_eq, ne_eq, Int32.not_lt, Int32.not_le] at h9; simp only [Int32.reduceToInt] at h9; omega
              have hP : va_P D vwCl (mwd y ad zw (sI (sI (sI (tI (sI σ 29 cd) 27 fc) 32 op) 31 ws) 2 n_41)) H := hP
              have hD : va_D A (mwd y ad zw (sI (sI (sI (tI (sI σ 29 cd) 27 fc) 32 op) 31 ws) 2 n_41)) := hD
              exact cut76 n_41 H locs ls (by omega) (by omega) hP hD hS (lv_sub hl [0] rfl)
            · have kc_58 : r_43.toInt ≠ 0 := by have h9 := c_58; simp only [ge_iff_le, gt_iff_lt, x_lt, x_le, x_eq, ne_eq, Int32.not_lt, Int32.not_le] at h9; simp only [Int32.reduceToInt] at h9; omega
              exfalso
              omega
  exact loop 701 (σ.1 2) (σ.1 29) (σ.2.2.1 27) (σ.1 32) (σ.1 31) H locs ls (Int.le_refl _) (by omega) (by omega) (by omega) (by omega) (Int.le_refl _) (by omega) hts0 hnk (by omega) hP hD hS (lv_sub hl [0] rfl)

