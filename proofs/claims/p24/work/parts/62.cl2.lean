abbrev pqw_f0 (y : Nat → ClassId) (ad : Nat → Nat) (σ : OS) : List Value := [.int (σ.1 81), .int (σ.1 82), .int (σ.1 83), .int (σ.1 84), .int (σ.1 85), .int (σ.1 86), .ref (ad 87), .int (σ.1 88), .ref (ad 89), .ref (ad 90), .ref (ad 91), .ref (ad 92), .ref (ad 93)]
def pqw (y : Nat → ClassId) (ad : Nat → Nat) (σ : OS) : va_W := [((ad 80), .inr (5, pqw_f0 y ad σ)), (ad 87, .inl (y 2, 4, .inl (σ.2.2.1 87))), (ad 89, .inl (y 3, 24, .inr (.inl (σ.2.2.2 89)))), (ad 90, .inl (y 2, 24, .inl (σ.2.2.1 90))), (ad 91, .inl (y 2, 350, .inl (σ.2.2.1 91))), (ad 92, .inl (y 2, 700, .inl (σ.2.2.1 92))), (ad 93, .inl (y 2, 700, .inl (σ.2.2.1 93)))]
theorem pqw_o0 {y : Nat → ClassId} {ad : Nat → Nat} {σ : OS} : (pqw y ad σ)[0]? = some ((ad 80), .inr (5, pqw_f0 y ad σ)) := rfl
theorem pqw_p0_0 {y : Nat → ClassId} {ad : Nat → Nat} {σ : OS} {v : Int32} : (pqw y ad σ).set 0 ((ad 80), .inr (5, (pqw_f0 y ad σ).set 0 (.int v))) = pqw y ad (sI σ 81 v) := rfl
theorem pqw_p0_1 {y : Nat → ClassId} {ad : Nat → Nat} {σ : OS} {v : Int32} : (pqw y ad σ).set 0 ((ad 80), .inr (5, (pqw_f0 y ad σ).set 1 (.int v))) = pqw y ad (sI σ 82 v) := rfl
theorem pqw_p0_2 {y : Nat → ClassId} {ad : Nat → Nat} {σ : OS} {v : Int32} : (pqw y ad σ).set 0 ((ad 80), .inr (5, (pqw_f0 y ad σ).set 2 (.int v))) = pqw y ad (sI σ 83 v) := rfl
theorem pqw_p0_3 {y : Nat → ClassId} {ad : Nat → Nat} {σ : OS} {v : Int32} : (pqw y ad σ).set 0 ((ad 80), .inr (5, (pqw_f0 y ad σ).set 3 (.int v))) = pqw y ad (sI σ 84 v) := rfl
theorem pqw_p0_4 {y : Nat → ClassId} {ad : Nat → Nat} {σ : OS} {v : Int32} : (pqw y ad σ).set 0 ((ad 80), .inr (5, (pqw_f0 y ad σ).set 4 (.int v))) = pqw y ad (sI σ 85 v) := rfl
theorem pqw_p0_5 {y : Nat → ClassId} {ad : Nat → Nat} {σ : OS} {v : Int32} : (pqw y ad σ).set 0 ((ad 80), .inr (5, (pqw_f0 y ad σ).set 5 (.int v))) = pqw y ad (sI σ 86 v) := rfl
theorem pqw_p0_7 {y : Nat → ClassId} {ad : Nat → Nat} {σ : OS} {v : Int32} : (pqw y ad σ).set 0 ((ad 80), .inr (5, (pqw_f0 y ad σ).set 7 (.int v))) = pqw y ad (sI σ 88 v) := rfl
theorem pqw_a1 {y : Nat → ClassId} {ad : Nat → Nat} {σ : OS} : (pqw y ad σ)[1]? = some (ad 87, .inl (y 2, 4, .inl (σ.2.2.1 87))) := rfl
theorem pqw_s1 {y : Nat → ClassId} {ad : Nat → Nat} {σ : OS} {g : Nat → Int32} : (pqw y ad σ).set 1 (ad 87, .inl (y 2, 4, .inl g)) = pqw y ad (tI σ 87 g) := rfl
theorem pqw_a2 {y : Nat → ClassId} {ad : Nat → Nat} {σ : OS} : (pqw y ad σ)[2]? = some (ad 89, .inl (y 3, 24, .inr (.inl (σ.2.2.2 89)))) := rfl
theorem pqw_s2 {y : Nat → ClassId} {ad : Nat → Nat} {σ : OS} {g : Nat → Int64} : (pqw y ad σ).set 2 (ad 89, .inl (y 3, 24, .inr (.inl g))) = pqw y ad (tJ σ 89 g) := rfl
theorem pqw_a3 {y : Nat → ClassId} {ad : Nat → Nat} {σ : OS} : (pqw y ad σ)[3]? = some (ad 90, .inl (y 2, 24, .inl (σ.2.2.1 90))) := rfl
theorem pqw_s3 {y : Nat → ClassId} {ad : Nat → Nat} {σ : OS} {g : Nat → Int32} : (pqw y ad σ).set 3 (ad 90, .inl (y 2, 24, .inl g)) = pqw y ad (tI σ 90 g) := rfl
theorem pqw_a4 {y : Nat → ClassId} {ad : Nat → Nat} {σ : OS} : (pqw y ad σ)[4]? = some (ad 91, .inl (y 2, 350, .inl (σ.2.2.1 91))) := rfl
theorem pqw_s4 {y : Nat → ClassId} {ad : Nat → Nat} {σ : OS} {g : Nat → Int32} : (pqw y ad σ).set 4 (ad 91, .inl (y 2, 350, .inl g)) = pqw y ad (tI σ 91 g) := rfl
theorem pqw_a5 {y : Nat → ClassId} {ad : Nat → Nat} {σ : OS} : (pqw y ad σ)[5]? = some (ad 92, .inl (y 2, 700, .inl (σ.2.2.1 92))) := rfl
theorem pqw_s5 {y : Nat → ClassId} {ad : Nat → Nat} {σ : OS} {g : Nat → Int32} : (pqw y ad σ).set 5 (ad 92, .inl (y 2, 700, .inl g)) = pqw y ad (tI σ 92 g) := rfl
theorem pqw_a6 {y : Nat → ClassId} {ad : Nat → Nat} {σ : OS} : (pqw y ad σ)[6]? = some (ad 93, .inl (y 2, 700, .inl (σ.2.2.1 93))) := rfl
theorem pqw_s6 {y : Nat → ClassId} {ad : Nat → Nat} {σ : OS} {g : Nat → Int32} : (pqw y ad σ).set 6 (ad 93, .inl (y 2, 700, .inl g)) = pqw y ad (tI σ 93 g) := rfl
abbrev tpw_f0 (y : Nat → ClassId) (ad : Nat → Nat) (σ : OS) : List Value := [.ref (ad 131), .ref (ad 132), .ref (ad 133), .ref (ad 134), .ref (ad 135), .int (σ.1 136), .int (σ.1 137), .int (σ.1 138), .int (σ.1 139), .int (σ.1 140), .int (σ.1 141), .int (σ.1 142), .long (σ.2.1 143)]
def tpw (y : Nat → ClassId) (ad : Nat → Nat) (σ : OS) : va_W := [((ad 130), .inr (7, tpw_f0 y ad σ)), (ad 131, .inl (y 3, 1359, .inr (.inl (σ.2.2.2 131)))), (ad 132, .inl (y 2, 1359, .inl (σ.2.2.1 132))), (ad 133, .inl (y 2, 1359, .inl (σ.2.2.1 133))), (ad 134, .inl (y 2, 1359, .inl (σ.2.2.1 134))), (ad 135, .inl (y 2, 12, .inl (σ.2.2.1 135)))]
theorem tpw_o0 {y : Nat → ClassId} {ad : Nat → Nat} {σ : OS} : (tpw y ad σ)[0]? = some ((ad 130), .inr (7, tpw_f0 y ad σ)) := rfl
theorem tpw_p0_5 {y : Nat → ClassId} {ad : Nat → Nat} {σ : OS} {v : Int32} : (tpw y ad σ).set 0 ((ad 130), .inr (7, (tpw_f0 y ad σ).set 5 (.int v))) = tpw y ad (sI σ 136 v) := rfl
theorem tpw_p0_6 {y : Nat → ClassId} {ad : Nat → Nat} {σ : OS} {v : Int32} : (tpw y ad σ).set 0 ((ad 130), .inr (7, (tpw_f0 y ad σ).set 6 (.int v))) = tpw y ad (sI σ 137 v) := rfl
theorem tpw_p0_7 {y : Nat → ClassId} {ad : Nat → Nat} {σ : OS} {v : Int32} : (tpw y ad σ).set 0 ((ad 130), .inr (7, (tpw_f0 y ad σ).set 7 (.int v))) = tpw y ad (sI σ 138 v) := rfl
theorem tpw_p0_8 {y : Nat → ClassId} {ad : Nat → Nat} {σ : OS} {v : Int32} : (tpw y ad σ).set 0 ((ad 130), .inr (7, (tpw_f0 y ad σ).set 8 (.int v))) = tpw y ad (sI σ 139 v) := rfl
theorem tpw_p0_9 {y : Nat → ClassId} {ad : Nat → Nat} {σ : OS} {v : Int32} : (tpw y ad σ).set 0 ((ad 130), .inr (7, (tpw_f0 y ad σ).set 9 (.int v))) = tpw y ad (sI σ 140 v) := rfl
theorem tpw_p0_10 {y : Nat → ClassId} {ad : Nat → Nat} {σ : OS} {v : Int32} : (tpw y ad σ).set 0 ((ad 130), .inr (7, (tpw_f0 y ad σ).set 10 (.int v))) = tpw y ad (sI σ 141 v) := rfl
theorem tpw_p0_11 {y : Nat → ClassId} {ad : Nat → Nat} {σ : OS} {v : Int32} : (tpw y ad σ).set 0 ((ad 130), .inr (7, (tpw_f0 y ad σ).set 11 (.int v))) = tpw y ad (sI σ 142 v) := rfl
theorem tpw_p0_12 {y : Nat → ClassId} {ad : Nat → Nat} {σ : OS} {v : Int64} : (tpw y ad σ).set 0 ((ad 130), .inr (7, (tpw_f0 y ad σ).set 12 (.long v))) = tpw y ad (sJ σ 143 v) := rfl
theorem tpw_a1 {y : Nat → ClassId} {ad : Nat → Nat} {σ : OS} : (tpw y ad σ)[1]? = some (ad 131, .inl (y 3, 1359, .inr (.inl (σ.2.2.2 131)))) := rfl
theorem tpw_s1 {y : Nat → ClassId} {ad : Nat → Nat} {σ : OS} {g : Nat → Int64} : (tpw y ad σ).set 1 (ad 131, .inl (y 3, 1359, .inr (.inl g))) = tpw y ad (tJ σ 131 g) := rfl
theorem tpw_a2 {y : Nat → ClassId} {ad : Nat → Nat} {σ : OS} : (tpw y ad σ)[2]? = some (ad 132, .inl (y 2, 1359, .inl (σ.2.2.1 132))) := rfl
theorem tpw_s2 {y : Nat → ClassId} {ad : Nat → Nat} {σ : OS} {g : Nat → Int32} : (tpw y ad σ).set 2 (ad 132, .inl (y 2, 1359, .inl g)) = tpw y ad (tI σ 132 g) := rfl
theorem tpw_a3 {y : Nat → ClassId} {ad : Nat → Nat} {σ : OS} : (tpw y ad σ)[3]? = some (ad 133, .inl (y 2, 1359, .inl (σ.2.2.1 133))) := rfl
theorem tpw_s3 {y : Nat → ClassId} {ad : Nat → Nat} {σ : OS} {g : Nat → Int32} : (tpw y ad σ).set 3 (ad 133, .inl (y 2, 1359, .inl g)) = tpw y ad (tI σ 133 g) := rfl
theorem tpw_a4 {y : Nat → ClassId} {ad : Nat → Nat} {σ : OS} : (tpw y ad σ)[4]? = some (ad 134, .inl (y 2, 1359, .inl (σ.2.2.1 134))) := rfl
theorem tpw_s4 {y : Nat → ClassId} {ad : Nat → Nat} {σ : OS} {g : Nat → Int32} : (tpw y ad σ).set 4 (ad 134, .inl (y 2, 1359, .inl g)) = tpw y ad (tI σ 134 g) := rfl
theorem tpw_a5 {y : Nat → ClassId} {ad : Nat → Nat} {σ : OS} : (tpw y ad σ)[5]? = some (ad 135, .inl (y 2, 12, .inl (σ.2.2.1 135))) := rfl
theorem tpw_s5 {y : Nat → ClassId} {ad : Nat → Nat} {σ : OS} {g : Nat → Int32} : (tpw y ad σ).set 5 (ad 135, .inl (y 2, 12, .inl g)) = tpw y ad (tI σ 135 g) := rfl
abbrev tqw_f0 (y : Nat → ClassId) (ad : Nat → Nat) (σ : OS) : List Value := [.ref (ad 151), .ref (ad 152), .ref (ad 153), .ref (ad 154), .ref (ad 155), .int (σ.1 156), .int (σ.1 157), .int (σ.1 158), .int (σ.1 159), .int (σ.1 160), .int (σ.1 161), .int (σ.1 162), .long (σ.2.1 163)]
def tqw (y : Nat → ClassId) (ad : Nat → Nat) (σ : OS) : va_W := [((ad 150), .inr (7, tqw_f0 y ad σ)), (ad 151, .inl (y 3, 1359, .inr (.inl (σ.2.2.2 151)))), (ad 152, .inl (y 2, 1359, .inl (σ.2.2.1 152))), (ad 153, .inl (y 2, 1359, .inl (σ.2.2.1 153))), (ad 154, .inl (y 2, 1359, .inl (σ.2.2.1 154))), (ad 155, .inl (y 2, 12, .inl (σ.2.2.1 155)))]
theorem tqw_o0 {y : Nat → ClassId} {ad : Nat → Nat} {σ : OS} : (tqw y ad σ)[0]? = some ((ad 150), .inr (7, tqw_f0 y ad σ)) := rfl
theorem tqw_p0_5 {y : Nat → ClassId} {ad : Nat → Nat} {σ : OS} {v : Int32} : (tqw y ad σ).set 0 ((ad 150), .inr (7, (tqw_f0 y ad σ).set 5 (.int v))) = tqw y ad (sI σ 156 v) := rfl
theorem tqw_p0_6 {y : Nat → ClassId} {ad : Nat → Nat} {σ : OS} {v : Int32} : (tqw y ad σ).set 0 ((ad 150), .inr (7, (tqw_f0 y ad σ).set 6 (.int v))) = tqw y ad (sI σ 157 v) := rfl
theorem tqw_p0_7 {y : Nat → ClassId} {ad : Nat → Nat} {σ : OS} {v : Int32} : (tqw y ad σ).set 0 ((ad 150), .inr (7, (tqw_f0 y ad σ).set 7 (.int v))) = tqw y ad (sI σ 158 v) := rfl
theorem tqw_p0_8 {y : Nat → ClassId} {ad : Nat → Nat} {σ : OS} {v : Int32} : (tqw y ad σ).set 0 ((ad 150), .inr (7, (tqw_f0 y ad σ).set 8 (.int v))) = tqw y ad (sI σ 159 v) := rfl
theorem tqw_p0_9 {y : Nat → ClassId} {ad : Nat → Nat} {σ : OS} {v : Int32} : (tqw y ad σ).set 0 ((ad 150), .inr (7, (tqw_f0 y ad σ).set 9 (.int v))) = tqw y ad (sI σ 160 v) := rfl
theorem tqw_p0_10 {y : Nat → ClassId} {ad : Nat → Nat} {σ : OS} {v : Int32} : (tqw y ad σ).set 0 ((ad 150), .inr (7, (tqw_f0 y ad σ).set 10 (.int v))) = tqw y ad (sI σ 161 v) := rfl
theorem tqw_p0_11 {y : Nat → ClassId} {ad : Nat → Nat} {σ : OS} {v : Int32} : (tqw y ad σ).set 0 ((ad 150), .inr (7, (tqw_f0 y ad σ).set 11 (.int v))) = tqw y ad (sI σ 162 v) := rfl
theorem tqw_p0_12 {y : Nat → ClassId} {ad : Nat → Nat} {σ : OS} {v : Int64} : (tqw y ad σ).set 0 ((ad 150), .inr (7, (tqw_f0 y ad σ).set 12 (.long v))) = tqw y ad (sJ σ 163 v) := rfl
theorem tqw_a1 {y : Nat → ClassId} {ad : Nat → Nat} {σ : OS} : (tqw y ad σ)[1]? = some (ad 151, .inl (y 3, 1359, .inr (.inl (σ.2.2.2 151)))) := rfl
theorem tqw_s1 {y : Nat → ClassId} {ad : Nat → Nat} {σ : OS} {g : Nat → Int64} : (tqw y ad σ).set 1 (ad 151, .inl (y 3, 1359, .inr (.inl g))) = tqw y ad (tJ σ 151 g) := rfl
theorem tqw_a2 {y : Nat → ClassId} {ad : Nat → Nat} {σ : OS} : (tqw y ad σ)[2]? = some (ad 152, .inl (y 2, 1359, .inl (σ.2.2.1 152))) := rfl
theorem tqw_s2 {y : Nat → ClassId} {ad : Nat → Nat} {σ : OS} {g : Nat → Int32} : (tqw y ad σ).set 2 (ad 152, .inl (y 2, 1359, .inl g)) = tqw y ad (tI σ 152 g) := rfl
theorem tqw_a3 {y : Nat → ClassId} {ad : Nat → Nat} {σ : OS} : (tqw y ad σ)[3]? = some (ad 153, .inl (y 2, 1359, .inl (σ.2.2.1 153))) := rfl
theorem tqw_s3 {y : Nat → ClassId} {ad : Nat → Nat} {σ : OS} {g : Nat → Int32} : (tqw y ad σ).set 3 (ad 153, .inl (y 2, 1359, .inl g)) = tqw y ad (tI σ 153 g) := rfl
theorem tqw_a4 {y : Nat → ClassId} {ad : Nat → Nat} {σ : OS} : (tqw y ad σ)[4]? = some (ad 154, .inl (y 2, 1359, .inl (σ.2.2.1 154))) := rfl
theorem tqw_s4 {y : Nat → ClassId} {ad : Nat → Nat} {σ : OS} {g : Nat → Int32} : (tqw y ad σ).set 4 (ad 154, .inl (y 2, 1359, .inl g)) = tqw y ad (tI σ 154 g) := rfl
theorem tqw_a5 {y : Nat → ClassId} {ad : Nat → Nat} {σ : OS} : (tqw y ad σ)[5]? = some (ad 155, .inl (y 2, 12, .inl (σ.2.2.1 155))) := rfl
theorem tqw_s5 {y : Nat → ClassId} {ad : Nat → Nat} {σ : OS} {g : Nat → Int32} : (tqw y ad σ).set 5 (ad 155, .inl (y 2, 12, .inl g)) = tqw y ad (tI σ 155 g) := rfl
theorem dX6_whatAt_0 : decode cX6_whatAt 0 = .ok (.iload_n 1, 1) := by decide +kernel
theorem dX6_whatAt_1 : decode cX6_whatAt 1 = .ok (.ifCond .lt 23, 3) := by decide +kernel
theorem dX6_whatAt_4 : decode cX6_whatAt 4 = .ok (.iload_n 1, 1) := by decide +kernel
theorem dX6_whatAt_5 : decode cX6_whatAt 5 = .ok (.aload_n 0, 1) := by decide +kernel
theorem dX6_whatAt_6 : decode cX6_whatAt 6 = .ok (.getfield 52, 3) := by decide +kernel
theorem dX6_whatAt_9 : decode cX6_whatAt 9 = .ok (.if_icmp .ge 15, 3) := by decide +kernel
theorem dX6_whatAt_12 : decode cX6_whatAt 12 = .ok (.aload_n 0, 1) := by decide +kernel
theorem dX6_whatAt_13 : decode cX6_whatAt 13 = .ok (.getfield 27, 3) := by decide +kernel
theorem dX6_whatAt_16 : decode cX6_whatAt 16 = .ok (.iload_n 1, 1) := by decide +kernel
theorem dX6_whatAt_17 : decode cX6_whatAt 17 = .ok (.iaload, 1) := by decide +kernel
theorem dX6_whatAt_18 : decode cX6_whatAt 18 = .ok (.bipush 12, 2) := by decide +kernel
theorem dX6_whatAt_20 : decode cX6_whatAt 20 = .ok (.ishr, 1) := by decide +kernel
theorem dX6_whatAt_21 : decode cX6_whatAt 21 = .ok (.goto 4, 3) := by decide +kernel
theorem dX6_whatAt_24 : decode cX6_whatAt 24 = .ok (.iconst (-1), 1) := by decide +kernel
theorem dX6_whatAt_25 : decode cX6_whatAt 25 = .ok (.ireturn, 1) := by decide +kernel
theorem dX6_argumentAt_0 : decode cX6_argumentAt 0 = .ok (.iload_n 1, 1) := by decide +kernel
theorem dX6_argumentAt_1 : decode cX6_argumentAt 1 = .ok (.ifCond .lt 24, 3) := by decide +kernel
theorem dX6_argumentAt_4 : decode cX6_argumentAt 4 = .ok (.iload_n 1, 1) := by decide +kernel
theorem dX6_argumentAt_5 : decode cX6_argumentAt 5 = .ok (.aload_n 0, 1) := by decide +kernel
theorem dX6_argumentAt_6 : decode cX6_argumentAt 6 = .ok (.getfield 52, 3) := by decide +kernel
theorem dX6_argumentAt_9 : decode cX6_argumentAt 9 = .ok (.if_icmp .ge 16, 3) := by decide +kernel
theorem dX6_argumentAt_12 : decode cX6_argumentAt 12 = .ok (.aload_n 0, 1) := by decide +kernel
theorem dX6_argumentAt_13 : decode cX6_argumentAt 13 = .ok (.getfield 27, 3) := by decide +kernel
theorem dX6_argumentAt_16 : decode cX6_argumentAt 16 = .ok (.iload_n 1, 1) := by decide +kernel
theorem dX6_argumentAt_17 : decode cX6_argumentAt 17 = .ok (.iaload, 1) := by decide +kernel
theorem dX6_argumentAt_18 : decode cX6_argumentAt 18 = .ok (.sipush 4095, 3) := by decide +kernel
theorem dX6_argumentAt_21 : decode cX6_argumentAt 21 = .ok (.iand, 1) := by decide +kernel
theorem dX6_argumentAt_22 : decode cX6_argumentAt 22 = .ok (.goto 4, 3) := by decide +kernel
theorem dX6_argumentAt_25 : decode cX6_argumentAt 25 = .ok (.iconst 0, 1) := by decide +kernel
theorem dX6_argumentAt_26 : decode cX6_argumentAt 26 = .ok (.ireturn, 1) := by decide +kernel
theorem dX6_numberAt_0 : decode cX6_numberAt 0 = .ok (.iload_n 1, 1) := by decide +kernel
theorem dX6_numberAt_1 : decode cX6_numberAt 1 = .ok (.ifCond .lt 20, 3) := by decide +kernel
theorem dX6_numberAt_4 : decode cX6_numberAt 4 = .ok (.iload_n 1, 1) := by decide +kernel
theorem dX6_numberAt_5 : decode cX6_numberAt 5 = .ok (.aload_n 0, 1) := by decide +kernel
theorem dX6_numberAt_6 : decode cX6_numberAt 6 = .ok (.getfield 46, 3) := by decide +kernel
theorem dX6_numberAt_9 : decode cX6_numberAt 9 = .ok (.if_icmp .ge 12, 3) := by decide +kernel
theorem dX6_numberAt_12 : decode cX6_numberAt 12 = .ok (.aload_n 0, 1) := by decide +kernel
theorem dX6_numberAt_13 : decode cX6_numberAt 13 = .ok (.getfield 24, 3) := by decide +kernel
theorem dX6_numberAt_16 : decode cX6_numberAt 16 = .ok (.iload_n 1, 1) := by decide +kernel
theorem dX6_numberAt_17 : decode cX6_numberAt 17 = .ok (.iaload, 1) := by decide +kernel
theorem dX6_numberAt_18 : decode cX6_numberAt 18 = .ok (.goto 4, 3) := by decide +kernel
theorem dX6_numberAt_21 : decode cX6_numberAt 21 = .ok (.iconst 0, 1) := by decide +kernel
theorem dX6_numberAt_22 : decode cX6_numberAt 22 = .ok (.ireturn, 1) := by decide +kernel
theorem dX8_forget_0 : decode cX8_forget 0 = .ok (.aload_n 0, 1) := by decide +kernel
theorem dX8_forget_1 : decode cX8_forget 1 = .ok (.iconst (-1), 1) := by decide +kernel
theorem dX8_forget_2 : decode cX8_forget 2 = .ok (.putfield 28, 3) := by decide +kernel
theorem dX8_forget_5 : decode cX8_forget 5 = .ok (.aload_n 0, 1) := by decide +kernel
theorem dX8_forget_6 : decode cX8_forget 6 = .ok (.iconst 0, 1) := by decide +kernel
theorem dX8_forget_7 : decode cX8_forget 7 = .ok (.putfield 38, 3) := by decide +kernel
theorem dX8_forget_10 : decode cX8_forget 10 = .ok (.aload_n 0, 1) := by decide +kernel
theorem dX8_forget_11 : decode cX8_forget 11 = .ok (.iconst 0, 1) := by decide +kernel
theorem dX8_forget_12 : decode cX8_forget 12 = .ok (.putfield 41, 3) := by decide +kernel
theorem dX8_forget_15 : decode cX8_forget 15 = .ok (.aload_n 0, 1) := by decide +kernel
theorem dX8_forget_16 : decode cX8_forget 16 = .ok (.iconst 0, 1) := by decide +kernel
theorem dX8_forget_17 : decode cX8_forget 17 = .ok (.putfield 44, 3) := by decide +kernel
theorem dX8_forget_20 : decode cX8_forget 20 = .ok (.aload_n 0, 1) := by decide +kernel
theorem dX8_forget_21 : decode cX8_forget 21 = .ok (.iconst 0, 1) := by decide +kernel
theorem dX8_forget_22 : decode cX8_forget 22 = .ok (.putfield 47, 3) := by decide +kernel
theorem dX8_forget_25 : decode cX8_forget 25 = .ok (.aload_n 0, 1) := by decide +kernel
theorem dX8_forget_26 : decode cX8_forget 26 = .ok (.iconst 0, 1) := by decide +kernel
theorem dX8_forget_27 : decode cX8_forget 27 = .ok (.putfield 50, 3) := by decide +kernel
theorem dX8_forget_30 : decode cX8_forget 30 = .ok (.aload_n 0, 1) := by decide +kernel
theorem dX8_forget_31 : decode cX8_forget 31 = .ok (.iconst 0, 1) := by decide +kernel
theorem dX8_forget_32 : decode cX8_forget 32 = .ok (.putfield 53, 3) := by decide +kernel
theorem dX8_forget_35 : decode cX8_forget 35 = .ok (.aload_n 0, 1) := by decide +kernel
theorem dX8_forget_36 : decode cX8_forget 36 = .ok (.lconst 0, 1) := by decide +kernel
theorem dX8_forget_37 : decode cX8_forget 37 = .ok (.putfield 34, 3) := by decide +kernel
theorem dX8_forget_40 : decode cX8_forget 40 = .ok (.return_, 1) := by decide +kernel
theorem dX8_zeroAt_0 : decode cX8_zeroAt 0 = .ok (.aload_n 0, 1) := by decide +kernel
theorem dX8_zeroAt_1 : decode cX8_zeroAt 1 = .ok (.getfield 38, 3) := by decide +kernel
theorem dX8_zeroAt_4 : decode cX8_zeroAt 4 = .ok (.ireturn, 1) := by decide +kernel
theorem dX8_numberAt_0 : decode cX8_numberAt 0 = .ok (.aload_n 0, 1) := by decide +kernel
theorem dX8_numberAt_1 : decode cX8_numberAt 1 = .ok (.getfield 38, 3) := by decide +kernel
theorem dX8_numberAt_4 : decode cX8_numberAt 4 = .ok (.iconst 1, 1) := by decide +kernel
theorem dX8_numberAt_5 : decode cX8_numberAt 5 = .ok (.iadd, 1) := by decide +kernel
theorem dX8_numberAt_6 : decode cX8_numberAt 6 = .ok (.iload_n 1, 1) := by decide +kernel
theorem dX8_numberAt_7 : decode cX8_numberAt 7 = .ok (.iadd, 1) := by decide +kernel
theorem dX8_numberAt_8 : decode cX8_numberAt 8 = .ok (.ireturn, 1) := by decide +kernel
theorem dX8_hasResult_0 : decode cX8_hasResult 0 = .ok (.iload_n 1, 1) := by decide +kernel
theorem dX8_hasResult_1 : decode cX8_hasResult 1 = .ok (.ifCond .lt 15, 3) := by decide +kernel
theorem dX8_hasResult_4 : decode cX8_hasResult 4 = .ok (.iload_n 1, 1) := by decide +kernel
theorem dX8_hasResult_5 : decode cX8_hasResult 5 = .ok (.aload_n 0, 1) := by decide +kernel
theorem dX8_hasResult_6 : decode cX8_hasResult 6 = .ok (.getfield 50, 3) := by decide +kernel
theorem dX8_hasResult_9 : decode cX8_hasResult 9 = .ok (.if_icmp .ge 7, 3) := by decide +kernel
theorem dX8_hasResult_12 : decode cX8_hasResult 12 = .ok (.iconst 1, 1) := by decide +kernel
theorem dX8_hasResult_13 : decode cX8_hasResult 13 = .ok (.goto 4, 3) := by decide +kernel
theorem dX8_hasResult_16 : decode cX8_hasResult 16 = .ok (.iconst 0, 1) := by decide +kernel
theorem dX8_hasResult_17 : decode cX8_hasResult 17 = .ok (.ireturn, 1) := by decide +kernel
theorem dX8_hasBoth_0 : decode cX8_hasBoth 0 = .ok (.aload_n 0, 1) := by decide +kernel
theorem dX8_hasBoth_1 : decode cX8_hasBoth 1 = .ok (.iload_n 1, 1) := by decide +kernel
theorem dX8_hasBoth_2 : decode cX8_hasBoth 2 = .ok (.invokevirtual 76, 3) := by decide +kernel
theorem dX8_hasBoth_5 : decode cX8_hasBoth 5 = .ok (.ifCond .eq 19, 3) := by decide +kernel
theorem dX8_hasBoth_8 : decode cX8_hasBoth 8 = .ok (.iload_n 2, 1) := by decide +kernel
theorem dX8_hasBoth_9 : decode cX8_hasBoth 9 = .ok (.ifCond .lt 15, 3) := by decide +kernel
theorem dX8_hasBoth_12 : decode cX8_hasBoth 12 = .ok (.iload_n 2, 1) := by decide +kernel
theorem dX8_hasBoth_13 : decode cX8_hasBoth 13 = .ok (.aload_n 0, 1) := by decide +kernel
theorem dX8_hasBoth_14 : decode cX8_hasBoth 14 = .ok (.getfield 38, 3) := by decide +kernel
theorem dX8_hasBoth_17 : decode cX8_hasBoth 17 = .ok (.if_icmp .ge 7, 3) := by decide +kernel
theorem dX8_hasBoth_20 : decode cX8_hasBoth 20 = .ok (.iconst 1, 1) := by decide +kernel
theorem dX8_hasBoth_21 : decode cX8_hasBoth 21 = .ok (.goto 4, 3) := by decide +kernel
theorem dX8_hasBoth_24 : decode cX8_hasBoth 24 = .ok (.iconst 0, 1) := by decide +kernel
theorem dX8_hasBoth_25 : decode cX8_hasBoth 25 = .ok (.ireturn, 1) := by decide +kernel
theorem dX8_holds_0 : decode cX8_holds 0 = .ok (.iload_n 1, 1) := by decide +kernel
theorem dX8_holds_1 : decode cX8_holds 1 = .ok (.ifCond .lt 15, 3) := by decide +kernel
theorem dX8_holds_4 : decode cX8_holds 4 = .ok (.iload_n 1, 1) := by decide +kernel
theorem dX8_holds_5 : decode cX8_holds 5 = .ok (.aload_n 0, 1) := by decide +kernel
theorem dX8_holds_6 : decode cX8_holds 6 = .ok (.getfield 44, 3) := by decide +kernel
theorem dX8_holds_9 : decode cX8_holds 9 = .ok (.if_icmp .ge 7, 3) := by decide +kernel
theorem dX8_holds_12 : decode cX8_holds 12 = .ok (.iconst 1, 1) := by decide +kernel
theorem dX8_holds_13 : decode cX8_holds 13 = .ok (.goto 4, 3) := by decide +kernel
theorem dX8_holds_16 : decode cX8_holds 16 = .ok (.iconst 0, 1) := by decide +kernel
theorem dX8_holds_17 : decode cX8_holds 17 = .ok (.ireturn, 1) := by decide +kernel
theorem dX8_valueAt_0 : decode cX8_valueAt 0 = .ok (.aload_n 0, 1) := by decide +kernel
theorem dX8_valueAt_1 : decode cX8_valueAt 1 = .ok (.iload_n 1, 1) := by decide +kernel
theorem dX8_valueAt_2 : decode cX8_valueAt 2 = .ok (.invokevirtual 84, 3) := by decide +kernel
theorem dX8_valueAt_5 : decode cX8_valueAt 5 = .ok (.ifCond .eq 12, 3) := by decide +kernel
theorem dX8_valueAt_8 : decode cX8_valueAt 8 = .ok (.aload_n 0, 1) := by decide +kernel
theorem dX8_valueAt_9 : decode cX8_valueAt 9 = .ok (.getfield 11, 3) := by decide +kernel
theorem dX8_valueAt_12 : decode cX8_valueAt 12 = .ok (.iload_n 1, 1) := by decide +kernel
theorem dX8_valueAt_13 : decode cX8_valueAt 13 = .ok (.laload, 1) := by decide +kernel
theorem dX8_valueAt_14 : decode cX8_valueAt 14 = .ok (.goto 4, 3) := by decide +kernel
theorem dX8_valueAt_17 : decode cX8_valueAt 17 = .ok (.lconst 0, 1) := by decide +kernel
theorem dX8_valueAt_18 : decode cX8_valueAt 18 = .ok (.lreturn, 1) := by decide +kernel
theorem dX8_resultValue_0 : decode cX8_resultValue 0 = .ok (.aload_n 0, 1) := by decide +kernel
theorem dX8_resultValue_1 : decode cX8_resultValue 1 = .ok (.iload_n 1, 1) := by decide +kernel
theorem dX8_resultValue_2 : decode cX8_resultValue 2 = .ok (.invokevirtual 76, 3) := by decide +kernel
theorem dX8_resultValue_5 : decode cX8_resultValue 5 = .ok (.ifCond .eq 16, 3) := by decide +kernel
theorem dX8_resultValue_8 : decode cX8_resultValue 8 = .ok (.aload_n 0, 1) := by decide +kernel
theorem dX8_resultValue_9 : decode cX8_resultValue 9 = .ok (.aload_n 0, 1) := by decide +kernel
theorem dX8_resultValue_10 : decode cX8_resultValue 10 = .ok (.getfield 25, 3) := by decide +kernel
theorem dX8_resultValue_13 : decode cX8_resultValue 13 = .ok (.iload_n 1, 1) := by decide +kernel
theorem dX8_resultValue_14 : decode cX8_resultValue 14 = .ok (.iaload, 1) := by decide +kernel
theorem dX8_resultValue_15 : decode cX8_resultValue 15 = .ok (.invokevirtual 80, 3) := by decide +kernel
theorem dX8_resultValue_18 : decode cX8_resultValue 18 = .ok (.goto 4, 3) := by decide +kernel
theorem dX8_resultValue_21 : decode cX8_resultValue 21 = .ok (.lconst 0, 1) := by decide +kernel
theorem dX8_resultValue_22 : decode cX8_resultValue 22 = .ok (.lreturn, 1) := by decide +kernel
theorem dX8_resultAt_0 : decode cX8_resultAt 0 = .ok (.aload_n 0, 1) := by decide +kernel
theorem dX8_resultAt_1 : decode cX8_resultAt 1 = .ok (.iload_n 1, 1) := by decide +kernel
theorem dX8_resultAt_2 : decode cX8_resultAt 2 = .ok (.invokevirtual 76, 3) := by decide +kernel
theorem dX8_resultAt_5 : decode cX8_resultAt 5 = .ok (.ifCond .eq 12, 3) := by decide +kernel
theorem dX8_resultAt_8 : decode cX8_resultAt 8 = .ok (.aload_n 0, 1) := by decide +kernel
theorem dX8_resultAt_9 : decode cX8_resultAt 9 = .ok (.getfield 25, 3) := by decide +kernel
theorem dX8_resultAt_12 : decode cX8_resultAt 12 = .ok (.iload_n 1, 1) := by decide +kernel
theorem dX8_resultAt_13 : decode cX8_resultAt 13 = .ok (.iaload, 1) := by decide +kernel
theorem dX8_resultAt_14 : decode cX8_resultAt 14 = .ok (.goto 7, 3) := by decide +kernel
theorem dX8_resultAt_17 : decode cX8_resultAt 17 = .ok (.aload_n 0, 1) := by decide +kernel
theorem dX8_resultAt_18 : decode cX8_resultAt 18 = .ok (.invokevirtual 63, 3) := by decide +kernel
theorem dX8_resultAt_21 : decode cX8_resultAt 21 = .ok (.ireturn, 1) := by decide +kernel
theorem dX8_lay_0 : decode cX8_lay 0 = .ok (.aload_n 0, 1) := by decide +kernel
theorem dX8_lay_1 : decode cX8_lay 1 = .ok (.getfield 44, 3) := by decide +kernel
theorem dX8_lay_4 : decode cX8_lay 4 = .ok (.sipush 1359, 3) := by decide +kernel
theorem dX8_lay_7 : decode cX8_lay 7 = .ok (.if_icmp .ge 19, 3) := by decide +kernel
theorem dX8_lay_10 : decode cX8_lay 10 = .ok (.aload_n 0, 1) := by decide +kernel
theorem dX8_lay_11 : decode cX8_lay 11 = .ok (.iload_n 2, 1) := by decide +kernel
theorem dX8_lay_12 : decode cX8_lay 12 = .ok (.invokevirtual 84, 3) := by decide +kernel
theorem dX8_lay_15 : decode cX8_lay 15 = .ok (.ifCond .eq 11, 3) := by decide +kernel
theorem dX8_lay_18 : decode cX8_lay 18 = .ok (.aload_n 0, 1) := by decide +kernel
theorem dX8_lay_19 : decode cX8_lay 19 = .ok (.iload_n 3, 1) := by decide +kernel
theorem dX8_lay_20 : decode cX8_lay 20 = .ok (.invokevirtual 84, 3) := by decide +kernel
theorem dX8_lay_23 : decode cX8_lay 23 = .ok (.ifCond .ne 8, 3) := by decide +kernel
theorem dX8_lay_26 : decode cX8_lay 26 = .ok (.aload_n 0, 1) := by decide +kernel
theorem dX8_lay_27 : decode cX8_lay 27 = .ok (.invokevirtual 63, 3) := by decide +kernel
theorem dX8_lay_30 : decode cX8_lay 30 = .ok (.ireturn, 1) := by decide +kernel
theorem dX8_lay_31 : decode cX8_lay 31 = .ok (.aload_n 0, 1) := by decide +kernel
theorem dX8_lay_32 : decode cX8_lay 32 = .ok (.getfield 15, 3) := by decide +kernel
theorem dX8_lay_35 : decode cX8_lay 35 = .ok (.aload_n 0, 1) := by decide +kernel
theorem dX8_lay_36 : decode cX8_lay 36 = .ok (.getfield 44, 3) := by decide +kernel
theorem dX8_lay_39 : decode cX8_lay 39 = .ok (.iload_n 1, 1) := by decide +kernel
theorem dX8_lay_40 : decode cX8_lay 40 = .ok (.iastore, 1) := by decide +kernel
theorem dX8_lay_41 : decode cX8_lay 41 = .ok (.aload_n 0, 1) := by decide +kernel
theorem dX8_lay_42 : decode cX8_lay 42 = .ok (.getfield 19, 3) := by decide +kernel
theorem dX8_lay_45 : decode cX8_lay 45 = .ok (.aload_n 0, 1) := by decide +kernel
theorem dX8_lay_46 : decode cX8_lay 46 = .ok (.getfield 44, 3) := by decide +kernel
theorem dX8_lay_49 : decode cX8_lay 49 = .ok (.iload_n 2, 1) := by decide +kernel
theorem dX8_lay_50 : decode cX8_lay 50 = .ok (.iastore, 1) := by decide +kernel
theorem dX8_lay_51 : decode cX8_lay 51 = .ok (.aload_n 0, 1) := by decide +kernel
theorem dX8_lay_52 : decode cX8_lay 52 = .ok (.getfield 22, 3) := by decide +kernel
theorem dX8_lay_55 : decode cX8_lay 55 = .ok (.aload_n 0, 1) := by decide +kernel
theorem dX8_lay_56 : decode cX8_lay 56 = .ok (.getfield 44, 3) := by decide +kernel
theorem dX8_lay_59 : decode cX8_lay 59 = .ok (.iload_n 3, 1) := by decide +kernel
theorem dX8_lay_60 : decode cX8_lay 60 = .ok (.iastore, 1) := by decide +kernel
theorem dX8_lay_61 : decode cX8_lay 61 = .ok (.aload_n 0, 1) := by decide +kernel
theorem dX8_lay_62 : decode cX8_lay 62 = .ok (.getfield 11, 3) := by decide +kernel
theorem dX8_lay_65 : decode cX8_lay 65 = .ok (.aload_n 0, 1) := by decide +kernel
theorem dX8_lay_66 : decode cX8_lay 66 = .ok (.getfield 44, 3) := by decide +kernel
theorem dX8_lay_69 : decode cX8_lay 69 = .ok (.lload 4, 2) := by decide +kernel
theorem dX8_lay_71 : decode cX8_lay 71 = .ok (.lastore, 1) := by decide +kernel
theorem dX8_lay_72 : decode cX8_lay 72 = .ok (.aload_n 0, 1) := by decide +kernel
theorem dX8_lay_73 : decode cX8_lay 73 = .ok (.dup, 1) := by decide +kernel
theorem dX8_lay_74 : decode cX8_lay 74 = .ok (.getfield 44, 3) := by decide +kernel
theorem dX8_lay_77 : decode cX8_lay 77 = .ok (.iconst 1, 1) := by decide +kernel
theorem dX8_lay_78 : decode cX8_lay 78 = .ok (.iadd, 1) := by decide +kernel
theorem dX8_lay_79 : decode cX8_lay 79 = .ok (.putfield 44, 3) := by decide +kernel
theorem dX8_lay_82 : decode cX8_lay 82 = .ok (.aload_n 0, 1) := by decide +kernel
theorem dX8_lay_83 : decode cX8_lay 83 = .ok (.dup, 1) := by decide +kernel
theorem dX8_lay_84 : decode cX8_lay 84 = .ok (.getfield 47, 3) := by decide +kernel
theorem dX8_lay_87 : decode cX8_lay 87 = .ok (.iconst 1, 1) := by decide +kernel
theorem dX8_lay_88 : decode cX8_lay 88 = .ok (.iadd, 1) := by decide +kernel
theorem dX8_lay_89 : decode cX8_lay 89 = .ok (.putfield 47, 3) := by decide +kernel
theorem dX8_lay_92 : decode cX8_lay 92 = .ok (.aload_n 0, 1) := by decide +kernel
theorem dX8_lay_93 : decode cX8_lay 93 = .ok (.getfield 44, 3) := by decide +kernel
theorem dX8_lay_96 : decode cX8_lay 96 = .ok (.iconst 1, 1) := by decide +kernel
theorem dX8_lay_97 : decode cX8_lay 97 = .ok (.isub, 1) := by decide +kernel
theorem dX8_lay_98 : decode cX8_lay 98 = .ok (.ireturn, 1) := by decide +kernel
theorem dX8_giveOut_0 : decode cX8_giveOut 0 = .ok (.aload_n 0, 1) := by decide +kernel
theorem dX8_giveOut_1 : decode cX8_giveOut 1 = .ok (.getfield 50, 3) := by decide +kernel
theorem dX8_giveOut_4 : decode cX8_giveOut 4 = .ok (.bipush 12, 2) := by decide +kernel
theorem dX8_giveOut_6 : decode cX8_giveOut 6 = .ok (.if_icmp .ge 11, 3) := by decide +kernel
theorem dX8_giveOut_9 : decode cX8_giveOut 9 = .ok (.aload_n 0, 1) := by decide +kernel
theorem dX8_giveOut_10 : decode cX8_giveOut 10 = .ok (.iload_n 1, 1) := by decide +kernel
theorem dX8_giveOut_11 : decode cX8_giveOut 11 = .ok (.invokevirtual 84, 3) := by decide +kernel
theorem dX8_giveOut_14 : decode cX8_giveOut 14 = .ok (.ifCond .ne 5, 3) := by decide +kernel
theorem dX8_giveOut_17 : decode cX8_giveOut 17 = .ok (.iconst 0, 1) := by decide +kernel
theorem dX8_giveOut_18 : decode cX8_giveOut 18 = .ok (.ireturn, 1) := by decide +kernel
theorem dX8_giveOut_19 : decode cX8_giveOut 19 = .ok (.aload_n 0, 1) := by decide +kernel
theorem dX8_giveOut_20 : decode cX8_giveOut 20 = .ok (.getfield 25, 3) := by decide +kernel
theorem dX8_giveOut_23 : decode cX8_giveOut 23 = .ok (.aload_n 0, 1) := by decide +kernel
theorem dX8_giveOut_24 : decode cX8_giveOut 24 = .ok (.getfield 50, 3) := by decide +kernel
theorem dX8_giveOut_27 : decode cX8_giveOut 27 = .ok (.iload_n 1, 1) := by decide +kernel
theorem dX8_giveOut_28 : decode cX8_giveOut 28 = .ok (.iastore, 1) := by decide +kernel
theorem dX8_giveOut_29 : decode cX8_giveOut 29 = .ok (.aload_n 0, 1) := by decide +kernel
theorem dX8_giveOut_30 : decode cX8_giveOut 30 = .ok (.dup, 1) := by decide +kernel
theorem dX8_giveOut_31 : decode cX8_giveOut 31 = .ok (.getfield 50, 3) := by decide +kernel
theorem dX8_giveOut_34 : decode cX8_giveOut 34 = .ok (.iconst 1, 1) := by decide +kernel
theorem dX8_giveOut_35 : decode cX8_giveOut 35 = .ok (.iadd, 1) := by decide +kernel
theorem dX8_giveOut_36 : decode cX8_giveOut 36 = .ok (.putfield 50, 3) := by decide +kernel
theorem dX8_giveOut_39 : decode cX8_giveOut 39 = .ok (.iconst 1, 1) := by decide +kernel
theorem dX8_giveOut_40 : decode cX8_giveOut 40 = .ok (.ireturn, 1) := by decide +kernel
theorem dX8_meet_0 : decode cX8_meet 0 = .ok (.lload_n 1, 1) := by decide +kernel
theorem dX8_meet_1 : decode cX8_meet 1 = .ok (.lload_n 3, 1) := by decide +kernel
theorem dX8_meet_2 : decode cX8_meet 2 = .ok (.lcmp, 1) := by decide +kernel
theorem dX8_meet_3 : decode cX8_meet 3 = .ok (.ifCond .ne 13, 3) := by decide +kernel
theorem dX8_meet_6 : decode cX8_meet 6 = .ok (.aload_n 0, 1) := by decide +kernel
theorem dX8_meet_7 : decode cX8_meet 7 = .ok (.dup, 1) := by decide +kernel
theorem dX8_meet_8 : decode cX8_meet 8 = .ok (.getfield 53, 3) := by decide +kernel
theorem dX8_meet_11 : decode cX8_meet 11 = .ok (.iconst 1, 1) := by decide +kernel
theorem dX8_meet_12 : decode cX8_meet 12 = .ok (.iadd, 1) := by decide +kernel
theorem dX8_meet_13 : decode cX8_meet 13 = .ok (.putfield 53, 3) := by decide +kernel
theorem dX8_meet_16 : decode cX8_meet 16 = .ok (.lload_n 1, 1) := by decide +kernel
theorem dX8_meet_17 : decode cX8_meet 17 = .ok (.lload_n 3, 1) := by decide +kernel
theorem dX8_meet_18 : decode cX8_meet 18 = .ok (.invokestatic 87, 3) := by decide +kernel
theorem dX8_meet_21 : decode cX8_meet 21 = .ok (.invokestatic 90, 3) := by decide +kernel
theorem dX8_meet_24 : decode cX8_meet 24 = .ok (.lstore 5, 2) := by decide +kernel
theorem dX8_meet_26 : decode cX8_meet 26 = .ok (.lload 5, 2) := by decide +kernel
theorem dX8_meet_28 : decode cX8_meet 28 = .ok (.lconst 0, 1) := by decide +kernel
theorem dX8_meet_29 : decode cX8_meet 29 = .ok (.lcmp, 1) := by decide +kernel
theorem dX8_meet_30 : decode cX8_meet 30 = .ok (.ifCond .ne 4, 3) := by decide +kernel
theorem dX8_meet_33 : decode cX8_meet 33 = .ok (.return_, 1) := by decide +kernel
theorem dX8_meet_34 : decode cX8_meet 34 = .ok (.aload_n 0, 1) := by decide +kernel
theorem dX8_meet_35 : decode cX8_meet 35 = .ok (.getfield 34, 3) := by decide +kernel
theorem dX8_meet_38 : decode cX8_meet 38 = .ok (.lconst 0, 1) := by decide +kernel
theorem dX8_meet_39 : decode cX8_meet 39 = .ok (.lcmp, 1) := by decide +kernel
theorem dX8_meet_40 : decode cX8_meet 40 = .ok (.ifCond .eq 15, 3) := by decide +kernel
theorem dX8_meet_43 : decode cX8_meet 43 = .ok (.lload 5, 2) := by decide +kernel
theorem dX8_meet_45 : decode cX8_meet 45 = .ok (.aload_n 0, 1) := by decide +kernel
theorem dX8_meet_46 : decode cX8_meet 46 = .ok (.getfield 34, 3) := by decide +kernel
theorem dX8_meet_49 : decode cX8_meet 49 = .ok (.invokestatic 94, 3) := by decide +kernel
theorem dX8_meet_52 : decode cX8_meet 52 = .ok (.ifCond .ge 9, 3) := by decide +kernel
theorem dX8_meet_55 : decode cX8_meet 55 = .ok (.aload_n 0, 1) := by decide +kernel
theorem dX8_meet_56 : decode cX8_meet 56 = .ok (.lload 5, 2) := by decide +kernel
theorem dX8_meet_58 : decode cX8_meet 58 = .ok (.putfield 34, 3) := by decide +kernel
theorem dX8_meet_61 : decode cX8_meet 61 = .ok (.return_, 1) := by decide +kernel
theorem dX8_putInput_0 : decode cX8_putInput 0 = .ok (.iload_n 1, 1) := by decide +kernel
theorem dX8_putInput_1 : decode cX8_putInput 1 = .ok (.ifCond .lt 18, 3) := by decide +kernel
theorem dX8_putInput_4 : decode cX8_putInput 4 = .ok (.iload_n 1, 1) := by decide +kernel
theorem dX8_putInput_5 : decode cX8_putInput 5 = .ok (.aload_n 0, 1) := by decide +kernel
theorem dX8_putInput_6 : decode cX8_putInput 6 = .ok (.getfield 38, 3) := by decide +kernel
theorem dX8_putInput_9 : decode cX8_putInput 9 = .ok (.if_icmp .ge 10, 3) := by decide +kernel
theorem dX8_putInput_12 : decode cX8_putInput 12 = .ok (.aload_n 0, 1) := by decide +kernel
theorem dX8_putInput_13 : decode cX8_putInput 13 = .ok (.getfield 11, 3) := by decide +kernel
theorem dX8_putInput_16 : decode cX8_putInput 16 = .ok (.iload_n 1, 1) := by decide +kernel
theorem dX8_putInput_17 : decode cX8_putInput 17 = .ok (.lload_n 2, 1) := by decide +kernel
theorem dX8_putInput_18 : decode cX8_putInput 18 = .ok (.lastore, 1) := by decide +kernel
theorem dX8_putInput_19 : decode cX8_putInput 19 = .ok (.return_, 1) := by decide +kernel
def v_p_whatAt : List Cond := .code yX6_whatAt cX6_whatAt 2 (some .int) :: ([.fieldLink RX6 52 "SlopeRunner$Program" "length" "I", .fieldLink RX6 27 "SlopeRunner$Program" "code" "[I"] ++ wsX60)
set_option maxHeartbeats 4000000 in
set_option maxRecDepth 100000 in
theorem p_whatAt (l : Launch) (D : va_G) (y : Nat → ClassId) (sz : Nat) (ad : Nat → Nat) (σ : OS) (q : Int32) (hln0 : 0 ≤ (σ.1 86).toInt) (hln1 : (σ.1 86).toInt ≤ 700) : Met l yX6_whatAt v_p_whatAt ({ frames := 0, cells := 0, slots := 0, locals := 0 } : Room) (va_Pc [.ref (ad 80), .int q] (xPre D (xT y) (pqw y ad σ) sz)) (va_Qi (fun (r : Int32) (_ : Unit) => True) (fun (u : Unit) => xB D (xT y) (va_A (pqw y ad σ) sz) (pqw y ad σ)) (va_A (pqw y ad σ) sz)) 0 0 (va_A (pqw y ad σ) sz) := by
  refine x_meti (cc := cX6_whatAt) (maxL := 2) (by decide) rfl (Nat.le_of_ble_eq_true rfl) ?_
  intro p e s m below meth c A H locs Q hx hb hml hown hts hr hlocks hmn hA hP hK hD hS ls hl hQ
  have hl : lv_has ls 2 [(0, .ref (ad 80)), (1, .int q)] := hl
  have kk_0 : (0 : Int32).toInt = 0 := rfl
  have kk_m1 : ((-1) : Int32).toInt = -1 := rfl
  have fl52 := hts (.fieldLink RX6 52 "SlopeRunner$Program" "length" "I") (List.mem_of_getElem? (i := 1) rfl)
  have inX6 : ∀ w ∈ wsX60, w ∈ v_p_whatAt := (fun w h => List.mem_cons_of_mem _ (List.mem_append_right _ h))
  have fl27 := hts (.fieldLink RX6 27 "SlopeRunner$Program" "code" "[I") (List.mem_of_getElem? (i := 2) rfl)
  refine lv_iload_n hx hb dX6_whatAt_0 rfl (lv_at hl 1 rfl) ?_
  refine lv_if_lt (tgt := 24) hx hb dX6_whatAt_1 (by decide) (fun c_1 => ?_) (fun c_1 => ?_)
  · have kc_1 : q.toInt < 0 := by have h9 := c_1; simp only [ge_iff_le, gt_iff_lt, x_lt, x_le, x_eq, ne_eq, Int32.not_lt, Int32.not_le] at h9; simp only [Int32.reduceToInt] at h9; omega
    refine lv_iconst (v := (-1)) hx hb dX6_whatAt_24 (by decide) ?_
    exact x_iretW (v := (-1)) (u := ()) hx hb hr hQ trivial hP hD hK hS dX6_whatAt_25 hlocks
  · have kc_1 : q.toInt ≥ 0 := by have h9 := c_1; simp only [ge_iff_le, gt_iff_lt, x_lt, x_le, x_eq, ne_eq, Int32.not_lt, Int32.not_le] at h9; simp only [Int32.reduceToInt] at h9; omega
    refine lv_iload_n hx hb dX6_whatAt_4 rfl (lv_at hl 1 rfl) ?_
    refine lv_aload_n hx hb dX6_whatAt_5 rfl (lv_at hl 0 rfl) ?_
    refine va_get (D := D) (ci := 5) (v := .int (σ.1 86)) (C := RX6) (T := TX6) (N := 13) hx hb hts inX6 hown hK hP 0 pqw_o0 rfl 5 (by decide) fl52 (fun _ h9 => h9) rfl dX6_whatAt_6 ?_
    refine lv_icmp_ge (tgt := 24) hx hb dX6_whatAt_9 (by decide) (fun c_2 => ?_) (fun c_2 => ?_)
    · have kc_2 : q.toInt ≥ (σ.1 86).toInt := by have h9 := c_2; simp only [ge_iff_le, gt_iff_lt, x_lt, x_le, x_eq, ne_eq, Int32.not_lt, Int32.not_le] at h9; omega
      refine lv_iconst (v := (-1)) hx hb dX6_whatAt_24 (by decide) ?_
      exact x_iretW (v := (-1)) (u := ()) hx hb hr hQ trivial hP hD hK hS dX6_whatAt_25 hlocks
    · have kc_2 : q.toInt < (σ.1 86).toInt := by have h9 := c_2; simp only [ge_iff_le, gt_iff_lt, x_lt, x_le, x_eq, ne_eq, Int32.not_lt, Int32.not_le] at h9; omega
      refine lv_aload_n hx hb dX6_whatAt_12 rfl (lv_at hl 0 rfl) ?_
      refine va_get (D := D) (ci := 5) (v := .ref (ad 92)) (C := RX6) (T := TX6) (N := 13) hx hb hts inX6 hown hK hP 0 pqw_o0 rfl 11 (by decide) fl27 (fun _ h9 => h9) rfl dX6_whatAt_13 ?_
      refine lv_iload_n hx hb dX6_whatAt_16 rfl (lv_at hl 1 rfl) ?_
      refine va_iald hx hb hK hP 5 2 pqw_a5 rfl (x_in (by omega) (by omega)) dX6_whatAt_17 ?_
      refine lv_topi (fun i_3 ei_3 => ?_)
      have ei_3 : i_3 = (σ.2.2.1 92) (Int32.toNatClampNeg q) := ei_3
      refine lv_bipush (v := 12) hx hb dX6_whatAt_18 (by decide) ?_
      refine lv_ishr hx hb dX6_whatAt_20 ?_
      refine lv_topi (fun i_4 ei_4 => ?_)
      refine lv_goto (tgt := 25) hx hb dX6_whatAt_21 (by decide) ?_
      exact x_iretW (v := i_4) (u := ()) hx hb hr hQ trivial hP hD hK hS dX6_whatAt_25 hlocks

def v_p_argumentAt : List Cond := .code yX6_argumentAt cX6_argumentAt 2 (some .int) :: ([.fieldLink RX6 52 "SlopeRunner$Program" "length" "I", .fieldLink RX6 27 "SlopeRunner$Program" "code" "[I"] ++ wsX60)
set_option maxHeartbeats 4000000 in
set_option maxRecDepth 100000 in
theorem p_argumentAt (l : Launch) (D : va_G) (y : Nat → ClassId) (sz : Nat) (ad : Nat → Nat) (σ : OS) (q : Int32) (hln0 : 0 ≤ (σ.1 86).toInt) (hln1 : (σ.1 86).toInt ≤ 700) : Met l yX6_argumentAt v_p_argumentAt ({ frames := 0, cells := 0, slots := 0, locals := 0 } : Room) (va_Pc [.ref (ad 80), .int q] (xPre D (xT y) (pqw y ad σ) sz)) (va_Qi (fun (r : Int32) (_ : Unit) => True) (fun (u : Unit) => xB D (xT y) (va_A (pqw y ad σ) sz) (pqw y ad σ)) (va_A (pqw y ad σ) sz)) 0 0 (va_A (pqw y ad σ) sz) := by
  refine x_meti (cc := cX6_argumentAt) (maxL := 2) (by decide) rfl (Nat.le_of_ble_eq_true rfl) ?_
  intro p e s m below meth c A H locs Q hx hb hml hown hts hr hlocks hmn hA hP hK hD hS ls hl hQ
  have hl : lv_has ls 2 [(0, .ref (ad 80)), (1, .int q)] := hl
  have kk_0 : (0 : Int32).toInt = 0 := rfl
  have fl52 := hts (.fieldLink RX6 52 "SlopeRunner$Program" "length" "I") (List.mem_of_getElem? (i := 1) rfl)
  have inX6 : ∀ w ∈ wsX60, w ∈ v_p_argumentAt := (fun w h => List.mem_cons_of_mem _ (List.mem_append_right _ h))
  have fl27 := hts (.fieldLink RX6 27 "SlopeRunner$Program" "code" "[I") (List.mem_of_getElem? (i := 2) rfl)
  refine lv_iload_n hx hb dX6_argumentAt_0 rfl (lv_at hl 1 rfl) ?_
  refine lv_if_lt (tgt := 25) hx hb dX6_argumentAt_1 (by decide) (fun c_1 => ?_) (fun c_1 => ?_)
  · have kc_1 : q.toInt < 0 := by have h9 := c_1; simp only [ge_iff_le, gt_iff_lt, x_lt, x_le, x_eq, ne_eq, Int32.not_lt, Int32.not_le] at h9; simp only [Int32.reduceToInt] at h9; omega
    refine lv_iconst (v := 0) hx hb dX6_argumentAt_25 (by decide) ?_
    exact x_iretW (v := 0) (u := ()) hx hb hr hQ trivial hP hD hK hS dX6_argumentAt_26 hlocks
  · have kc_1 : q.toInt ≥ 0 := by have h9 := c_1; simp only [ge_iff_le, gt_iff_lt, x_lt, x_le, x_eq, ne_eq, Int32.not_lt, Int32.not_le] at h9; simp only [Int32.reduceToInt] at h9; omega
    refine lv_iload_n hx hb dX6_argumentAt_4 rfl (lv_at hl 1 rfl) ?_
    refine lv_aload_n hx hb dX6_argumentAt_5 rfl (lv_at hl 0 rfl) ?_
    refine va_get (D := D) (ci := 5) (v := .int (σ.1 86)) (C := RX6) (T := TX6) (N := 13) hx hb hts inX6 hown hK hP 0 pqw_o0 rfl 5 (by decide) fl52 (fun _ h9 => h9) rfl dX6_argumentAt_6 ?_
    refine lv_icmp_ge (tgt := 25) hx hb dX6_argumentAt_9 (by decide) (fun c_2 => ?_) (fun c_2 => ?_)
    · have kc_2 : q.toInt ≥ (σ.1 86).toInt := by have h9 := c_2; simp only [ge_iff_le, gt_iff_lt, x_lt, x_le, x_eq, ne_eq, Int32.not_lt, Int32.not_le] at h9; omega
      refine lv_iconst (v := 0) hx hb dX6_argumentAt_25 (by decide) ?_
      exact x_iretW (v := 0) (u := ()) hx hb hr hQ trivial hP hD hK hS dX6_argumentAt_26 hlocks
    · have kc_2 : q.toInt < (σ.1 86).toInt := by have h9 := c_2; simp only [ge_iff_le, gt_iff_lt, x_lt, x_le, x_eq, ne_eq, Int32.not_lt, Int32.not_le] at h9; omega
      refine lv_aload_n hx hb dX6_argumentAt_12 rfl (lv_at hl 0 rfl) ?_
      refine va_get (D := D) (ci := 5) (v := .ref (ad 92)) (C := RX6) (T := TX6) (N := 13) hx hb hts inX6 hown hK hP 0 pqw_o0 rfl 11 (by decide) fl27 (fun _ h9 => h9) rfl dX6_argumentAt_13 ?_
      refine lv_iload_n hx hb dX6_argumentAt_16 rfl (lv_at hl 1 rfl) ?_
      refine va_iald hx hb hK hP 5 2 pqw_a5 rfl (x_in (by omega) (by omega)) dX6_argumentAt_17 ?_
      refine lv_topi (fun i_3 ei_3 => ?_)
      have ei_3 : i_3 = (σ.2.2.1 92) (Int32.toNatClampNeg q) := ei_3
      refine lv_sipush (v := 4095) hx hb dX6_argumentAt_18 (by decide) ?_
      refine lv_iand hx hb dX6_argumentAt_21 ?_
      refine lv_topi (fun i_4 ei_4 => ?_)
      refine lv_goto (tgt := 26) hx hb dX6_argumentAt_22 (by decide) ?_
      exact x_iretW (v := i_4) (u := ()) hx hb hr hQ trivial hP hD hK hS dX6_argumentAt_26 hlocks

def v_p_numberAt : List Cond := .code yX6_numberAt cX6_numberAt 2 (some .int) :: ([.fieldLink RX6 46 "SlopeRunner$Program" "numbers" "I", .fieldLink RX6 24 "SlopeRunner$Program" "number" "[I"] ++ wsX60)
set_option maxHeartbeats 4000000 in
set_option maxRecDepth 100000 in
theorem p_numberAt (l : Launch) (D : va_G) (y : Nat → ClassId) (sz : Nat) (ad : Nat → Nat) (σ : OS) (q : Int32) (hnb0 : 0 ≤ (σ.1 85).toInt) (hnb1 : (σ.1 85).toInt ≤ 350) : Met l yX6_numberAt v_p_numberAt ({ frames := 0, cells := 0, slots := 0, locals := 0 } : Room) (va_Pc [.ref (ad 80), .int q] (xPre D (xT y) (pqw y ad σ) sz)) (va_Qi (fun (r : Int32) (_ : Unit) => True) (fun (u : Unit) => xB D (xT y) (va_A (pqw y ad σ) sz) (pqw y ad σ)) (va_A (pqw y ad σ) sz)) 0 0 (va_A (pqw y ad σ) sz) := by
  refine x_meti (cc := cX6_numberAt) (maxL := 2) (by decide) rfl (Nat.le_of_ble_eq_true rfl) ?_
  intro p e s m below meth c A H locs Q hx hb hml hown hts hr hlocks hmn hA hP hK hD hS ls hl hQ
  have hl : lv_has ls 2 [(0, .ref (ad 80)), (1, .int q)] := hl
  have kk_0 : (0 : Int32).toInt = 0 := rfl
  have fl46 := hts (.fieldLink RX6 46 "SlopeRunner$Program" "numbers" "I") (List.mem_of_getElem? (i := 1) rfl)
  have inX6 : ∀ w ∈ wsX60, w ∈ v_p_numberAt := (fun w h => List.mem_cons_of_mem _ (List.mem_append_right _ h))
  have fl24 := hts (.fieldLink RX6 24 "SlopeRunner$Program" "number" "[I") (List.mem_of_getElem? (i := 2) rfl)
  refine lv_iload_n hx hb dX6_numberAt_0 rfl (lv_at hl 1 rfl) ?_
  refine lv_if_lt (tgt := 21) hx hb dX6_numberAt_1 (by decide) (fun c_1 => ?_) (fun c_1 => ?_)
  · have kc_1 : q.toInt < 0 := by have h9 := c_1; simp only [ge_iff_le, gt_iff_lt, x_lt, x_le, x_eq, ne_eq, Int32.not_lt, Int32.not_le] at h9; simp only [Int32.reduceToInt] at h9; omega
    refine lv_iconst (v := 0) hx hb dX6_numberAt_21 (by decide) ?_
    exact x_iretW (v := 0) (u := ()) hx hb hr hQ trivial hP hD hK hS dX6_numberAt_22 hlocks
  · have kc_1 : q.toInt ≥ 0 := by have h9 := c_1; simp only [ge_iff_le, gt_iff_lt, x_lt, x_le, x_eq, ne_eq, Int32.not_lt, Int32.not_le] at h9; simp only [Int32.reduceToInt] at h9; omega
    refine lv_iload_n hx hb dX6_numberAt_4 rfl (lv_at hl 1 rfl) ?_
    refine lv_aload_n hx hb dX6_numberAt_5 rfl (lv_at hl 0 rfl) ?_
    refine va_get (D := D) (ci := 5) (v := .int (σ.1 85)) (C := RX6) (T := TX6) (N := 13) hx hb hts inX6 hown hK hP 0 pqw_o0 rfl 4 (by decide) fl46 (fun _ h9 => h9) rfl dX6_numberAt_6 ?_
    refine lv_icmp_ge (tgt := 21) hx hb dX6_numberAt_9 (by decide) (fun c_2 => ?_) (fun c_2 => ?_)
    · have kc_2 : q.toInt ≥ (σ.1 85).toInt := by have h9 := c_2; simp only [ge_iff_le, gt_iff_lt, x_lt, x_le, x_eq, ne_eq, Int32.not_lt, Int32.not_le] at h9; omega
      refine lv_iconst (v := 0) hx hb dX6_numberAt_21 (by decide) ?_
      exact x_iretW (v := 0) (u := ()) hx hb hr hQ trivial hP hD hK hS dX6_numberAt_22 hlocks
    · have kc_2 : q.toInt < (σ.1 85).toInt := by have h9 := c_2; simp only [ge_iff_le, gt_iff_lt, x_lt, x_le, x_eq, ne_eq, Int32.not_lt, Int32.not_le] at h9; omega
      refine lv_aload_n hx hb dX6_numberAt_12 rfl (lv_at hl 0 rfl) ?_
      refine va_get (D := D) (ci := 5) (v := .ref (ad 91)) (C := RX6) (T := TX6) (N := 13) hx hb hts inX6 hown hK hP 0 pqw_o0 rfl 10 (by decide) fl24 (fun _ h9 => h9) rfl dX6_numberAt_13 ?_
      refine lv_iload_n hx hb dX6_numberAt_16 rfl (lv_at hl 1 rfl) ?_
      refine va_iald hx hb hK hP 4 2 pqw_a4 rfl (x_in (by omega) (by omega)) dX6_numberAt_17 ?_
      refine lv_topi (fun i_3 ei_3 => ?_)
      have ei_3 : i_3 = (σ.2.2.1 91) (Int32.toNatClampNeg q) := ei_3
      refine lv_goto (tgt := 22) hx hb dX6_numberAt_18 (by decide) ?_
      exact x_iretW (v := i_3) (u := ()) hx hb hr hQ trivial hP hD hK hS dX6_numberAt_22 hlocks

def v_ka_forget : List Cond := .code yX8_forget cX8_forget 1 none :: ([.fieldLink RX8 28 "SlopeRunner$Tape" "state" "I", .fieldLink RX8 38 "SlopeRunner$Tape" "inputs" "I", .fieldLink RX8 41 "SlopeRunner$Tape" "firstStep" "I", .fieldLink RX8 44 "SlopeRunner$Tape" "size" "I", .fieldLink RX8 47 "SlopeRunner$Tape" "steps" "I", .fieldLink RX8 50 "SlopeRunner$Tape" "results" "I", .fieldLink RX8 53 "SlopeRunner$Tape" "edges" "I", .fieldLink RX8 34 "SlopeRunner$Tape" "nearest" "J"] ++ wsX80)
set_option maxHeartbeats 4000000 in
set_option maxRecDepth 100000 in
theorem ka_forget (l : Launch) (D : va_G) (y : Nat → ClassId) (sz : Nat) (ad : Nat → Nat) (σ : OS)  : Met l yX8_forget v_ka_forget ({ frames := 0, cells := 0, slots := 0, locals := 0 } : Room) (va_Pc [.ref (ad 130)] (xPre D (xT y) (tpw y ad σ) sz)) (va_Qv (fun (u : Int32 × Int32 × Int32 × Int32 × Int32 × Int32 × Int32 × Int64) => u.2.1.toInt = 0 ∧ u.2.2.2.1.toInt = 0 ∧ u.2.2.2.2.2.1.toInt = 0 ∧ u.2.2.1.toInt = 0) (fun (u : Int32 × Int32 × Int32 × Int32 × Int32 × Int32 × Int32 × Int64) => xB D (xT y) (va_A (tpw y ad σ) sz) (tpw y ad (sJ (sI (sI (sI (sI (sI (sI (sI σ 136 u.1) 137 u.2.1) 138 u.2.2.1) 139 u.2.2.2.1) 140 u.2.2.2.2.1) 141 u.2.2.2.2.2.1) 142 u.2.2.2.2.2.2.1) 143 u.2.2.2.2.2.2.2))) (va_A (tpw y ad σ) sz)) 0 0 (va_A (tpw y ad σ) sz) := by
  refine x_metv (cc := cX8_forget) (maxL := 1) (by decide) rfl (Nat.le_of_ble_eq_true rfl) ?_
  intro p e s m below meth c A H locs Q hx hb hml hown hts hr hlocks hmn hA hP hK hD hS ls hl hQ
  have hl : lv_has ls 1 [(0, .ref (ad 130))] := hl
  have fl28 := hts (.fieldLink RX8 28 "SlopeRunner$Tape" "state" "I") (List.mem_of_getElem? (i := 1) rfl)
  have inX8 : ∀ w ∈ wsX80, w ∈ v_ka_forget := (fun w h => List.mem_cons_of_mem _ (List.mem_append_right _ h))
  have fl38 := hts (.fieldLink RX8 38 "SlopeRunner$Tape" "inputs" "I") (List.mem_of_getElem? (i := 2) rfl)
  have fl41 := hts (.fieldLink RX8 41 "SlopeRunner$Tape" "firstStep" "I") (List.mem_of_getElem? (i := 3) rfl)
  have fl44 := hts (.fieldLink RX8 44 "SlopeRunner$Tape" "size" "I") (List.mem_of_getElem? (i := 4) rfl)
  have fl47 := hts (.fieldLink RX8 47 "SlopeRunner$Tape" "steps" "I") (List.mem_of_getElem? (i := 5) rfl)
  have fl50 := hts (.fieldLink RX8 50 "SlopeRunner$Tape" "results" "I") (List.mem_of_getElem? (i := 6) rfl)
  have fl53 := hts (.fieldLink RX8 53 "SlopeRunner$Tape" "edges" "I") (List.mem_of_getElem? (i := 7) rfl)
  have fl34 := hts (.fieldLink RX8 34 "SlopeRunner$Tape" "nearest" "J") (List.mem_of_getElem? (i := 8) rfl)
  refine lv_aload_n hx hb dX8_forget_0 rfl (lv_at hl 0 rfl) ?_
  refine lv_iconst (v := (-1)) hx hb dX8_forget_1 (by decide) ?_
  refine va_put (D := D) (ci := 7) (v := .int (-1)) (ty := .int) (C := RX8) (T := TX8) (N := 13) hx hb hts inX8 tyX8 tyX8_ok nmX8 hown hK hP hD hS 0 tpw_o0 rfl 5 (by decide) fl28 (fun _ h9 => h9) rfl (by decide +kernel) rfl rfl (Nat.le_of_ble_eq_true rfl) dX8_forget_2 (fun H locs hP hD hS => ?_)
  have hP : va_P D vwCl (tpw y ad (sI σ 136 (-1))) H := x_trP hP tpw_p0_5
  have hD : va_D A (tpw y ad (sI σ 136 (-1))) := x_trD hD tpw_p0_5
  refine lv_aload_n hx hb dX8_forget_5 rfl (lv_at hl 0 rfl) ?_
  refine lv_iconst (v := 0) hx hb dX8_forget_6 (by decide) ?_
  refine va_put (D := D) (ci := 7) (v := .int 0) (ty := .int) (C := RX8) (T := TX8) (N := 13) hx hb hts inX8 tyX8 tyX8_ok nmX8 hown hK hP hD hS 0 tpw_o0 rfl 6 (by decide) fl38 (fun _ h9 => h9) rfl (by decide +kernel) rfl rfl (Nat.le_of_ble_eq_true rfl) dX8_forget_7 (fun H locs hP hD hS => ?_)
  have hP : va_P D vwCl (tpw y ad (sI (sI σ 136 (-1)) 137 0)) H := x_trP hP tpw_p0_6
  have hD : va_D A (tpw y ad (sI (sI σ 136 (-1)) 137 0)) := x_trD hD tpw_p0_6
  refine lv_aload_n hx hb dX8_forget_10 rfl (lv_at hl 0 rfl) ?_
  refine lv_iconst (v := 0) hx hb dX8_forget_11 (by decide) ?_
  refine va_put (D := D) (ci := 7) (v := .int 0) (ty := .int) (C := RX8) (T := TX8) (N := 13) hx hb hts inX8 tyX8 tyX8_ok nmX8 hown hK hP hD hS 0 tpw_o0 rfl 7 (by decide) fl41 (fun _ h9 => h9) rfl (by decide +kernel) rfl rfl (Nat.le_of_ble_eq_true rfl) dX8_forget_12 (fun H locs hP hD hS => ?_)
  have hP : va_P D vwCl (tpw y ad (sI (sI (sI σ 136 (-1)) 137 0) 138 0)) H := x_trP hP tpw_p0_7
  have hD : va_D A (tpw y ad (sI (sI (sI σ 136 (-1)) 137 0) 138 0)) := x_trD hD tpw_p0_7
  refine lv_aload_n hx hb dX8_forget_15 rfl (lv_at hl 0 rfl) ?_
  refine lv_iconst (v := 0) hx hb dX8_forget_16 (by decide) ?_
  refine va_put (D := D) (ci := 7) (v := .int 0) (ty := .int) (C := RX8) (T := TX8) (N := 13) hx hb hts inX8 tyX8 tyX8_ok nmX8 hown hK hP hD hS 0 tpw_o0 rfl 8 (by decide) fl44 (fun _ h9 => h9) rfl (by decide +kernel) rfl rfl (Nat.le_of_ble_eq_true rfl) dX8_forget_17 (fun H locs hP hD hS => ?_)
  have hP : va_P D vwCl (tpw y ad (sI (sI (sI (sI σ 136 (-1)) 137 0) 138 0) 139 0)) H := x_trP hP tpw_p0_8
  have hD : va_D A (tpw y ad (sI (sI (sI (sI σ 136 (-1)) 137 0) 138 0) 139 0)) := x_trD hD tpw_p0_8
  refine lv_aload_n hx hb dX8_forget_20 rfl (lv_at hl 0 rfl) ?_
  refine lv_iconst (v := 0) hx hb dX8_forget_21 (by decide) ?_
  refine va_put (D := D) (ci := 7) (v := .int 0) (ty := .int) (C := RX8) (T := TX8) (N := 13) hx hb hts inX8 tyX8 tyX8_ok nmX8 hown hK hP hD hS 0 tpw_o0 rfl 9 (by decide) fl47 (fun _ h9 => h9) rfl (by decide +kernel) rfl rfl (Nat.le_of_ble_eq_true rfl) dX8_forget_22 (fun H locs hP hD hS => ?_)
  have hP : va_P D vwCl (tpw y ad (sI (sI (sI (sI (sI σ 136 (-1)) 137 0) 138 0) 139 0) 140 0)) H := x_trP hP tpw_p0_9
  have hD : va_D A (tpw y ad (sI (sI (sI (sI (sI σ 136 (-1)) 137 0) 138 0) 139 0) 140 0)) := x_trD hD tpw_p0_9
  refine lv_aload_n hx hb dX8_forget_25 rfl (lv_at hl 0 rfl) ?_
  refine lv_iconst (v := 0) hx hb dX8_forget_26 (by decide) ?_
  refine va_put (D := D) (ci := 7) (v := .int 0) (ty := .int) (C := RX8) (T := TX8) (N := 13) hx hb hts inX8 tyX8 tyX8_ok nmX8 hown hK hP hD hS 0 tpw_o0 rfl 10 (by decide) fl50 (fun _ h9 => h9) rfl (by decide +kernel) rfl rfl (Nat.le_of_ble_eq_true rfl) dX8_forget_27 (fun H locs hP hD hS => ?_)
  have hP : va_P D vwCl (tpw y ad (sI (sI (sI (sI (sI (sI σ 136 (-1)) 137 0) 138 0) 139 0) 140 0) 141 0)) H := x_trP hP tpw_p0_10
  have hD : va_D A (tpw y ad (sI (sI (sI (sI (sI (sI σ 136 (-1)) 137 0) 138 0) 139 0) 140 0) 141 0)) := x_trD hD tpw_p0_10
  refine lv_aload_n hx hb dX8_forget_30 rfl (lv_at hl 0 rfl) ?_
  refine lv_iconst (v := 0) hx hb dX8_forget_31 (by decide) ?_
  refine va_put (D := D) (ci := 7) (v := .int 0) (ty := .int) (C := RX8) (T := TX8) (N := 13) hx hb hts inX8 tyX8 tyX8_ok nmX8 hown hK hP hD hS 0 tpw_o0 rfl 11 (by decide) fl53 (fun _ h9 => h9) rfl (by decide +kernel) rfl rfl (Nat.le_of_ble_eq_true rfl) dX8_forget_32 (fun H locs hP hD hS => ?_)
  have hP : va_P D vwCl (tpw y ad (sI (sI (sI (sI (sI (sI (sI σ 136 (-1)) 137 0) 138 0) 139 0) 140 0) 141 0) 142 0)) H := x_trP hP tpw_p0_11
  have hD : va_D A (tpw y ad (sI (sI (sI (sI (sI (sI (sI σ 136 (-1)) 137 0) 138 0) 139 0) 140 0) 141 0) 142 0)) := x_trD hD tpw_p0_11
  refine lv_aload_n hx hb dX8_forget_35 rfl (lv_at hl 0 rfl) ?_
  refine lv_lconst (v := 0) hx hb dX8_forget_36 (by decide) ?_
  refine va_put (D := D) (ci := 7) (v := .long 0) (ty := .long) (C := RX8) (T := TX8) (N := 13) hx hb hts inX8 tyX8 tyX8_ok nmX8 hown hK hP hD hS 0 tpw_o0 rfl 12 (by decide) fl34 (fun _ h9 => h9) rfl (by decide +kernel) rfl rfl (Nat.le_of_ble_eq_true rfl) dX8_forget_37 (fun H locs hP hD hS => ?_)
  have hP : va_P D vwCl (tpw y ad (sJ (sI (sI (sI (sI (sI (sI (sI σ 136 (-1)) 137 0) 138 0) 139 0) 140 0) 141 0) 142 0) 143 0)) H := x_trP hP tpw_p0_12
  have hD : va_D A (tpw y ad (sJ (sI (sI (sI (sI (sI (sI (sI σ 136 (-1)) 137 0) 138 0) 139 0) 140 0) 141 0) 142 0) 143 0)) := x_trD hD tpw_p0_12
  exact x_vretW (u := ((-1), 0, 0, 0, 0, 0, 0, 0)) hx hb hr hQ (by (try dsimp only); exact ⟨rfl, rfl, rfl, rfl⟩) hP hD hK hS dX8_forget_40 hlocks

def v_ka_zeroAt : List Cond := .code yX8_zeroAt cX8_zeroAt 1 (some .int) :: ([.fieldLink RX8 38 "SlopeRunner$Tape" "inputs" "I"] ++ wsX80)
set_option maxHeartbeats 4000000 in
set_option maxRecDepth 100000 in
theorem ka_zeroAt (l : Launch) (D : va_G) (y : Nat → ClassId) (sz : Nat) (ad : Nat → Nat) (σ : OS)  : Met l yX8_zeroAt v_ka_zeroAt ({ frames := 0, cells := 0, slots := 0, locals := 0 } : Room) (va_Pc [.ref (ad 130)] (xPre D (xT y) (tpw y ad σ) sz)) (va_Qi (fun (r : Int32) (_ : Unit) => r = σ.1 137) (fun (u : Unit) => xB D (xT y) (va_A (tpw y ad σ) sz) (tpw y ad σ)) (va_A (tpw y ad σ) sz)) 0 0 (va_A (tpw y ad σ) sz) := by
  refine x_meti (cc := cX8_zeroAt) (maxL := 1) (by decide) rfl (Nat.le_of_ble_eq_true rfl) ?_
  intro p e s m below meth c A H locs Q hx hb hml hown hts hr hlocks hmn hA hP hK hD hS ls hl hQ
  have hl : lv_has ls 1 [(0, .ref (ad 130))] := hl
  have fl38 := hts (.fieldLink RX8 38 "SlopeRunner$Tape" "inputs" "I") (List.mem_of_getElem? (i := 1) rfl)
  have inX8 : ∀ w ∈ wsX80, w ∈ v_ka_zeroAt := (fun w h => List.mem_cons_of_mem _ (List.mem_append_right _ h))
  refine lv_aload_n hx hb dX8_zeroAt_0 rfl (lv_at hl 0 rfl) ?_
  refine va_get (D := D) (ci := 7) (v := .int (σ.1 137)) (C := RX8) (T := TX8) (N := 13) hx hb hts inX8 hown hK hP 0 tpw_o0 rfl 6 (by decide) fl38 (fun _ h9 => h9) rfl dX8_zeroAt_1 ?_
  exact x_iretW (v := (σ.1 137)) (u := ()) hx hb hr hQ rfl hP hD hK hS dX8_zeroAt_4 hlocks

def v_ka_numberAt : List Cond := .code yX8_numberAt cX8_numberAt 2 (some .int) :: ([.fieldLink RX8 38 "SlopeRunner$Tape" "inputs" "I"] ++ wsX80)
set_option maxHeartbeats 4000000 in
set_option maxRecDepth 100000 in
theorem ka_numberAt (l : Launch) (D : va_G) (y : Nat → ClassId) (sz : Nat) (ad : Nat → Nat) (σ : OS) (k : Int32) (hk0 : 0 ≤ k.toInt) (hk1 : k.toInt ≤ 9999) (hin0 : 0 ≤ (σ.1 137).toInt) (hin1 : (σ.1 137).toInt ≤ 8) : Met l yX8_numberAt v_ka_numberAt ({ frames := 0, cells := 0, slots := 0, locals := 0 } : Room) (va_Pc [.ref (ad 130), .int k] (xPre D (xT y) (tpw y ad σ) sz)) (va_Qi (fun (r : Int32) (_ : Unit) => r.toInt = (σ.1 137).toInt + 1 + k.toInt) (fun (u : Unit) => xB D (xT y) (va_A (tpw y ad σ) sz) (tpw y ad σ)) (va_A (tpw y ad σ) sz)) 0 0 (va_A (tpw y ad σ) sz) := by
  refine x_meti (cc := cX8_numberAt) (maxL := 2) (by decide) rfl (Nat.le_of_ble_eq_true rfl) ?_
  intro p e s m below meth c A H locs Q hx hb hml hown hts hr hlocks hmn hA hP hK hD hS ls hl hQ
  have hl : lv_has ls 2 [(0, .ref (ad 130)), (1, .int k)] := hl
  have fl38 := hts (.fieldLink RX8 38 "SlopeRunner$Tape" "inputs" "I") (List.mem_of_getElem? (i := 1) rfl)
  have inX8 : ∀ w ∈ wsX80, w ∈ v_ka_numberAt := (fun w h => List.mem_cons_of_mem _ (List.mem_append_right _ h))
  have kk_1 : (1 : Int32).toInt = 1 := rfl
  refine lv_aload_n hx hb dX8_numberAt_0 rfl (lv_at hl 0 rfl) ?_
  refine va_get (D := D) (ci := 7) (v := .int (σ.1 137)) (C := RX8) (T := TX8) (N := 13) hx hb hts inX8 hown hK hP 0 tpw_o0 rfl 6 (by decide) fl38 (fun _ h9 => h9) rfl dX8_numberAt_1 ?_
  refine lv_iconst (v := 1) hx hb dX8_numberAt_4 (by decide) ?_
  refine lv_iadd hx hb dX8_numberAt_5 ?_
  refine lv_topi (fun i_1 ei_1 => ?_)
  have vi_1 : i_1.toInt = (σ.1 137).toInt + 1 := by have h9 := x_add ei_1 (by omega) (by omega); omega
  refine lv_iload_n hx hb dX8_numberAt_6 rfl (lv_at hl 1 rfl) ?_
  refine lv_iadd hx hb dX8_numberAt_7 ?_
  refine lv_topi (fun i_2 ei_2 => ?_)
  have vi_2 : i_2.toInt = i_1.toInt + k.toInt := by have h9 := x_add ei_2 (by omega) (by omega); omega
  exact x_iretW (v := i_2) (u := ()) hx hb hr hQ (by omega) hP hD hK hS dX8_numberAt_8 hlocks

def v_ka_numberAtX : List Cond := .code yX8_numberAt cX8_numberAt 2 (some .int) :: ([.fieldLink RX8 38 "SlopeRunner$Tape" "inputs" "I"] ++ wsX80)
set_option maxHeartbeats 4000000 in
set_option maxRecDepth 100000 in
theorem ka_numberAtX (l : Launch) (D : va_G) (y : Nat → ClassId) (sz : Nat) (ad : Nat → Nat) (σ : OS) (k : Int32) : Met l yX8_numberAt v_ka_numberAtX ({ frames := 0, cells := 0, slots := 0, locals := 0 } : Room) (va_Pc [.ref (ad 130), .int k] (xPre D (xT y) (tpw y ad σ) sz)) (va_Qi (fun (r : Int32) (_ : Unit) => True) (fun (u : Unit) => xB D (xT y) (va_A (tpw y ad σ) sz) (tpw y ad σ)) (va_A (tpw y ad σ) sz)) 0 0 (va_A (tpw y ad σ) sz) := by
  refine x_meti (cc := cX8_numberAt) (maxL := 2) (by decide) rfl (Nat.le_of_ble_eq_true rfl) ?_
  intro p e s m below meth c A H locs Q hx hb hml hown hts hr hlocks hmn hA hP hK hD hS ls hl hQ
  have hl : lv_has ls 2 [(0, .ref (ad 130)), (1, .int k)] := hl
  have fl38 := hts (.fieldLink RX8 38 "SlopeRunner$Tape" "inputs" "I") (List.mem_of_getElem? (i := 1) rfl)
  have inX8 : ∀ w ∈ wsX80, w ∈ v_ka_numberAtX := (fun w h => List.mem_cons_of_mem _ (List.mem_append_right _ h))
  refine lv_aload_n hx hb dX8_numberAt_0 rfl (lv_at hl 0 rfl) ?_
  refine va_get (D := D) (ci := 7) (v := .int (σ.1 137)) (C := RX8) (T := TX8) (N := 13) hx hb hts inX8 hown hK hP 0 tpw_o0 rfl 6 (by decide) fl38 (fun _ h9 => h9) rfl dX8_numberAt_1 ?_
  refine lv_iconst (v := 1) hx hb dX8_numberAt_4 (by decide) ?_
  refine lv_iadd hx hb dX8_numberAt_5 ?_
  refine lv_topi (fun i_1 ei_1 => ?_)
  refine lv_iload_n hx hb dX8_numberAt_6 rfl (lv_at hl 1 rfl) ?_
  refine lv_iadd hx hb dX8_numberAt_7 ?_
  refine lv_topi (fun i_2 ei_2 => ?_)
  exact x_iretW (v := i_2) (u := ()) hx hb hr hQ trivial hP hD hK hS dX8_numberAt_8 hlocks

def v_ka_hasResult : List Cond := .code yX8_hasResult cX8_hasResult 2 (some .boolean) :: ([.fieldLink RX8 50 "SlopeRunner$Tape" "results" "I"] ++ wsX80)
set_option maxHeartbeats 4000000 in
set_option maxRecDepth 100000 in
theorem ka_hasResult (l : Launch) (D : va_G) (y : Nat → ClassId) (sz : Nat) (ad : Nat → Nat) (σ : OS) (q : Int32) : Met l yX8_hasResult v_ka_hasResult ({ frames := 0, cells := 0, slots := 0, locals := 0 } : Room) (va_Pc [.ref (ad 130), .int q] (xPre D (xT y) (tpw y ad σ) sz)) (va_Qi (fun (r : Int32) (_ : Unit) => (r.toInt = 1 ∧ 0 ≤ q.toInt ∧ q.toInt < (σ.1 141).toInt) ∨ r.toInt = 0) (fun (u : Unit) => xB D (xT y) (va_A (tpw y ad σ) sz) (tpw y ad σ)) (va_A (tpw y ad σ) sz)) 0 0 (va_A (tpw y ad σ) sz) := by
  refine x_meti (cc := cX8_hasResult) (maxL := 2) (by decide) rfl (Nat.le_of_ble_eq_true rfl) ?_
  intro p e s m below meth c A H locs Q hx hb hml hown hts hr hlocks hmn hA hP hK hD hS ls hl hQ
  have hl : lv_has ls 2 [(0, .ref (ad 130)), (1, .int q)] := hl
  have kk_0 : (0 : Int32).toInt = 0 := rfl
  have fl50 := hts (.fieldLink RX8 50 "SlopeRunner$Tape" "results" "I") (List.mem_of_getElem? (i := 1) rfl)
  have inX8 : ∀ w ∈ wsX80, w ∈ v_ka_hasResult := (fun w h => List.mem_cons_of_mem _ (List.mem_append_right _ h))
  have kk_1 : (1 : Int32).toInt = 1 := rfl
  refine lv_iload_n hx hb dX8_hasResult_0 rfl (lv_at hl 1 rfl) ?_
  refine lv_if_lt (tgt := 16) hx hb dX8_hasResult_1 (by decide) (fun c_1 => ?_) (fun c_1 => ?_)
  · have kc_1 : q.toInt < 0 := by have h9 := c_1; simp only [ge_iff_le, gt_iff_lt, x_lt, x_le, x_eq, ne_eq, Int32.not_lt, Int32.not_le] at h9; simp only [Int32.reduceToInt] at h9; omega
    refine lv_iconst (v := 0) hx hb dX8_hasResult_16 (by decide) ?_
    exact x_zretW (v := 0) (u := ()) hx hb hr hQ rfl (by omega) hP hD hK hS dX8_hasResult_17 hlocks
  · have kc_1 : q.toInt ≥ 0 := by have h9 := c_1; simp only [ge_iff_le, gt_iff_lt, x_lt, x_le, x_eq, ne_eq, Int32.not_lt, Int32.not_le] at h9; simp only [Int32.reduceToInt] at h9; omega
    refine lv_iload_n hx hb dX8_hasResult_4 rfl (lv_at hl 1 rfl) ?_
    refine lv_aload_n hx hb dX8_hasResult_5 rfl (lv_at hl 0 rfl) ?_
    refine va_get (D := D) (ci := 7) (v := .int (σ.1 141)) (C := RX8) (T := TX8) (N := 13) hx hb hts inX8 hown hK hP 0 tpw_o0 rfl 10 (by decide) fl50 (fun _ h9 => h9) rfl dX8_hasResult_6 ?_
    refine lv_icmp_ge (tgt := 16) hx hb dX8_hasResult_9 (by decide) (fun c_2 => ?_) (fun c_2 => ?_)
    · have kc_2 : q.toInt ≥ (σ.1 141).toInt := by have h9 := c_2; simp only [ge_iff_le, gt_iff_lt, x_lt, x_le, x_eq, ne_eq, Int32.not_lt, Int32.not_le] at h9; omega
      refine lv_iconst (v := 0) hx hb dX8_hasResult_16 (by decide) ?_
      exact x_zretW (v := 0) (u := ()) hx hb hr hQ rfl (by omega) hP hD hK hS dX8_hasResult_17 hlocks
    · have kc_2 : q.toInt < (σ.1 141).toInt := by have h9 := c_2; simp only [ge_iff_le, gt_iff_lt, x_lt, x_le, x_eq, ne_eq, Int32.not_lt, Int32.not_le] at h9; omega
      refine lv_iconst (v := 1) hx hb dX8_hasResult_12 (by decide) ?_
      refine lv_goto (tgt := 17) hx hb dX8_hasResult_13 (by decide) ?_
      exact x_zretW (v := 1) (u := ()) hx hb hr hQ rfl (by omega) hP hD hK hS dX8_hasResult_17 hlocks

def v_ka_hasBoth : List Cond := .code yX8_hasBoth cX8_hasBoth 3 (some .boolean) :: ([.fieldLink RX8 38 "SlopeRunner$Tape" "inputs" "I"] ++ ((wsV RX8 76 RX8 yX8_hasResult v_ka_hasResult) ++ wsX80))
theorem g_ka_hasBoth_0 : GoodIn v_ka_hasBoth (wsV RX8 76 RX8 yX8_hasResult v_ka_hasResult) := goodIn_sub (fun w h => List.mem_cons_of_mem _ (List.mem_append_right _ (List.mem_append_left _ h))) (by decide +kernel)
set_option maxHeartbeats 4000000 in
set_option maxRecDepth 100000 in
theorem ka_hasBoth (l : Launch) (D : va_G) (y : Nat → ClassId) (sz : Nat) (ad : Nat → Nat) (σ : OS) (q i : Int32) : Met l yX8_hasBoth v_ka_hasBoth ({ frames := 1, cells := 0, slots := 0, locals := 21 } : Room) (va_Pc [.ref (ad 130), .int q, .int i] (xPre D (xT y) (tpw y ad σ) sz)) (va_Qi (fun (r : Int32) (_ : Unit) => (r.toInt = 1 ∧ 0 ≤ q.toInt ∧ q.toInt < (σ.1 141).toInt ∧ 0 ≤ i.toInt ∧ i.toInt < (σ.1 137).toInt) ∨ r.toInt = 0) (fun (u : Unit) => xB D (xT y) (va_A (tpw y ad σ) sz) (tpw y ad σ)) (va_A (tpw y ad σ) sz)) 0 0 (va_A (tpw y ad σ) sz) := by
  refine x_meti (cc := cX8_hasBoth) (maxL := 3) (by decide) rfl (Nat.le_of_ble_eq_true rfl) ?_
  intro p e s m below meth c A H locs Q hx hb hml hown hts hr hlocks hmn hA hP hK hD hS ls hl hQ
  have hl : lv_has ls 3 [(0, .ref (ad 130)), (1, .int q), (2, .int i)] := hl
  have kk_0 : (0 : Int32).toInt = 0 := rfl
  have fl38 := hts (.fieldLink RX8 38 "SlopeRunner$Tape" "inputs" "I") (List.mem_of_getElem? (i := 1) rfl)
  have inX8 : ∀ w ∈ wsX80, w ∈ v_ka_hasBoth := (fun w h => List.mem_cons_of_mem _ (List.mem_append_right _ (List.mem_append_right _ h)))
  have kk_1 : (1 : Int32).toInt = 1 := rfl
  refine lv_aload_n hx hb dX8_hasBoth_0 rfl (lv_at hl 0 rfl) ?_
  refine lv_iload_n hx hb dX8_hasBoth_1 rfl (lv_at hl 1 rfl) ?_
  refine x_calliW (va_runV (As := [.int q]) (rest := []) ⟨hx, hb, hml, hown, hts⟩ (ka_hasResult l D y H.size ad σ q) (cwV 1 hts g_ka_hasBoth_0 rfl rfl rfl (by decide +kernel) ⟨Nat.le_of_ble_eq_true rfl, Nat.le_of_ble_eq_true rfl⟩) (x_preV (q := (RX8, TX8, 13)) hK hP hD (ci := 7) (q0 := 0) rfl tpw_o0) rfl rfl hl.1 rfl (lv_room (Nat.le_of_ble_eq_true rfl)) dX8_hasBoth_2 ⟨Nat.le_of_ble_eq_true rfl, Nat.le_of_ble_eq_true rfl⟩) hP hD hS hA (fun r_1 u H locs hw hP hD hS => ?_)
  try dsimp only at hw
  have hP : va_P D vwCl (tpw y ad σ) H := hP
  have hD : va_D A (tpw y ad σ) := hD
  replace hw : (r_1.toInt = 1 ∧ 0 ≤ q.toInt ∧ q.toInt < ((σ.1 141)).toInt) ∨ r_1.toInt = 0 := hw
  refine lv_if_eq (tgt := 24) hx hb dX8_hasBoth_5 (by decide) (fun c_2 => ?_) (fun c_2 => ?_)
  · have kc_2 : r_1.toInt = 0 := by have h9 := c_2; simp only [ge_iff_le, gt_iff_lt, x_lt, x_le, x_eq, ne_eq, Int32.not_lt, Int32.not_le] at h9; simp only [Int32.reduceToInt] at h9; omega
    refine lv_iconst (v := 0) hx hb dX8_hasBoth_24 (by decide) ?_
    exact x_zretW (v := 0) (u := ()) hx hb hr hQ rfl (by omega) hP hD hK hS dX8_hasBoth_25 hlocks
  · have kc_2 : r_1.toInt ≠ 0 := by have h9 := c_2; simp only [ge_iff_le, gt_iff_lt, x_lt, x_le, x_eq, ne_eq, Int32.not_lt, Int32.not_le] at h9; simp only [Int32.reduceToInt] at h9; omega
    refine lv_iload_n hx hb dX8_hasBoth_8 rfl (lv_at hl 2 rfl) ?_
    refine lv_if_lt (tgt := 24) hx hb dX8_hasBoth_9 (by decide) (fun c_3 => ?_) (fun c_3 => ?_)
    · have kc_3 : i.toInt < 0 := by have h9 := c_3; simp only [ge_iff_le, gt_iff_lt, x_lt, x_le, x_eq, ne_eq, Int32.not_lt, Int32.not_le] at h9; simp only [Int32.reduceToInt] at h9; omega
      refine lv_iconst (v := 0) hx hb dX8_hasBoth_24 (by decide) ?_
      exact x_zretW (v := 0) (u := ()) hx hb hr hQ rfl (by omega) hP hD hK hS dX8_hasBoth_25 hlocks
    · have kc_3 : i.toInt ≥ 0 := by have h9 := c_3; simp only [ge_iff_le, gt_iff_lt, x_lt, x_le, x_eq, ne_eq, Int32.not_lt, Int32.not_le] at h9; simp only [Int32.reduceToInt] at h9; omega
      refine lv_iload_n hx hb dX8_hasBoth_12 rfl (lv_at hl 2 rfl) ?_
      refine lv_aload_n hx hb dX8_hasBoth_13 rfl (lv_at hl 0 rfl) ?_
      refine va_get (D := D) (ci := 7) (v := .int (σ.1 137)) (C := RX8) (T := TX8) (N := 13) hx hb hts inX8 hown hK hP 0 tpw_o0 rfl 6 (by decide) fl38 (fun _ h9 => h9) rfl dX8_hasBoth_14 ?_
      refine lv_icmp_ge (tgt := 24) hx hb dX8_hasBoth_17 (by decide) (fun c_4 => ?_) (fun c_4 => ?_)
      · have kc_4 : i.toInt ≥ (σ.1 137).toInt := by have h9 := c_4; simp only [ge_iff_le, gt_iff_lt, x_lt, x_le, x_eq, ne_eq, Int32.not_lt, Int32.not_le] at h9; omega
        refine lv_iconst (v := 0) hx hb dX8_hasBoth_24 (by decide) ?_
        exact x_zretW (v := 0) (u := ()) hx hb hr hQ rfl (by omega) hP hD hK hS dX8_hasBoth_25 hlocks
      · have kc_4 : i.toInt < (σ.1 137).toInt := by have h9 := c_4; simp only [ge_iff_le, gt_iff_lt, x_lt, x_le, x_eq, ne_eq, Int32.not_lt, Int32.not_le] at h9; omega
        refine lv_iconst (v := 1) hx hb dX8_hasBoth_20 (by decide) ?_
        refine lv_goto (tgt := 25) hx hb dX8_hasBoth_21 (by decide) ?_
        exact x_zretW (v := 1) (u := ()) hx hb hr hQ rfl (by omega) hP hD hK hS dX8_hasBoth_25 hlocks

def v_ka_holds : List Cond := .code yX8_holds cX8_holds 2 (some .boolean) :: ([.fieldLink RX8 44 "SlopeRunner$Tape" "size" "I"] ++ wsX80)
set_option maxHeartbeats 4000000 in
set_option maxRecDepth 100000 in
theorem ka_holds (l : Launch) (D : va_G) (y : Nat → ClassId) (sz : Nat) (ad : Nat → Nat) (σ : OS) (q : Int32) : Met l yX8_holds v_ka_holds ({ frames := 0, cells := 0, slots := 0, locals := 0 } : Room) (va_Pc [.ref (ad 130), .int q] (xPre D (xT y) (tpw y ad σ) sz)) (va_Qi (fun (r : Int32) (_ : Unit) => (r.toInt = 1 ∧ 0 ≤ q.toInt ∧ q.toInt < (σ.1 139).toInt) ∨ r.toInt = 0) (fun (u : Unit) => xB D (xT y) (va_A (tpw y ad σ) sz) (tpw y ad σ)) (va_A (tpw y ad σ) sz)) 0 0 (va_A (tpw y ad σ) sz) := by
  refine x_meti (cc := cX8_holds) (maxL := 2) (by decide) rfl (Nat.le_of_ble_eq_true rfl) ?_
  intro p e s m below meth c A H locs Q hx hb hml hown hts hr hlocks hmn hA hP hK hD hS ls hl hQ
  have hl : lv_has ls 2 [(0, .ref (ad 130)), (1, .int q)] := hl
  have kk_0 : (0 : Int32).toInt = 0 := rfl
  have fl44 := hts (.fieldLink RX8 44 "SlopeRunner$Tape" "size" "I") (List.mem_of_getElem? (i := 1) rfl)
  have inX8 : ∀ w ∈ wsX80, w ∈ v_ka_holds := (fun w h => List.mem_cons_of_mem _ (List.mem_append_right _ h))
  have kk_1 : (1 : Int32).toInt = 1 := rfl
  refine lv_iload_n hx hb dX8_holds_0 rfl (lv_at hl 1 rfl) ?_
  refine lv_if_lt (tgt := 16) hx hb dX8_holds_1 (by decide) (fun c_1 => ?_) (fun c_1 => ?_)
  · have kc_1 : q.toInt < 0 := by have h9 := c_1; simp only [ge_iff_le, gt_iff_lt, x_lt, x_le, x_eq, ne_eq, Int32.not_lt, Int32.not_le] at h9; simp only [Int32.reduceToInt] at h9; omega
    refine lv_iconst (v := 0) hx hb dX8_holds_16 (by decide) ?_
    exact x_zretW (v := 0) (u := ()) hx hb hr hQ rfl (by omega) hP hD hK hS dX8_holds_17 hlocks
  · have kc_1 : q.toInt ≥ 0 := by have h9 := c_1; simp only [ge_iff_le, gt_iff_lt, x_lt, x_le, x_eq, ne_eq, Int32.not_lt, Int32.not_le] at h9; simp only [Int32.reduceToInt] at h9; omega
    refine lv_iload_n hx hb dX8_holds_4 rfl (lv_at hl 1 rfl) ?_
    refine lv_aload_n hx hb dX8_holds_5 rfl (lv_at hl 0 rfl) ?_
    refine va_get (D := D) (ci := 7) (v := .int (σ.1 139)) (C := RX8) (T := TX8) (N := 13) hx hb hts inX8 hown hK hP 0 tpw_o0 rfl 8 (by decide) fl44 (fun _ h9 => h9) rfl dX8_holds_6 ?_
    refine lv_icmp_ge (tgt := 16) hx hb dX8_holds_9 (by decide) (fun c_2 => ?_) (fun c_2 => ?_)
    · have kc_2 : q.toInt ≥ (σ.1 139).toInt := by have h9 := c_2; simp only [ge_iff_le, gt_iff_lt, x_lt, x_le, x_eq, ne_eq, Int32.not_lt, Int32.not_le] at h9; omega
      refine lv_iconst (v := 0) hx hb dX8_holds_16 (by decide) ?_
      exact x_zretW (v := 0) (u := ()) hx hb hr hQ rfl (by omega) hP hD hK hS dX8_holds_17 hlocks
    · have kc_2 : q.toInt < (σ.1 139).toInt := by have h9 := c_2; simp only [ge_iff_le, gt_iff_lt, x_lt, x_le, x_eq, ne_eq, Int32.not_lt, Int32.not_le] at h9; omega
      refine lv_iconst (v := 1) hx hb dX8_holds_12 (by decide) ?_
      refine lv_goto (tgt := 17) hx hb dX8_holds_13 (by decide) ?_
      exact x_zretW (v := 1) (u := ()) hx hb hr hQ rfl (by omega) hP hD hK hS dX8_holds_17 hlocks

def v_ka_valueAt : List Cond := .code yX8_valueAt cX8_valueAt 2 (some .long) :: ([.fieldLink RX8 11 "SlopeRunner$Tape" "value" "[J"] ++ ((wsV RX8 84 RX8 yX8_holds v_ka_holds) ++ wsX80))
theorem g_ka_valueAt_0 : GoodIn v_ka_valueAt (wsV RX8 84 RX8 yX8_holds v_ka_holds) := goodIn_sub (fun w h => List.mem_cons_of_mem _ (List.mem_append_right _ (List.mem_append_left _ h))) (by decide +kernel)
set_option maxHeartbeats 4000000 in
set_option maxRecDepth 100000 in
theorem ka_valueAt (l : Launch) (D : va_G) (y : Nat → ClassId) (sz : Nat) (ad : Nat → Nat) (σ : OS) (q : Int32) (hsz0 : 0 ≤ (σ.1 139).toInt) (hsz1 : (σ.1 139).toInt ≤ 1359) : Met l yX8_valueAt v_ka_valueAt ({ frames := 1, cells := 0, slots := 0, locals := 21 } : Room) (va_Pc [.ref (ad 130), .int q] (xPre D (xT y) (tpw y ad σ) sz)) (va_Ql (fun (r : Int64) (_ : Unit) => True) (fun (u : Unit) => xB D (xT y) (va_A (tpw y ad σ) sz) (tpw y ad σ)) (va_A (tpw y ad σ) sz)) 0 0 (va_A (tpw y ad σ) sz) := by
  refine x_metl (cc := cX8_valueAt) (maxL := 2) (by decide) rfl (Nat.le_of_ble_eq_true rfl) ?_
  intro p e s m below meth c A H locs Q hx hb hml hown hts hr hlocks hmn hA hP hK hD hS ls hl hQ
  have hl : lv_has ls 2 [(0, .ref (ad 130)), (1, .int q)] := hl
  have kk_0 : (0 : Int32).toInt = 0 := rfl
  have fl11 := hts (.fieldLink RX8 11 "SlopeRunner$Tape" "value" "[J") (List.mem_of_getElem? (i := 1) rfl)
  have inX8 : ∀ w ∈ wsX80, w ∈ v_ka_valueAt := (fun w h => List.mem_cons_of_mem _ (List.mem_append_right _ (List.mem_append_right _ h)))
  refine lv_aload_n hx hb dX8_valueAt_0 rfl (lv_at hl 0 rfl) ?_
  refine lv_iload_n hx hb dX8_valueAt_1 rfl (lv_at hl 1 rfl) ?_
  refine x_calliW (va_runV (As := [.int q]) (rest := []) ⟨hx, hb, hml, hown, hts⟩ (ka_holds l D y H.size ad σ q) (cwV 1 hts g_ka_valueAt_0 rfl rfl rfl (by decide +kernel) ⟨Nat.le_of_ble_eq_true rfl, Nat.le_of_ble_eq_true rfl⟩) (x_preV (q := (RX8, TX8, 13)) hK hP hD (ci := 7) (q0 := 0) rfl tpw_o0) rfl rfl hl.1 rfl (lv_room (Nat.le_of_ble_eq_true rfl)) dX8_valueAt_2 ⟨Nat.le_of_ble_eq_true rfl, Nat.le_of_ble_eq_true rfl⟩) hP hD hS hA (fun r_1 u H locs hw hP hD hS => ?_)
  try dsimp only at hw
  have hP : va_P D vwCl (tpw y ad σ) H := hP
  have hD : va_D A (tpw y ad σ) := hD
  replace hw : (r_1.toInt = 1 ∧ 0 ≤ q.toInt ∧ q.toInt < ((σ.1 139)).toInt) ∨ r_1.toInt = 0 := hw
  refine lv_if_eq (tgt := 17) hx hb dX8_valueAt_5 (by decide) (fun c_2 => ?_) (fun c_2 => ?_)
  · have kc_2 : r_1.toInt = 0 := by have h9 := c_2; simp only [ge_iff_le, gt_iff_lt, x_lt, x_le, x_eq, ne_eq, Int32.not_lt, Int32.not_le] at h9; simp only [Int32.reduceToInt] at h9; omega
    refine lv_lconst (v := 0) hx hb dX8_valueAt_17 (by decide) ?_
    exact x_lretW (v := 0) (u := ()) hx hb hr hQ trivial hP hD hK hS dX8_valueAt_18 hlocks
  · have kc_2 : r_1.toInt ≠ 0 := by have h9 := c_2; simp only [ge_iff_le, gt_iff_lt, x_lt, x_le, x_eq, ne_eq, Int32.not_lt, Int32.not_le] at h9; simp only [Int32.reduceToInt] at h9; omega
    refine lv_aload_n hx hb dX8_valueAt_8 rfl (lv_at hl 0 rfl) ?_
    refine va_get (D := D) (ci := 7) (v := .ref (ad 131)) (C := RX8) (T := TX8) (N := 13) hx hb hts inX8 hown hK hP 0 tpw_o0 rfl 0 (by decide) fl11 (fun _ h9 => h9) rfl dX8_valueAt_9 ?_
    refine lv_iload_n hx hb dX8_valueAt_12 rfl (lv_at hl 1 rfl) ?_
    refine va_lald hx hb hK hP 1 3 tpw_a1 rfl (x_in (by omega) (by omega)) dX8_valueAt_13 ?_
    refine lv_topl (fun j_3 ej_3 => ?_)
    have ej_3 : j_3 = (σ.2.2.2 131) (Int32.toNatClampNeg q) := ej_3
    refine lv_goto (tgt := 18) hx hb dX8_valueAt_14 (by decide) ?_
    exact x_lretW (v := j_3) (u := ()) hx hb hr hQ trivial hP hD hK hS dX8_valueAt_18 hlocks

def v_ka_resultValue : List Cond := .code yX8_resultValue cX8_resultValue 2 (some .long) :: ([.fieldLink RX8 25 "SlopeRunner$Tape" "given" "[I"] ++ ((wsV RX8 76 RX8 yX8_hasResult v_ka_hasResult) ++ ((wsV RX8 80 RX8 yX8_valueAt v_ka_valueAt) ++ wsX80)))
theorem g_ka_resultValue_0 : GoodIn v_ka_resultValue (wsV RX8 76 RX8 yX8_hasResult v_ka_hasResult) := goodIn_sub (fun w h => List.mem_cons_of_mem _ (List.mem_append_right _ (List.mem_append_left _ h))) (by decide +kernel)
theorem g_ka_resultValue_1 : GoodIn v_ka_resultValue (wsV RX8 80 RX8 yX8_valueAt v_ka_valueAt) := goodIn_sub (fun w h => List.mem_cons_of_mem _ (List.mem_append_right _ (List.mem_append_right _ (List.mem_append_left _ h)))) (by decide +kernel)
set_option maxHeartbeats 4000000 in
set_option maxRecDepth 100000 in
theorem ka_resultValue (l : Launch) (D : va_G) (y : Nat → ClassId) (sz : Nat) (ad : Nat → Nat) (σ : OS) (q : Int32) (hsz0 : 0 ≤ (σ.1 139).toInt) (hsz1 : (σ.1 139).toInt ≤ 1359) (hrs0 : 0 ≤ (σ.1 141).toInt) (hrs1 : (σ.1 141).toInt ≤ 12) : Met l yX8_resultValue v_ka_resultValue ({ frames := 2, cells := 0, slots := 0, locals := 42 } : Room) (va_Pc [.ref (ad 130), .int q] (xPre D (xT y) (tpw y ad σ) sz)) (va_Ql (fun (r : Int64) (_ : Unit) => True) (fun (u : Unit) => xB D (xT y) (va_A (tpw y ad σ) sz) (tpw y ad σ)) (va_A (tpw y ad σ) sz)) 0 0 (va_A (tpw y ad σ) sz) := by
  refine x_metl (cc := cX8_resultValue) (maxL := 2) (by decide) rfl (Nat.le_of_ble_eq_true rfl) ?_
  intro p e s m below meth c A H locs Q hx hb hml hown hts hr hlocks hmn hA hP hK hD hS ls hl hQ
  have hl : lv_has ls 2 [(0, .ref (ad 130)), (1, .int q)] := hl
  have kk_0 : (0 : Int32).toInt = 0 := rfl
  have fl25 := hts (.fieldLink RX8 25 "SlopeRunner$Tape" "given" "[I") (List.mem_of_getElem? (i := 1) rfl)
  have inX8 : ∀ w ∈ wsX80, w ∈ v_ka_resultValue := (fun w h => List.mem_cons_of_mem _ (List.mem_append_right _ (List.mem_append_right _ (List.mem_append_right _ h))))
  refine lv_aload_n hx hb dX8_resultValue_0 rfl (lv_at hl 0 rfl) ?_
  refine lv_iload_n hx hb dX8_resultValue_1 rfl (lv_at hl 1 rfl) ?_
  refine x_calliW (va_runV (As := [.int q]) (rest := []) ⟨hx, hb, hml, hown, hts⟩ (ka_hasResult l D y H.size ad σ q) (cwV 1 hts g_ka_resultValue_0 rfl rfl rfl (by decide +kernel) ⟨Nat.le_of_ble_eq_true rfl, Nat.le_of_ble_eq_true rfl⟩) (x_preV (q := (RX8, TX8, 13)) hK hP hD (ci := 7) (q0 := 0) rfl tpw_o0) rfl rfl hl.1 rfl (lv_room (Nat.le_of_ble_eq_true rfl)) dX8_resultValue_2 ⟨Nat.le_of_ble_eq_true rfl, Nat.le_of_ble_eq_true rfl⟩) hP hD hS hA (fun r_1 u H locs hw hP hD hS => ?_)
  try dsimp only at hw
  have hP : va_P D vwCl (tpw y ad σ) H := hP
  have hD : va_D A (tpw y ad σ) := hD
  replace hw : (r_1.toInt = 1 ∧ 0 ≤ q.toInt ∧ q.toInt < ((σ.1 141)).toInt) ∨ r_1.toInt = 0 := hw
  refine lv_if_eq (tgt := 21) hx hb dX8_resultValue_5 (by decide) (fun c_2 => ?_) (fun c_2 => ?_)
  · have kc_2 : r_1.toInt = 0 := by have h9 := c_2; simp only [ge_iff_le, gt_iff_lt, x_lt, x_le, x_eq, ne_eq, Int32.not_lt, Int32.not_le] at h9; simp only [Int32.reduceToInt] at h9; omega
    refine lv_lconst (v := 0) hx hb dX8_resultValue_21 (by decide) ?_
    exact x_lretW (v := 0) (u := ()) hx hb hr hQ trivial hP hD hK hS dX8_resultValue_22 hlocks
  · have kc_2 : r_1.toInt ≠ 0 := by have h9 := c_2; simp only [ge_iff_le, gt_iff_lt, x_lt, x_le, x_eq, ne_eq, Int32.not_lt, Int32.not_le] at h9; simp only [Int32.reduceToInt] at h9; omega
    refine lv_aload_n hx hb dX8_resultValue_8 rfl (lv_at hl 0 rfl) ?_
    refine lv_aload_n hx hb dX8_resultValue_9 rfl (lv_at hl 0 rfl) ?_
    refine va_get (D := D) (ci := 7) (v := .ref (ad 135)) (C := RX8) (T := TX8) (N := 13) hx hb hts inX8 hown hK hP 0 tpw_o0 rfl 4 (by decide) fl25 (fun _ h9 => h9) rfl dX8_resultValue_10 ?_
    refine lv_iload_n hx hb dX8_resultValue_13 rfl (lv_at hl 1 rfl) ?_
    refine va_iald hx hb hK hP 5 2 tpw_a5 rfl (x_in (by omega) (by omega)) dX8_resultValue_14 ?_
    refine lv_topi (fun i_3 ei_3 => ?_)
    have ei_3 : i_3 = (σ.2.2.1 135) (Int32.toNatClampNeg q) := ei_3
    refine x_calllW (va_runV (As := [.int i_3]) (rest := []) ⟨hx, hb, hml, hown, hts⟩ (ka_valueAt l D y H.size ad σ i_3 (show 0 ≤ ((σ.1 139)).toInt from by first | omega | decide) (show ((σ.1 139)).toInt ≤ 1359 from by first | omega | decide)) (cwV 1 hts g_ka_resultValue_1 rfl rfl rfl (by decide +kernel) ⟨Nat.le_of_ble_eq_true rfl, Nat.le_of_ble_eq_true rfl⟩) (x_preV (q := (RX8, TX8, 13)) hK hP hD (ci := 7) (q0 := 0) rfl tpw_o0) rfl rfl hl.1 rfl (lv_room (Nat.le_of_ble_eq_true rfl)) dX8_resultValue_15 ⟨Nat.le_of_ble_eq_true rfl, Nat.le_of_ble_eq_true rfl⟩) hP hD hS hA (fun r_4 u H locs hw hP hD hS => ?_)
    try dsimp only at hw
    have hP : va_P D vwCl (tpw y ad σ) H := hP
    have hD : va_D A (tpw y ad σ) := hD
    refine lv_goto (tgt := 22) hx hb dX8_resultValue_18 (by decide) ?_
    exact x_lretW (v := r_4) (u := ()) hx hb hr hQ trivial hP hD hK hS dX8_resultValue_22 hlocks

def v_ka_resultAt : List Cond := .code yX8_resultAt cX8_resultAt 2 (some .int) :: ([.fieldLink RX8 25 "SlopeRunner$Tape" "given" "[I"] ++ ((wsV RX8 76 RX8 yX8_hasResult v_ka_hasResult) ++ ((wsV RX8 63 RX8 yX8_zeroAt v_ka_zeroAt) ++ wsX80)))
theorem g_ka_resultAt_0 : GoodIn v_ka_resultAt (wsV RX8 76 RX8 yX8_hasResult v_ka_hasResult) := goodIn_sub (fun w h => List.mem_cons_of_mem _ (List.mem_append_right _ (List.mem_append_left _ h))) (by decide +kernel)
theorem g_ka_resultAt_1 : GoodIn v_ka_resultAt (wsV RX8 63 RX8 yX8_zeroAt v_ka_zeroAt) := goodIn_sub (fun w h => List.mem_cons_of_mem _ (List.mem_append_right _ (List.mem_append_right _ (List.mem_append_left _ h)))) (by decide +kernel)
set_option maxHeartbeats 4000000 in
set_option maxRecDepth 100000 in
theorem ka_resultAt (l : Launch) (D : va_G) (y : Nat → ClassId) (sz : Nat) (ad : Nat → Nat) (σ : OS) (q : Int32) (hin0 : 0 ≤ (σ.1 137).toInt) (hin1 : (σ.1 137).toInt ≤ 8) (hrs0 : 0 ≤ (σ.1 141).toInt) (hrs1 : (σ.1 141).toInt ≤ 12)  (hB135 : bI (σ.2.2.1 135) 0 1358) : Met l yX8_resultAt v_ka_resultAt ({ frames := 1, cells := 0, slots := 0, locals := 21 } : Room) (va_Pc [.ref (ad 130), .int q] (xPre D (xT y) (tpw y ad σ) sz)) (va_Qi (fun (r : Int32) (_ : Unit) => 0 ≤ r.toInt ∧ r.toInt ≤ 1358) (fun (u : Unit) => xB D (xT y) (va_A (tpw y ad σ) sz) (tpw y ad σ)) (va_A (tpw y ad σ) sz)) 0 0 (va_A (tpw y ad σ) sz) := by
  refine x_meti (cc := cX8_resultAt) (maxL := 2) (by decide) rfl (Nat.le_of_ble_eq_true rfl) ?_
  intro p e s m below meth c A H locs Q hx hb hml hown hts hr hlocks hmn hA hP hK hD hS ls hl hQ
  have hl : lv_has ls 2 [(0, .ref (ad 130)), (1, .int q)] := hl
  have kk_0 : (0 : Int32).toInt = 0 := rfl
  have fl25 := hts (.fieldLink RX8 25 "SlopeRunner$Tape" "given" "[I") (List.mem_of_getElem? (i := 1) rfl)
  have inX8 : ∀ w ∈ wsX80, w ∈ v_ka_resultAt := (fun w h => List.mem_cons_of_mem _ (List.mem_append_right _ (List.mem_append_right _ (List.mem_append_right _ h))))
  refine lv_aload_n hx hb dX8_resultAt_0 rfl (lv_at hl 0 rfl) ?_
  refine lv_iload_n hx hb dX8_resultAt_1 rfl (lv_at hl 1 rfl) ?_
  refine x_calliW (va_runV (As := [.int q]) (rest := []) ⟨hx, hb, hml, hown, hts⟩ (ka_hasResult l D y H.size ad σ q) (cwV 1 hts g_ka_resultAt_0 rfl rfl rfl (by decide +kernel) ⟨Nat.le_of_ble_eq_true rfl, Nat.le_of_ble_eq_true rfl⟩) (x_preV (q := (RX8, TX8, 13)) hK hP hD (ci := 7) (q0 := 0) rfl tpw_o0) rfl rfl hl.1 rfl (lv_room (Nat.le_of_ble_eq_true rfl)) dX8_resultAt_2 ⟨Nat.le_of_ble_eq_true rfl, Nat.le_of_ble_eq_true rfl⟩) hP hD hS hA (fun r_1 u H locs hw hP hD hS => ?_)
  try dsimp only at hw
  have hP : va_P D vwCl (tpw y ad σ) H := hP
  have hD : va_D A (tpw y ad σ) := hD
  replace hw : (r_1.toInt = 1 ∧ 0 ≤ q.toInt ∧ q.toInt < ((σ.1 141)).toInt) ∨ r_1.toInt = 0 := hw
  refine lv_if_eq (tgt := 17) hx hb dX8_resultAt_5 (by decide) (fun c_2 => ?_) (fun c_2 => ?_)
  · have kc_2 : r_1.toInt = 0 := by have h9 := c_2; simp only [ge_iff_le, gt_iff_lt, x_lt, x_le, x_eq, ne_eq, Int32.not_lt, Int32.not_le] at h9; simp only [Int32.reduceToInt] at h9; omega
    refine lv_aload_n hx hb dX8_resultAt_17 rfl (lv_at hl 0 rfl) ?_
    refine x_calliW (va_runV (As := []) (rest := []) ⟨hx, hb, hml, hown, hts⟩ (ka_zeroAt l D y H.size ad σ ) (cwV 0 hts g_ka_resultAt_1 rfl rfl rfl (by decide +kernel) ⟨Nat.le_of_ble_eq_true rfl, Nat.le_of_ble_eq_true rfl⟩) (x_preV (q := (RX8, TX8, 13)) hK hP hD (ci := 7) (q0 := 0) rfl tpw_o0) rfl rfl hl.1 rfl (lv_room (Nat.le_of_ble_eq_true rfl)) dX8_resultAt_18 ⟨Nat.le_of_ble_eq_true rfl, Nat.le_of_ble_eq_true rfl⟩) hP hD hS hA (fun r_3 u H locs hw hP hD hS => ?_)
    try dsimp only at hw
    have hP : va_P D vwCl (tpw y ad σ) H := hP
    have hD : va_D A (tpw y ad σ) := hD
    replace hw : r_3 = (σ.1 137) := hw
    have hwz : r_3.toInt = (σ.1 137).toInt := by rw [hw]
    exact x_iretW (v := r_3) (u := ()) hx hb hr hQ ⟨by omega, by omega⟩ hP hD hK hS dX8_resultAt_21 hlocks
  · have kc_2 : r_1.toInt ≠ 0 := by have h9 := c_2; simp only [ge_iff_le, gt_iff_lt, x_lt, x_le, x_eq, ne_eq, Int32.not_lt, Int32.not_le] at h9; simp only [Int32.reduceToInt] at h9; omega
    refine lv_aload_n hx hb dX8_resultAt_8 rfl (lv_at hl 0 rfl) ?_
    refine va_get (D := D) (ci := 7) (v := .ref (ad 135)) (C := RX8) (T := TX8) (N := 13) hx hb hts inX8 hown hK hP 0 tpw_o0 rfl 4 (by decide) fl25 (fun _ h9 => h9) rfl dX8_resultAt_9 ?_
    refine lv_iload_n hx hb dX8_resultAt_12 rfl (lv_at hl 1 rfl) ?_
    refine va_iald hx hb hK hP 5 2 tpw_a5 rfl (x_in (by omega) (by omega)) dX8_resultAt_13 ?_
    refine lv_topi (fun i_4 ei_4 => ?_)
    have ei_4 : i_4 = (σ.2.2.1 135) (Int32.toNatClampNeg q) := ei_4
    have bi_4 := b_at hB135 ei_4
    refine lv_goto (tgt := 21) hx hb dX8_resultAt_14 (by decide) ?_
    exact x_iretW (v := i_4) (u := ()) hx hb hr hQ ⟨by omega, by omega⟩ hP hD hK hS dX8_resultAt_21 hlocks

def v_ka_lay : List Cond := .code yX8_lay cX8_lay 6 (some .int) :: ([.fieldLink RX8 44 "SlopeRunner$Tape" "size" "I", .fieldLink RX8 15 "SlopeRunner$Tape" "kind" "[I", .fieldLink RX8 19 "SlopeRunner$Tape" "left" "[I", .fieldLink RX8 22 "SlopeRunner$Tape" "right" "[I", .fieldLink RX8 11 "SlopeRunner$Tape" "value" "[J", .fieldLink RX8 47 "SlopeRunner$Tape" "steps" "I"] ++ ((wsV RX8 63 RX8 yX8_zeroAt v_ka_zeroAt) ++ ((wsV RX8 84 RX8 yX8_holds v_ka_holds) ++ wsX80)))
theorem g_ka_lay_0 : GoodIn v_ka_lay (wsV RX8 63 RX8 yX8_zeroAt v_ka_zeroAt) := goodIn_sub (fun w h => List.mem_cons_of_mem _ (List.mem_append_right _ (List.mem_append_left _ h))) (by decide +kernel)
theorem g_ka_lay_1 : GoodIn v_ka_lay (wsV RX8 84 RX8 yX8_holds v_ka_holds) := goodIn_sub (fun w h => List.mem_cons_of_mem _ (List.mem_append_right _ (List.mem_append_right _ (List.mem_append_left _ h)))) (by decide +kernel)
set_option maxHeartbeats 4000000 in
set_option maxRecDepth 100000 in
theorem ka_lay (l : Launch) (D : va_G) (y : Nat → ClassId) (sz : Nat) (ad : Nat → Nat) (σ : OS) (k a b : Int32) (z : Int64) (hsz0 : 0 ≤ (σ.1 139).toInt) (hsz1 : (σ.1 139).toInt ≤ 1359)  (hB133 : bI (σ.2.2.1 133) 0 1358) (hB134 : bI (σ.2.2.1 134) 0 1358) : Met l yX8_lay v_ka_lay ({ frames := 1, cells := 0, slots := 0, locals := 21 } : Room) (va_Pc [.ref (ad 130), .int k, .int a, .int b, .long z] (xPre D (xT y) (tpw y ad σ) sz)) (va_Qi (fun (r : Int32) (u : (Nat → Int32) × (Nat → Int32) × (Nat → Int32) × (Nat → Int64) × Int32 × Int32) => (0 ≤ u.2.2.2.2.1.toInt ∧ u.2.2.2.2.1.toInt ≤ 1359) ∧ bI u.2.1 0 1358 ∧ bI u.2.2.1 0 1358) (fun (u : (Nat → Int32) × (Nat → Int32) × (Nat → Int32) × (Nat → Int64) × Int32 × Int32) => xB D (xT y) (va_A (tpw y ad σ) sz) (tpw y ad (sI (sI (tJ (tI (tI (tI σ 132 u.1) 133 u.2.1) 134 u.2.2.1) 131 u.2.2.2.1) 139 u.2.2.2.2.1) 140 u.2.2.2.2.2))) (va_A (tpw y ad σ) sz)) 0 0 (va_A (tpw y ad σ) sz) := by
  refine x_meti (cc := cX8_lay) (maxL := 6) (by decide) rfl (Nat.le_of_ble_eq_true rfl) ?_
  intro p e s m below meth c A H locs Q hx hb hml hown hts hr hlocks hmn hA hP hK hD hS ls hl hQ
  have hl : lv_has ls 6 [(0, .ref (ad 130)), (1, .int k), (2, .int a), (3, .int b), (4, .long z)] := hl
  have fl44 := hts (.fieldLink RX8 44 "SlopeRunner$Tape" "size" "I") (List.mem_of_getElem? (i := 1) rfl)
  have inX8 : ∀ w ∈ wsX80, w ∈ v_ka_lay := (fun w h => List.mem_cons_of_mem _ (List.mem_append_right _ (List.mem_append_right _ (List.mem_append_right _ h))))
  have kk_1359 : (1359 : Int32).toInt = 1359 := rfl
  have kk_0 : (0 : Int32).toInt = 0 := rfl
  have fl15 := hts (.fieldLink RX8 15 "SlopeRunner$Tape" "kind" "[I") (List.mem_of_getElem? (i := 2) rfl)
  have fl19 := hts (.fieldLink RX8 19 "SlopeRunner$Tape" "left" "[I") (List.mem_of_getElem? (i := 3) rfl)
  have fl22 := hts (.fieldLink RX8 22 "SlopeRunner$Tape" "right" "[I") (List.mem_of_getElem? (i := 4) rfl)
  have fl11 := hts (.fieldLink RX8 11 "SlopeRunner$Tape" "value" "[J") (List.mem_of_getElem? (i := 5) rfl)
  have kk_1 : (1 : Int32).toInt = 1 := rfl
  have fl47 := hts (.fieldLink RX8 47 "SlopeRunner$Tape" "steps" "I") (List.mem_of_getElem? (i := 6) rfl)
  refine lv_aload_n hx hb dX8_lay_0 rfl (lv_at hl 0 rfl) ?_
  refine va_get (D := D) (ci := 7) (v := .int (σ.1 139)) (C := RX8) (T := TX8) (N := 13) hx hb hts inX8 hown hK hP 0 tpw_o0 rfl 8 (by decide) fl44 (fun _ h9 => h9) rfl dX8_lay_1 ?_
  refine lv_sipush (v := 1359) hx hb dX8_lay_4 (by decide) ?_
  refine lv_icmp_ge (tgt := 26) hx hb dX8_lay_7 (by decide) (fun c_1 => ?_) (fun c_1 => ?_)
  · have kc_1 : (σ.1 139).toInt ≥ 1359 := by have h9 := c_1; simp only [ge_iff_le, gt_iff_lt, x_lt, x_le, x_eq, ne_eq, Int32.not_lt, Int32.not_le] at h9; simp only [Int32.reduceToInt] at h9; omega
    refine lv_aload_n hx hb dX8_lay_26 rfl (lv_at hl 0 rfl) ?_
    refine x_calliW (va_runV (As := []) (rest := []) ⟨hx, hb, hml, hown, hts⟩ (ka_zeroAt l D y H.size ad σ ) (cwV 0 hts g_ka_lay_0 rfl rfl rfl (by decide +kernel) ⟨Nat.le_of_ble_eq_true rfl, Nat.le_of_ble_eq_true rfl⟩) (x_preV (q := (RX8, TX8, 13)) hK hP hD (ci := 7) (q0 := 0) rfl tpw_o0) rfl rfl hl.1 rfl (lv_room (Nat.le_of_ble_eq_true rfl)) dX8_lay_27 ⟨Nat.le_of_ble_eq_true rfl, Nat.le_of_ble_eq_true rfl⟩) hP hD hS hA (fun r_2 u H locs hw hP hD hS => ?_)
    try dsimp only at hw
    have hP : va_P D vwCl (tpw y ad σ) H := hP
    have hD : va_D A (tpw y ad σ) := hD
    replace hw : r_2 = (σ.1 137) := hw
    have hP : va_P D vwCl (tpw y ad (sI (sI (tJ (tI (tI (tI σ 132 (σ.2.2.1 132)) 133 (σ.2.2.1 133)) 134 (σ.2.2.1 134)) 131 (σ.2.2.2 131)) 139 (σ.1 139)) 140 (σ.1 140))) H := hP
    have hD : va_D A (tpw y ad (sI (sI (tJ (tI (tI (tI σ 132 (σ.2.2.1 132)) 133 (σ.2.2.1 133)) 134 (σ.2.2.1 134)) 131 (σ.2.2.2 131)) 139 (σ.1 139)) 140 (σ.1 140))) := hD
    exact x_iretW (v := r_2) (u := ((σ.2.2.1 132), (σ.2.2.1 133), (σ.2.2.1 134), (σ.2.2.2 131), (σ.1 139), (σ.1 140))) hx hb hr hQ (by (try dsimp only); exact ⟨⟨by omega, by omega⟩, hB133, hB134⟩) hP hD hK hS dX8_lay_30 hlocks
  · have kc_1 : (σ.1 139).toInt < 1359 := by have h9 := c_1; simp only [ge_iff_le, gt_iff_lt, x_lt, x_le, x_eq, ne_eq, Int32.not_lt, Int32.not_le] at h9; simp only [Int32.reduceToInt] at h9; omega
    refine lv_aload_n hx hb dX8_lay_10 rfl (lv_at hl 0 rfl) ?_
    refine lv_iload_n hx hb dX8_lay_11 rfl (lv_at hl 2 rfl) ?_
    refine x_calliW (va_runV (As := [.int a]) (rest := []) ⟨hx, hb, hml, hown, hts⟩ (ka_holds l D y H.size ad σ a) (cwV 1 hts g_ka_lay_1 rfl rfl rfl (by decide +kernel) ⟨Nat.le_of_ble_eq_true rfl, Nat.le_of_ble_eq_true rfl⟩) (x_preV (q := (RX8, TX8, 13)) hK hP hD (ci := 7) (q0 := 0) rfl tpw_o0) rfl rfl hl.1 rfl (lv_room (Nat.le_of_ble_eq_true rfl)) dX8_lay_12 ⟨Nat.le_of_ble_eq_true rfl, Nat.le_of_ble_eq_true rfl⟩) hP hD hS hA (fun r_3 u H locs hw hP hD hS => ?_)
    try dsimp only at hw
    have hP : va_P D vwCl (tpw y ad σ) H := hP
    have hD : va_D A (tpw y ad σ) := hD
    replace hw : (r_3.toInt = 1 ∧ 0 ≤ a.toInt ∧ a.toInt < ((σ.1 139)).toInt) ∨ r_3.toInt = 0 := hw
    have hh15 := hw
    refine lv_if_eq (tgt := 26) hx hb dX8_lay_15 (by decide) (fun c_4 => ?_) (fun c_4 => ?_)
    · have kc_4 : r_3.toInt = 0 := by have h9 := c_4; simp only [ge_iff_le, gt_iff_lt, x_lt, x_le, x_eq, ne_eq, Int32.not_lt, Int32.not_le] at h9; simp only [Int32.reduceToInt] at h9; omega
      refine lv_aload_n hx hb dX8_lay_26 rfl (lv_at hl 0 rfl) ?_
      refine x_calliW (va_runV (As := []) (rest := []) ⟨hx, hb, hml, hown, hts⟩ (ka_zeroAt l D y H.size ad σ ) (cwV 0 hts g_ka_lay_0 rfl rfl rfl (by decide +kernel) ⟨Nat.le_of_ble_eq_true rfl, Nat.le_of_ble_eq_true rfl⟩) (x_preV (q := (RX8, TX8, 13)) hK hP hD (ci := 7) (q0 := 0) rfl tpw_o0) rfl rfl hl.1 rfl (lv_room (Nat.le_of_ble_eq_true rfl)) dX8_lay_27 ⟨Nat.le_of_ble_eq_true rfl, Nat.le_of_ble_eq_true rfl⟩) hP hD hS hA (fun r_5 u H locs hw hP hD hS => ?_)
      try dsimp only at hw
      have hP : va_P D vwCl (tpw y ad σ) H := hP
      have hD : va_D A (tpw y ad σ) := hD
      replace hw : r_5 = (σ.1 137) := hw
      have hP : va_P D vwCl (tpw y ad (sI (sI (tJ (tI (tI (tI σ 132 (σ.2.2.1 132)) 133 (σ.2.2.1 133)) 134 (σ.2.2.1 134)) 131 (σ.2.2.2 131)) 139 (σ.1 139)) 140 (σ.1 140))) H := hP
      have hD : va_D A (tpw y ad (sI (sI (tJ (tI (tI (tI σ 132 (σ.2.2.1 132)) 133 (σ.2.2.1 133)) 134 (σ.2.2.1 134)) 131 (σ.2.2.2 131)) 139 (σ.1 139)) 140 (σ.1 140))) := hD
      exact x_iretW (v := r_5) (u := ((σ.2.2.1 132), (σ.2.2.1 133), (σ.2.2.1 134), (σ.2.2.2 131), (σ.1 139), (σ.1 140))) hx hb hr hQ (by (try dsimp only); exact ⟨⟨by omega, by omega⟩, hB133, hB134⟩) hP hD hK hS dX8_lay_30 hlocks
    · have kc_4 : r_3.toInt ≠ 0 := by have h9 := c_4; simp only [ge_iff_le, gt_iff_lt, x_lt, x_le, x_eq, ne_eq, Int32.not_lt, Int32.not_le] at h9; simp only [Int32.reduceToInt] at h9; omega
      refine lv_aload_n hx hb dX8_lay_18 rfl (lv_at hl 0 rfl) ?_
      refine lv_iload_n hx hb dX8_lay_19 rfl (lv_at hl 3 rfl) ?_
      refine x_calliW (va_runV (As := [.int b]) (rest := []) ⟨hx, hb, hml, hown, hts⟩ (ka_holds l D y H.size ad σ b) (cwV 1 hts g_ka_lay_1 rfl rfl rfl (by decide +kernel) ⟨Nat.le_of_ble_eq_true rfl, Nat.le_of_ble_eq_true rfl⟩) (x_preV (q := (RX8, TX8, 13)) hK hP hD (ci := 7) (q0 := 0) rfl tpw_o0) rfl rfl hl.1 rfl (lv_room (Nat.le_of_ble_eq_true rfl)) dX8_lay_20 ⟨Nat.le_of_ble_eq_true rfl, Nat.le_of_ble_eq_true rfl⟩) hP hD hS hA (fun r_6 u H locs hw hP hD hS => ?_)
      try dsimp only at hw
      have hP : va_P D vwCl (tpw y ad σ) H := hP
      have hD : va_D A (tpw y ad σ) := hD
      replace hw : (r_6.toInt = 1 ∧ 0 ≤ b.toInt ∧ b.toInt < ((σ.1 139)).toInt) ∨ r_6.toInt = 0 := hw
      have hh23 := hw
      refine lv_if_ne (tgt := 31) hx hb dX8_lay_23 (by decide) (fun c_7 => ?_) (fun c_7 => ?_)
      · have kc_7 : r_6.toInt ≠ 0 := by have h9 := c_7; simp only [ge_iff_le, gt_iff_lt, x_lt, x_le, x_eq, ne_eq, Int32.not_lt, Int32.not_le] at h9; simp only [Int32.reduceToInt] at h9; omega
        refine lv_aload_n hx hb dX8_lay_31 rfl (lv_at hl 0 rfl) ?_
        refine va_get (D := D) (ci := 7) (v := .ref (ad 132)) (C := RX8) (T := TX8) (N := 13) hx hb hts inX8 hown hK hP 0 tpw_o0 rfl 1 (by decide) fl15 (fun _ h9 => h9) rfl dX8_lay_32 ?_
        refine lv_aload_n hx hb dX8_lay_35 rfl (lv_at hl 0 rfl) ?_
        refine va_get (D := D) (ci := 7) (v := .int (σ.1 139)) (C := RX8) (T := TX8) (N := 13) hx hb hts inX8 hown hK hP 0 tpw_o0 rfl 8 (by decide) fl44 (fun _ h9 => h9) rfl dX8_lay_36 ?_
        refine lv_iload_n hx hb dX8_lay_39 rfl (lv_at hl 1 rfl) ?_
        refine va_iast hx hb hK hP hD hS 2 2 tpw_a2 rfl (x_in (by omega) (by omega)) dX8_lay_40 (fun H locs hP hD hS => ?_)
        obtain ⟨f_8, ef_8⟩ : ∃ z9 : Nat → Int32, z9 = (upd (σ.2.2.1 132) (Int32.toNatClampNeg (σ.1 139)) k) := ⟨_, rfl⟩
        have hP : va_P D vwCl (tpw y ad (tI σ 132 f_8)) H := by rw [ef_8]; exact x_trP hP tpw_s2
        have hD : va_D A (tpw y ad (tI σ 132 f_8)) := by rw [ef_8]; exact x_trD hD tpw_s2
        refine lv_aload_n hx hb dX8_lay_41 rfl (lv_at hl 0 rfl) ?_
        refine va_get (D := D) (ci := 7) (v := .ref (ad 133)) (C := RX8) (T := TX8) (N := 13) hx hb hts inX8 hown hK hP 0 tpw_o0 rfl 2 (by decide) fl19 (fun _ h9 => h9) rfl dX8_lay_42 ?_
        refine lv_aload_n hx hb dX8_lay_45 rfl (lv_at hl 0 rfl) ?_
        refine va_get (D := D) (ci := 7) (v := .int (σ.1 139)) (C := RX8) (T := TX8) (N := 13) hx hb hts inX8 hown hK hP 0 tpw_o0 rfl 8 (by decide) fl44 (fun _ h9 => h9) rfl dX8_lay_46 ?_
        refine lv_iload_n hx hb dX8_lay_49 rfl (lv_at hl 2 rfl) ?_
        refine va_iast hx hb hK hP hD hS 3 2 tpw_a3 rfl (x_in (by omega) (by omega)) dX8_lay_50 (fun H locs hP hD hS => ?_)
        obtain ⟨f_9, ef_9⟩ : ∃ z9 : Nat → Int32, z9 = (upd (σ.2.2.1 133) (Int32.toNatClampNeg (σ.1 139)) a) := ⟨_, rfl⟩
        have hP : va_P D vwCl (tpw y ad (tI (tI σ 132 f_8) 133 f_9)) H := by rw [ef_9]; exact x_trP hP tpw_s3
        have hD : va_D A (tpw y ad (tI (tI σ 132 f_8) 133 f_9)) := by rw [ef_9]; exact x_trD hD tpw_s3
        have hvf_9 : bI f_9 0 1358 := by rw [ef_9]; exact b_upd hB133 (by omega) (by omega)
        refine lv_aload_n hx hb dX8_lay_51 rfl (lv_at hl 0 rfl) ?_
        refine va_get (D := D) (ci := 7) (v := .ref (ad 134)) (C := RX8) (T := TX8) (N := 13) hx hb hts inX8 hown hK hP 0 tpw_o0 rfl 3 (by decide) fl22 (fun _ h9 => h9) rfl dX8_lay_52 ?_
        refine lv_aload_n hx hb dX8_lay_55 rfl (lv_at hl 0 rfl) ?_
        refine va_get (D := D) (ci := 7) (v := .int (σ.1 139)) (C := RX8) (T := TX8) (N := 13) hx hb hts inX8 hown hK hP 0 tpw_o0 rfl 8 (by decide) fl44 (fun _ h9 => h9) rfl dX8_lay_56 ?_
        refine lv_iload_n hx hb dX8_lay_59 rfl (lv_at hl 3 rfl) ?_
        refine va_iast hx hb hK hP hD hS 4 2 tpw_a4 rfl (x_in (by omega) (by omega)) dX8_lay_60 (fun H locs hP hD hS => ?_)
        obtain ⟨f_10, ef_10⟩ : ∃ z9 : Nat → Int32, z9 = (upd (σ.2.2.1 134) (Int32.toNatClampNeg (σ.1 139)) b) := ⟨_, rfl⟩
        have hP : va_P D vwCl (tpw y ad (tI (tI (tI σ 132 f_8) 133 f_9) 134 f_10)) H := by rw [ef_10]; exact x_trP hP tpw_s4
        have hD : va_D A (tpw y ad (tI (tI (tI σ 132 f_8) 133 f_9) 134 f_10)) := by rw [ef_10]; exact x_trD hD tpw_s4
        have hvf_10 : bI f_10 0 1358 := by rw [ef_10]; exact b_upd hB134 (by omega) (by omega)
        refine lv_aload_n hx hb dX8_lay_61 rfl (lv_at hl 0 rfl) ?_
        refine va_get (D := D) (ci := 7) (v := .ref (ad 131)) (C := RX8) (T := TX8) (N := 13) hx hb hts inX8 hown hK hP 0 tpw_o0 rfl 0 (by decide) fl11 (fun _ h9 => h9) rfl dX8_lay_62 ?_
        refine lv_aload_n hx hb dX8_lay_65 rfl (lv_at hl 0 rfl) ?_
        refine va_get (D := D) (ci := 7) (v := .int (σ.1 139)) (C := RX8) (T := TX8) (N := 13) hx hb hts inX8 hown hK hP 0 tpw_o0 rfl 8 (by decide) fl44 (fun _ h9 => h9) rfl dX8_lay_66 ?_
        refine lv_lload hx hb dX8_lay_69 (lv_at hl 4 rfl) ?_
        refine va_last hx hb hK hP hD hS 1 3 tpw_a1 rfl (x_in (by omega) (by omega)) dX8_lay_71 (fun H locs hP hD hS => ?_)
        obtain ⟨f_11, ef_11⟩ : ∃ z9 : Nat → Int64, z9 = (vp_updL (σ.2.2.2 131) (Int32.toNatClampNeg (σ.1 139)) z) := ⟨_, rfl⟩
        have hP : va_P D vwCl (tpw y ad (tJ (tI (tI (tI σ 132 f_8) 133 f_9) 134 f_10) 131 f_11)) H := by rw [ef_11]; exact x_trP hP tpw_s1
        have hD : va_D A (tpw y ad (tJ (tI (tI (tI σ 132 f_8) 133 f_9) 134 f_10) 131 f_11)) := by rw [ef_11]; exact x_trD hD tpw_s1
        refine lv_aload_n hx hb dX8_lay_72 rfl (lv_at hl 0 rfl) ?_
        refine lv_dup hx hb dX8_lay_73 rfl ?_
        refine va_get (D := D) (ci := 7) (v := .int (σ.1 139)) (C := RX8) (T := TX8) (N := 13) hx hb hts inX8 hown hK hP 0 tpw_o0 rfl 8 (by decide) fl44 (fun _ h9 => h9) rfl dX8_lay_74 ?_
        refine lv_iconst (v := 1) hx hb dX8_lay_77 (by decide) ?_
        refine lv_iadd hx hb dX8_lay_78 ?_
        refine lv_topi (fun i_12 ei_12 => ?_)
        have vi_12 : i_12.toInt = (σ.1 139).toInt + 1 := by have h9 := x_add ei_12 (by omega) (by omega); omega
        refine va_put (D := D) (ci := 7) (v := .int i_12) (ty := .int) (C := RX8) (T := TX8) (N := 13) hx hb hts inX8 tyX8 tyX8_ok nmX8 hown hK hP hD hS 0 tpw_o0 rfl 8 (by decide) fl44 (fun _ h9 => h9) rfl (by decide +kernel) rfl rfl (Nat.le_of_ble_eq_true rfl) dX8_lay_79 (fun H locs hP hD hS => ?_)
        have hP : va_P D vwCl (tpw y ad (sI (tJ (tI (tI (tI σ 132 f_8) 133 f_9) 134 f_10) 131 f_11) 139 i_12)) H := x_trP hP tpw_p0_8
        have hD : va_D A (tpw y ad (sI (tJ (tI (tI (tI σ 132 f_8) 133 f_9) 134 f_10) 131 f_11) 139 i_12)) := x_trD hD tpw_p0_8
        refine lv_aload_n hx hb dX8_lay_82 rfl (lv_at hl 0 rfl) ?_
        refine lv_dup hx hb dX8_lay_83 rfl ?_
        refine va_get (D := D) (ci := 7) (v := .int (σ.1 140)) (C := RX8) (T := TX8) (N := 13) hx hb hts inX8 hown hK hP 0 tpw_o0 rfl 9 (by decide) fl47 (fun _ h9 => h9) rfl dX8_lay_84 ?_
        refine lv_iconst (v := 1) hx hb dX8_lay_87 (by decide) ?_
        refine lv_iadd hx hb dX8_lay_88 ?_
        refine lv_topi (fun i_13 ei_13 => ?_)
        refine va_put (D := D) (ci := 7) (v := .int i_13) (ty := .int) (C := RX8) (T := TX8) (N := 13) hx hb hts inX8 tyX8 tyX8_ok nmX8 hown hK hP hD hS 0 tpw_o0 rfl 9 (by decide) fl47 (fun _ h9 => h9) rfl (by decide +kernel) rfl rfl (Nat.le_of_ble_eq_true rfl) dX8_lay_89 (fun H locs hP hD hS => ?_)
        have hP : va_P D vwCl (tpw y ad (sI (sI (tJ (tI (tI (tI σ 132 f_8) 133 f_9) 134 f_10) 131 f_11) 139 i_12) 140 i_13)) H := x_trP hP tpw_p0_9
        have hD : va_D A (tpw y ad (sI (sI (tJ (tI (tI (tI σ 132 f_8) 133 f_9) 134 f_10) 131 f_11) 139 i_12) 140 i_13)) := x_trD hD tpw_p0_9
        refine lv_aload_n hx hb dX8_lay_92 rfl (lv_at hl 0 rfl) ?_
        refine va_get (D := D) (ci := 7) (v := .int i_12) (C := RX8) (T := TX8) (N := 13) hx hb hts inX8 hown hK hP 0 tpw_o0 rfl 8 (by decide) fl44 (fun _ h9 => h9) rfl dX8_lay_93 ?_
        refine lv_iconst (v := 1) hx hb dX8_lay_96 (by decide) ?_
        refine lv_isub hx hb dX8_lay_97 ?_
        refine lv_topi (fun i_14 ei_14 => ?_)
        exact x_iretW (v := i_14) (u := (f_8, f_9, f_10, f_11, i_12, i_13)) hx hb hr hQ (by (try dsimp only); exact ⟨⟨by omega, by omega⟩, hvf_9, hvf_10⟩) hP hD hK hS dX8_lay_98 hlocks
      · have kc_7 : r_6.toInt = 0 := by have h9 := c_7; simp only [ge_iff_le, gt_iff_lt, x_lt, x_le, x_eq, ne_eq, Int32.not_lt, Int32.not_le] at h9; simp only [Int32.reduceToInt] at h9; omega
        refine lv_aload_n hx hb dX8_lay_26 rfl (lv_at hl 0 rfl) ?_
        refine x_calliW (va_runV (As := []) (rest := []) ⟨hx, hb, hml, hown, hts⟩ (ka_zeroAt l D y H.size ad σ ) (cwV 0 hts g_ka_lay_0 rfl rfl rfl (by decide +kernel) ⟨Nat.le_of_ble_eq_true rfl, Nat.le_of_ble_eq_true rfl⟩) (x_preV (q := (RX8, TX8, 13)) hK hP hD (ci := 7) (q0 := 0) rfl tpw_o0) rfl rfl hl.1 rfl (lv_room (Nat.le_of_ble_eq_true rfl)) dX8_lay_27 ⟨Nat.le_of_ble_eq_true rfl, Nat.le_of_ble_eq_true rfl⟩) hP hD hS hA (fun r_15 u H locs hw hP hD hS => ?_)
        try dsimp only at hw
        have hP : va_P D vwCl (tpw y ad σ) H := hP
        have hD : va_D A (tpw y ad σ) := hD
        replace hw : r_15 = (σ.1 137) := hw
        have hP : va_P D vwCl (tpw y ad (sI (sI (tJ (tI (tI (tI σ 132 (σ.2.2.1 132)) 133 (σ.2.2.1 133)) 134 (σ.2.2.1 134)) 131 (σ.2.2.2 131)) 139 (σ.1 139)) 140 (σ.1 140))) H := hP
        have hD : va_D A (tpw y ad (sI (sI (tJ (tI (tI (tI σ 132 (σ.2.2.1 132)) 133 (σ.2.2.1 133)) 134 (σ.2.2.1 134)) 131 (σ.2.2.2 131)) 139 (σ.1 139)) 140 (σ.1 140))) := hD
        exact x_iretW (v := r_15) (u := ((σ.2.2.1 132), (σ.2.2.1 133), (σ.2.2.1 134), (σ.2.2.2 131), (σ.1 139), (σ.1 140))) hx hb hr hQ (by (try dsimp only); exact ⟨⟨by omega, by omega⟩, hB133, hB134⟩) hP hD hK hS dX8_lay_30 hlocks

def v_ka_giveOut : List Cond := .code yX8_giveOut cX8_giveOut 2 (some .boolean) :: ([.fieldLink RX8 50 "SlopeRunner$Tape" "results" "I", .fieldLink RX8 25 "SlopeRunner$Tape" "given" "[I"] ++ ((wsV RX8 84 RX8 yX8_holds v_ka_holds) ++ wsX80))
theorem g_ka_giveOut_0 : GoodIn v_ka_giveOut (wsV RX8 84 RX8 yX8_holds v_ka_holds) := goodIn_sub (fun w h => List.mem_cons_of_mem _ (List.mem_append_right _ (List.mem_append_left _ h))) (by decide +kernel)
set_option maxHeartbeats 4000000 in
set_option maxRecDepth 100000 in
theorem ka_giveOut (l : Launch) (D : va_G) (y : Nat → ClassId) (sz : Nat) (ad : Nat → Nat) (σ : OS) (q : Int32) (hsz0 : 0 ≤ (σ.1 139).toInt) (hsz1 : (σ.1 139).toInt ≤ 1359) (hrs0 : 0 ≤ (σ.1 141).toInt) (hrs1 : (σ.1 141).toInt ≤ 12)  (hB135 : bI (σ.2.2.1 135) 0 1358) : Met l yX8_giveOut v_ka_giveOut ({ frames := 1, cells := 0, slots := 0, locals := 21 } : Room) (va_Pc [.ref (ad 130), .int q] (xPre D (xT y) (tpw y ad σ) sz)) (va_Qi (fun (r : Int32) (u : (Nat → Int32) × Int32) => (0 ≤ u.2.toInt ∧ u.2.toInt ≤ 12 ∧ (r.toInt = 0 ∨ r.toInt = 1)) ∧ bI u.1 0 1358) (fun (u : (Nat → Int32) × Int32) => xB D (xT y) (va_A (tpw y ad σ) sz) (tpw y ad (sI (tI σ 135 u.1) 141 u.2))) (va_A (tpw y ad σ) sz)) 0 0 (va_A (tpw y ad σ) sz) := by
  refine x_meti (cc := cX8_giveOut) (maxL := 2) (by decide) rfl (Nat.le_of_ble_eq_true rfl) ?_
  intro p e s m below meth c A H locs Q hx hb hml hown hts hr hlocks hmn hA hP hK hD hS ls hl hQ
  have hl : lv_has ls 2 [(0, .ref (ad 130)), (1, .int q)] := hl
  have fl50 := hts (.fieldLink RX8 50 "SlopeRunner$Tape" "results" "I") (List.mem_of_getElem? (i := 1) rfl)
  have inX8 : ∀ w ∈ wsX80, w ∈ v_ka_giveOut := (fun w h => List.mem_cons_of_mem _ (List.mem_append_right _ (List.mem_append_right _ h)))
  have kk_12 : (12 : Int32).toInt = 12 := rfl
  have kk_0 : (0 : Int32).toInt = 0 := rfl
  have fl25 := hts (.fieldLink RX8 25 "SlopeRunner$Tape" "given" "[I") (List.mem_of_getElem? (i := 2) rfl)
  have kk_1 : (1 : Int32).toInt = 1 := rfl
  refine lv_aload_n hx hb dX8_giveOut_0 rfl (lv_at hl 0 rfl) ?_
  refine va_get (D := D) (ci := 7) (v := .int (σ.1 141)) (C := RX8) (T := TX8) (N := 13) hx hb hts inX8 hown hK hP 0 tpw_o0 rfl 10 (by decide) fl50 (fun _ h9 => h9) rfl dX8_giveOut_1 ?_
  refine lv_bipush (v := 12) hx hb dX8_giveOut_4 (by decide) ?_
  refine lv_icmp_ge (tgt := 17) hx hb dX8_giveOut_6 (by decide) (fun c_1 => ?_) (fun c_1 => ?_)
  · have kc_1 : (σ.1 141).toInt ≥ 12 := by have h9 := c_1; simp only [ge_iff_le, gt_iff_lt, x_lt, x_le, x_eq, ne_eq, Int32.not_lt, Int32.not_le] at h9; simp only [Int32.reduceToInt] at h9; omega
    refine lv_iconst (v := 0) hx hb dX8_giveOut_17 (by decide) ?_
    have hP : va_P D vwCl (tpw y ad (sI (tI σ 135 (σ.2.2.1 135)) 141 (σ.1 141))) H := hP
    have hD : va_D A (tpw y ad (sI (tI σ 135 (σ.2.2.1 135)) 141 (σ.1 141))) := hD
    exact x_zretW (v := 0) (u := ((σ.2.2.1 135), (σ.1 141))) hx hb hr hQ rfl (by (try dsimp only); exact ⟨⟨by omega, by omega, by omega⟩, hB135⟩) hP hD hK hS dX8_giveOut_18 hlocks
  · have kc_1 : (σ.1 141).toInt < 12 := by have h9 := c_1; simp only [ge_iff_le, gt_iff_lt, x_lt, x_le, x_eq, ne_eq, Int32.not_lt, Int32.not_le] at h9; simp only [Int32.reduceToInt] at h9; omega
    refine lv_aload_n hx hb dX8_giveOut_9 rfl (lv_at hl 0 rfl) ?_
    refine lv_iload_n hx hb dX8_giveOut_10 rfl (lv_at hl 1 rfl) ?_
    refine x_calliW (va_runV (As := [.int q]) (rest := []) ⟨hx, hb, hml, hown, hts⟩ (ka_holds l D y H.size ad σ q) (cwV 1 hts g_ka_giveOut_0 rfl rfl rfl (by decide +kernel) ⟨Nat.le_of_ble_eq_true rfl, Nat.le_of_ble_eq_true rfl⟩) (x_preV (q := (RX8, TX8, 13)) hK hP hD (ci := 7) (q0 := 0) rfl tpw_o0) rfl rfl hl.1 rfl (lv_room (Nat.le_of_ble_eq_true rfl)) dX8_giveOut_11 ⟨Nat.le_of_ble_eq_true rfl, Nat.le_of_ble_eq_true rfl⟩) hP hD hS hA (fun r_2 u H locs hw hP hD hS => ?_)
    try dsimp only at hw
    have hP : va_P D vwCl (tpw y ad σ) H := hP
    have hD : va_D A (tpw y ad σ) := hD
    replace hw : (r_2.toInt = 1 ∧ 0 ≤ q.toInt ∧ q.toInt < ((σ.1 139)).toInt) ∨ r_2.toInt = 0 := hw
    refine lv_if_ne (tgt := 19) hx hb dX8_giveOut_14 (by decide) (fun c_3 => ?_) (fun c_3 => ?_)
    · have kc_3 : r_2.toInt ≠ 0 := by have h9 := c_3; simp only [ge_iff_le, gt_iff_lt, x_lt, x_le, x_eq, ne_eq, Int32.not_lt, Int32.not_le] at h9; simp only [Int32.reduceToInt] at h9; omega
      refine lv_aload_n hx hb dX8_giveOut_19 rfl (lv_at hl 0 rfl) ?_
      refine va_get (D := D) (ci := 7) (v := .ref (ad 135)) (C := RX8) (T := TX8) (N := 13) hx hb hts inX8 hown hK hP 0 tpw_o0 rfl 4 (by decide) fl25 (fun _ h9 => h9) rfl dX8_giveOut_20 ?_
      refine lv_aload_n hx hb dX8_giveOut_23 rfl (lv_at hl 0 rfl) ?_
      refine va_get (D := D) (ci := 7) (v := .int (σ.1 141)) (C := RX8) (T := TX8) (N := 13) hx hb hts inX8 hown hK hP 0 tpw_o0 rfl 10 (by decide) fl50 (fun _ h9 => h9) rfl dX8_giveOut_24 ?_
      refine lv_iload_n hx hb dX8_giveOut_27 rfl (lv_at hl 1 rfl) ?_
      refine va_iast hx hb hK hP hD hS 5 2 tpw_a5 rfl (x_in (by omega) (by omega)) dX8_giveOut_28 (fun H locs hP hD hS => ?_)
      obtain ⟨f_4, ef_4⟩ : ∃ z9 : Nat → Int32, z9 = (upd (σ.2.2.1 135) (Int32.toNatClampNeg (σ.1 141)) q) := ⟨_, rfl⟩
      have hP : va_P D vwCl (tpw y ad (tI σ 135 f_4)) H := by rw [ef_4]; exact x_trP hP tpw_s5
      have hD : va_D A (tpw y ad (tI σ 135 f_4)) := by rw [ef_4]; exact x_trD hD tpw_s5
      have hvf_4 : bI f_4 0 1358 := by rw [ef_4]; exact b_upd hB135 (by omega) (by omega)
      refine lv_aload_n hx hb dX8_giveOut_29 rfl (lv_at hl 0 rfl) ?_
      refine lv_dup hx hb dX8_giveOut_30 rfl ?_
      refine va_get (D := D) (ci := 7) (v := .int (σ.1 141)) (C := RX8) (T := TX8) (N := 13) hx hb hts inX8 hown hK hP 0 tpw_o0 rfl 10 (by decide) fl50 (fun _ h9 => h9) rfl dX8_giveOut_31 ?_
      refine lv_iconst (v := 1) hx hb dX8_giveOut_34 (by decide) ?_
      refine lv_iadd hx hb dX8_giveOut_35 ?_
      refine lv_topi (fun i_5 ei_5 => ?_)
      have vi_5 : i_5.toInt = (σ.1 141).toInt + 1 := by have h9 := x_add ei_5 (by omega) (by omega); omega
      refine va_put (D := D) (ci := 7) (v := .int i_5) (ty := .int) (C := RX8) (T := TX8) (N := 13) hx hb hts inX8 tyX8 tyX8_ok nmX8 hown hK hP hD hS 0 tpw_o0 rfl 10 (by decide) fl50 (fun _ h9 => h9) rfl (by decide +kernel) rfl rfl (Nat.le_of_ble_eq_true rfl) dX8_giveOut_36 (fun H locs hP hD hS => ?_)
      have hP : va_P D vwCl (tpw y ad (sI (tI σ 135 f_4) 141 i_5)) H := x_trP hP tpw_p0_10
      have hD : va_D A (tpw y ad (sI (tI σ 135 f_4) 141 i_5)) := x_trD hD tpw_p0_10
      refine lv_iconst (v := 1) hx hb dX8_giveOut_39 (by decide) ?_
      exact x_zretW (v := 1) (u := (f_4, i_5)) hx hb hr hQ rfl (by (try dsimp only); exact ⟨⟨by omega, by omega, by omega⟩, hvf_4⟩) hP hD hK hS dX8_giveOut_40 hlocks
    · have kc_3 : r_2.toInt = 0 := by have h9 := c_3; simp only [ge_iff_le, gt_iff_lt, x_lt, x_le, x_eq, ne_eq, Int32.not_lt, Int32.not_le] at h9; simp only [Int32.reduceToInt] at h9; omega
      refine lv_iconst (v := 0) hx hb dX8_giveOut_17 (by decide) ?_
      have hP : va_P D vwCl (tpw y ad (sI (tI σ 135 (σ.2.2.1 135)) 141 (σ.1 141))) H := hP
      have hD : va_D A (tpw y ad (sI (tI σ 135 (σ.2.2.1 135)) 141 (σ.1 141))) := hD
      exact x_zretW (v := 0) (u := ((σ.2.2.1 135), (σ.1 141))) hx hb hr hQ rfl (by (try dsimp only); exact ⟨⟨by omega, by omega, by omega⟩, hB135⟩) hP hD hK hS dX8_giveOut_18 hlocks

def v_ka_meet : List Cond := .code yX8_meet cX8_meet 7 none :: ([.fieldLink RX8 34 "SlopeRunner$Tape" "nearest" "J", .fieldLink RX8 53 "SlopeRunner$Tape" "edges" "I"] ++ ((va_wsS RX8 87 yX0_minus v_k_minus) ++ ((va_wsS RX8 90 yX0_withoutSign v_k_withoutSign) ++ ((va_wsS RX8 94 yX0_compare v_k_compare) ++ wsX80))))
theorem g_ka_meet_0 : GoodIn v_ka_meet (va_wsS RX8 87 yX0_minus v_k_minus) := goodIn_sub (fun w h => List.mem_cons_of_mem _ (List.mem_append_right _ (List.mem_append_left _ h))) (by decide +kernel)
theorem g_ka_meet_1 : GoodIn v_ka_meet (va_wsS RX8 90 yX0_withoutSign v_k_withoutSign) := goodIn_sub (fun w h => List.mem_cons_of_mem _ (List.mem_append_right _ (List.mem_append_right _ (List.mem_append_left _ h)))) (by decide +kernel)
theorem g_ka_meet_2 : GoodIn v_ka_meet (va_wsS RX8 94 yX0_compare v_k_compare) := goodIn_sub (fun w h => List.mem_cons_of_mem _ (List.mem_append_right _ (List.mem_append_right _ (List.mem_append_right _ (List.mem_append_left _ h))))) (by decide +kernel)
set_option maxHeartbeats 4000000 in
set_option maxRecDepth 100000 in
theorem ka_meet (l : Launch) (D : va_G) (y : Nat → ClassId) (sz : Nat) (ad : Nat → Nat) (σ : OS) (x z : Int64) : Met l yX8_meet v_ka_meet ({ frames := 3, cells := 0, slots := 0, locals := 92 } : Room) (va_Pc [.ref (ad 130), .long x, .long z] (xPre D (xT y) (tpw y ad σ) sz)) (va_Qv (fun (u : Int32 × Int64) => True) (fun (u : Int32 × Int64) => xB D (xT y) (va_A (tpw y ad σ) sz) (tpw y ad (sJ (sI σ 142 u.1) 143 u.2))) (va_A (tpw y ad σ) sz)) 0 0 (va_A (tpw y ad σ) sz) := by
  refine x_metv (cc := cX8_meet) (maxL := 7) (by decide) rfl (Nat.le_of_ble_eq_true rfl) ?_
  intro p e s m below meth c A H locs Q hx hb hml hown hts hr hlocks hmn hA hP hK hD hS ls hl hQ
  have hl : lv_has ls 7 [(0, .ref (ad 130)), (1, .long x), (3, .long z)] := hl
  have fl34 := hts (.fieldLink RX8 34 "SlopeRunner$Tape" "nearest" "J") (List.mem_of_getElem? (i := 1) rfl)
  have inX8 : ∀ w ∈ wsX80, w ∈ v_ka_meet := (fun w h => List.mem_cons_of_mem _ (List.mem_append_right _ (List.mem_append_right _ (List.mem_append_right _ (List.mem_append_right _ h)))))
  have kk_0 : (0 : Int32).toInt = 0 := rfl
  have fl53 := hts (.fieldLink RX8 53 "SlopeRunner$Tape" "edges" "I") (List.mem_of_getElem? (i := 2) rfl)
  refine lv_lload_n hx hb dX8_meet_0 rfl (lv_at hl 1 rfl) ?_
  refine lv_lload_n hx hb dX8_meet_1 rfl (lv_at hl 2 rfl) ?_
  refine W.lcmp hx hb dX8_meet_2 ?_
  refine lv_if_ne (tgt := 16) hx hb dX8_meet_3 (by decide) (fun c_1 => ?_) (fun c_1 => ?_)
  · have kc_1 : x.toInt ≠ z.toInt := by have h9 := x_tri x z; (try simp only [Int64.reduceToInt] at h9); rcases h9 with ⟨g1, g2⟩ | ⟨g1, g2⟩ | ⟨g1, g2⟩ <;> first | omega | (exfalso; rw [g1] at c_1; revert c_1; decide)
    refine lv_lload_n hx hb dX8_meet_16 rfl (lv_at hl 1 rfl) ?_
    refine lv_lload_n hx hb dX8_meet_17 rfl (lv_at hl 2 rfl) ?_
    refine x_calllN (va_runS (As := [.long x, .long z]) (rest := []) ⟨hx, hb, hml, hown, hts⟩ (k_minus l D y H.size x z) (va_cwS 2 hts g_ka_meet_0 rfl rfl rfl (by decide +kernel) ⟨Nat.le_of_ble_eq_true rfl, Nat.le_of_ble_eq_true rfl⟩) (x_preS hK (x_nilP D H) (x_nilD A)) rfl rfl hl.1 rfl (lv_room (Nat.le_of_ble_eq_true rfl)) dX8_meet_18 ⟨Nat.le_of_ble_eq_true rfl, Nat.le_of_ble_eq_true rfl⟩) hP hD hS hA (fun r_2 u H locs hw hP hD hS => ?_)
    try dsimp only at hw
    refine x_calllN (va_runS (As := [.long r_2]) (rest := []) ⟨hx, hb, hml, hown, hts⟩ (k_withoutSign l D y H.size r_2) (va_cwS 1 hts g_ka_meet_1 rfl rfl rfl (by decide +kernel) ⟨Nat.le_of_ble_eq_true rfl, Nat.le_of_ble_eq_true rfl⟩) (x_preS hK (x_nilP D H) (x_nilD A)) rfl rfl hl.1 rfl (lv_room (Nat.le_of_ble_eq_true rfl)) dX8_meet_21 ⟨Nat.le_of_ble_eq_true rfl, Nat.le_of_ble_eq_true rfl⟩) hP hD hS hA (fun r_3 u H locs hw hP hD hS => ?_)
    try dsimp only at hw
    refine lv_lstore (lv' := [(5, .long r_3), (0, .ref (ad 130)), (1, .long x), (3, .long z)]) hx hb dX8_meet_24 hl (by decide) rfl (fun ls hl => ?_)
    refine lv_lload hx hb dX8_meet_26 (lv_at hl 0 rfl) ?_
    refine lv_lconst (v := 0) hx hb dX8_meet_28 (by decide) ?_
    refine W.lcmp hx hb dX8_meet_29 ?_
    refine lv_if_ne (tgt := 34) hx hb dX8_meet_30 (by decide) (fun c_4 => ?_) (fun c_4 => ?_)
    · have kc_4 : r_3.toInt ≠ 0 := by have h9 := x_tri r_3 (0 : Int64); (try simp only [Int64.reduceToInt] at h9); rcases h9 with ⟨g1, g2⟩ | ⟨g1, g2⟩ | ⟨g1, g2⟩ <;> first | omega | (exfalso; rw [g1] at c_4; revert c_4; decide)
      refine lv_aload_n hx hb dX8_meet_34 rfl (lv_at hl 1 rfl) ?_
      refine va_get (D := D) (ci := 7) (v := .long (σ.2.1 143)) (C := RX8) (T := TX8) (N := 13) hx hb hts inX8 hown hK hP 0 tpw_o0 rfl 12 (by decide) fl34 (fun _ h9 => h9) rfl dX8_meet_35 ?_
      refine lv_lconst (v := 0) hx hb dX8_meet_38 (by decide) ?_
      refine W.lcmp hx hb dX8_meet_39 ?_
      refine lv_if_eq (tgt := 55) hx hb dX8_meet_40 (by decide) (fun c_5 => ?_) (fun c_5 => ?_)
      · have kc_5 : (σ.2.1 143).toInt = 0 := by have h9 := x_tri (σ.2.1 143) (0 : Int64); (try simp only [Int64.reduceToInt] at h9); rcases h9 with ⟨g1, g2⟩ | ⟨g1, g2⟩ | ⟨g1, g2⟩ <;> first | omega | (exfalso; rw [g1] at c_5; revert c_5; decide)
        refine lv_aload_n hx hb dX8_meet_55 rfl (lv_at hl 1 rfl) ?_
        refine lv_lload hx hb dX8_meet_56 (lv_at hl 0 rfl) ?_
        refine va_put (D := D) (ci := 7) (v := .long r_3) (ty := .long) (C := RX8) (T := TX8) (N := 13) hx hb hts inX8 tyX8 tyX8_ok nmX8 hown hK hP hD hS 0 tpw_o0 rfl 12 (by decide) fl34 (fun _ h9 => h9) rfl (by decide +kernel) rfl rfl (Nat.le_of_ble_eq_true rfl) dX8_meet_58 (fun H locs hP hD hS => ?_)
        have hP : va_P D vwCl (tpw y ad (sJ σ 143 r_3)) H := x_trP hP tpw_p0_12
        have hD : va_D A (tpw y ad (sJ σ 143 r_3)) := x_trD hD tpw_p0_12
        have hP : va_P D vwCl (tpw y ad (sJ (sI σ 142 (σ.1 142)) 143 r_3)) H := hP
        have hD : va_D A (tpw y ad (sJ (sI σ 142 (σ.1 142)) 143 r_3)) := hD
        exact x_vretW (u := ((σ.1 142), r_3)) hx hb hr hQ trivial hP hD hK hS dX8_meet_61 hlocks
      · have kc_5 : (σ.2.1 143).toInt ≠ 0 := by have h9 := x_tri (σ.2.1 143) (0 : Int64); (try simp only [Int64.reduceToInt] at h9); rcases h9 with ⟨g1, g2⟩ | ⟨g1, g2⟩ | ⟨g1, g2⟩ <;> first | omega | (exfalso; rw [g1] at c_5; revert c_5; decide)
        refine lv_lload hx hb dX8_meet_43 (lv_at hl 0 rfl) ?_
        refine lv_aload_n hx hb dX8_meet_45 rfl (lv_at hl 1 rfl) ?_
        refine va_get (D := D) (ci := 7) (v := .long (σ.2.1 143)) (C := RX8) (T := TX8) (N := 13) hx hb hts inX8 hown hK hP 0 tpw_o0 rfl 12 (by decide) fl34 (fun _ h9 => h9) rfl dX8_meet_46 ?_
        refine x_calliN (va_runS (As := [.long r_3, .long (σ.2.1 143)]) (rest := []) ⟨hx, hb, hml, hown, hts⟩ (k_compare l D y H.size r_3 (σ.2.1 143)) (va_cwS 2 hts g_ka_meet_2 rfl rfl rfl (by decide +kernel) ⟨Nat.le_of_ble_eq_true rfl, Nat.le_of_ble_eq_true rfl⟩) (x_preS hK (x_nilP D H) (x_nilD A)) rfl rfl hl.1 rfl (lv_room (Nat.le_of_ble_eq_true rfl)) dX8_meet_49 ⟨Nat.le_of_ble_eq_true rfl, Nat.le_of_ble_eq_true rfl⟩) hP hD hS hA (fun r_6 u H locs hw hP hD hS => ?_)
        try dsimp only at hw
        refine lv_if_ge (tgt := 61) hx hb dX8_meet_52 (by decide) (fun c_7 => ?_) (fun c_7 => ?_)
        · have kc_7 : r_6.toInt ≥ 0 := by have h9 := c_7; simp only [ge_iff_le, gt_iff_lt, x_lt, x_le, x_eq, ne_eq, Int32.not_lt, Int32.not_le] at h9; simp only [Int32.reduceToInt] at h9; omega
          have hP : va_P D vwCl (tpw y ad (sJ (sI σ 142 (σ.1 142)) 143 (σ.2.1 143))) H := hP
          have hD : va_D A (tpw y ad (sJ (sI σ 142 (σ.1 142)) 143 (σ.2.1 143))) := hD
          exact x_vretW (u := ((σ.1 142), (σ.2.1 143))) hx hb hr hQ trivial hP hD hK hS dX8_meet_61 hlocks
        · have kc_7 : r_6.toInt < 0 := by have h9 := c_7; simp only [ge_iff_le, gt_iff_lt, x_lt, x_le, x_eq, ne_eq, Int32.not_lt, Int32.not_le] at h9; simp only [Int32.reduceToInt] at h9; omega
          refine lv_aload_n hx hb dX8_meet_55 rfl (lv_at hl 1 rfl) ?_
          refine lv_lload hx hb dX8_meet_56 (lv_at hl 0 rfl) ?_
          refine va_put (D := D) (ci := 7) (v := .long r_3) (ty := .long) (C := RX8) (T := TX8) (N := 13) hx hb hts inX8 tyX8 tyX8_ok nmX8 hown hK hP hD hS 0 tpw_o0 rfl 12 (by decide) fl34 (fun _ h9 => h9) rfl (by decide +kernel) rfl rfl (Nat.le_of_ble_eq_true rfl) dX8_meet_58 (fun H locs hP hD hS => ?_)
          have hP : va_P D vwCl (tpw y ad (sJ σ 143 r_3)) H := x_trP hP tpw_p0_12
          have hD : va_D A (tpw y ad (sJ σ 143 r_3)) := x_trD hD tpw_p0_12
          have hP : va_P D vwCl (tpw y ad (sJ (sI σ 142 (σ.1 142)) 143 r_3)) H := hP
          have hD : va_D A (tpw y ad (sJ (sI σ 142 (σ.1 142)) 143 r_3)) := hD
          exact x_vretW (u := ((σ.1 142), r_3)) hx hb hr hQ trivial hP hD hK hS dX8_meet_61 hlocks
    · have kc_4 : r_3.toInt = 0 := by have h9 := x_tri r_3 (0 : Int64); (try simp only [Int64.reduceToInt] at h9); rcases h9 with ⟨g1, g2⟩ | ⟨g1, g2⟩ | ⟨g1, g2⟩ <;> first | omega | (exfalso; rw [g1] at c_4; revert c_4; decide)
      have hP : va_P D vwCl (tpw y ad (sJ (sI σ 142 (σ.1 142)) 143 (σ.2.1 143))) H := hP
      have hD : va_D A (tpw y ad (sJ (sI σ 142 (σ.1 142)) 143 (σ.2.1 143))) := hD
      exact x_vretW (u := ((σ.1 142), (σ.2.1 143))) hx hb hr hQ trivial hP hD hK hS dX8_meet_33 hlocks
  · have kc_1 : x.toInt = z.toInt := by have h9 := x_tri x z; (try simp only [Int64.reduceToInt] at h9); rcases h9 with ⟨g1, g2⟩ | ⟨g1, g2⟩ | ⟨g1, g2⟩ <;> first | omega | (exfalso; rw [g1] at c_1; revert c_1; decide)
    refine lv_aload_n hx hb dX8_meet_6 rfl (lv_at hl 0 rfl) ?_
    refine lv_dup hx hb dX8_meet_7 rfl ?_
    refine va_get (D := D) (ci := 7) (v := .int (σ.1 142)) (C := RX8) (T := TX8) (N := 13) hx hb hts inX8 hown hK hP 0 tpw_o0 rfl 11 (by decide) fl53 (fun _ h9 => h9) rfl dX8_meet_8 ?_
    refine lv_iconst (v := 1) hx hb dX8_meet_11 (by decide) ?_
    refine lv_iadd hx hb dX8_meet_12 ?_
    refine lv_topi (fun i_8 ei_8 => ?_)
    refine va_put (D := D) (ci := 7) (v := .int i_8) (ty := .int) (C := RX8) (T := TX8) (N := 13) hx hb hts inX8 tyX8 tyX8_ok nmX8 hown hK hP hD hS 0 tpw_o0 rfl 11 (by decide) fl53 (fun _ h9 => h9) rfl (by decide +kernel) rfl rfl (Nat.le_of_ble_eq_true rfl) dX8_meet_13 (fun H locs hP hD hS => ?_)
    have hP : va_P D vwCl (tpw y ad (sI σ 142 i_8)) H := x_trP hP tpw_p0_11
    have hD : va_D A (tpw y ad (sI σ 142 i_8)) := x_trD hD tpw_p0_11
    refine lv_lload_n hx hb dX8_meet_16 rfl (lv_at hl 1 rfl) ?_
    refine lv_lload_n hx hb dX8_meet_17 rfl (lv_at hl 2 rfl) ?_
    refine x_calllN (va_runS (As := [.long x, .long z]) (rest := []) ⟨hx, hb, hml, hown, hts⟩ (k_minus l D y H.size x z) (va_cwS 2 hts g_ka_meet_0 rfl rfl rfl (by decide +kernel) ⟨Nat.le_of_ble_eq_true rfl, Nat.le_of_ble_eq_true rfl⟩) (x_preS hK (x_nilP D H) (x_nilD A)) rfl rfl hl.1 rfl (lv_room (Nat.le_of_ble_eq_true rfl)) dX8_meet_18 ⟨Nat.le_of_ble_eq_true rfl, Nat.le_of_ble_eq_true rfl⟩) hP hD hS hA (fun r_9 u H locs hw hP hD hS => ?_)
    try dsimp only at hw
    refine x_calllN (va_runS (As := [.long r_9]) (rest := []) ⟨hx, hb, hml, hown, hts⟩ (k_withoutSign l D y H.size r_9) (va_cwS 1 hts g_ka_meet_1 rfl rfl rfl (by decide +kernel) ⟨Nat.le_of_ble_eq_true rfl, Nat.le_of_ble_eq_true rfl⟩) (x_preS hK (x_nilP D H) (x_nilD A)) rfl rfl hl.1 rfl (lv_room (Nat.le_of_ble_eq_true rfl)) dX8_meet_21 ⟨Nat.le_of_ble_eq_true rfl, Nat.le_of_ble_eq_true rfl⟩) hP hD hS hA (fun r_10 u H locs hw hP hD hS => ?_)
    try dsimp only at hw
    refine lv_lstore (lv' := [(5, .long r_10), (0, .ref (ad 130)), (1, .long x), (3, .long z)]) hx hb dX8_meet_24 hl (by decide) rfl (fun ls hl => ?_)
    refine lv_lload hx hb dX8_meet_26 (lv_at hl 0 rfl) ?_
    refine lv_lconst (v := 0) hx hb dX8_meet_28 (by decide) ?_
    refine W.lcmp hx hb dX8_meet_29 ?_
    refine lv_if_ne (tgt := 34) hx hb dX8_meet_30 (by decide) (fun c_11 => ?_) (fun c_11 => ?_)
    · have kc_11 : r_10.toInt ≠ 0 := by have h9 := x_tri r_10 (0 : Int64); (try simp only [Int64.reduceToInt] at h9); rcases h9 with ⟨g1, g2⟩ | ⟨g1, g2⟩ | ⟨g1, g2⟩ <;> first | omega | (exfalso; rw [g1] at c_11; revert c_11; decide)
      refine lv_aload_n hx hb dX8_meet_34 rfl (lv_at hl 1 rfl) ?_
      refine va_get (D := D) (ci := 7) (v := .long (σ.2.1 143)) (C := RX8) (T := TX8) (N := 13) hx hb hts inX8 hown hK hP 0 tpw_o0 rfl 12 (by decide) fl34 (fun _ h9 => h9) rfl dX8_meet_35 ?_
      refine lv_lconst (v := 0) hx hb dX8_meet_38 (by decide) ?_
      refine W.lcmp hx hb dX8_meet_39 ?_
      refine lv_if_eq (tgt := 55) hx hb dX8_meet_40 (by decide) (fun c_12 => ?_) (fun c_12 => ?_)
      · have kc_12 : (σ.2.1 143).toInt = 0 := by have h9 := x_tri (σ.2.1 143) (0 : Int64); (try simp only [Int64.reduceToInt] at h9); rcases h9 with ⟨g1, g2⟩ | ⟨g1, g2⟩ | ⟨g1, g2⟩ <;> first | omega | (exfalso; rw [g1] at c_12; revert c_12; decide)
        refine lv_aload_n hx hb dX8_meet_55 rfl (lv_at hl 1 rfl) ?_
        refine lv_lload hx hb dX8_meet_56 (lv_at hl 0 rfl) ?_
        refine va_put (D := D) (ci := 7) (v := .long r_10) (ty := .long) (C := RX8) (T := TX8) (N := 13) hx hb hts inX8 tyX8 tyX8_ok nmX8 hown hK hP hD hS 0 tpw_o0 rfl 12 (by decide) fl34 (fun _ h9 => h9) rfl (by decide +kernel) rfl rfl (Nat.le_of_ble_eq_true rfl) dX8_meet_58 (fun H locs hP hD hS => ?_)
        have hP : va_P D vwCl (tpw y ad (sJ (sI σ 142 i_8) 143 r_10)) H := x_trP hP tpw_p0_12
        have hD : va_D A (tpw y ad (sJ (sI σ 142 i_8) 143 r_10)) := x_trD hD tpw_p0_12
        exact x_vretW (u := (i_8, r_10)) hx hb hr hQ trivial hP hD hK hS dX8_meet_61 hlocks
      · have kc_12 : (σ.2.1 143).toInt ≠ 0 := by have h9 := x_tri (σ.2.1 143) (0 : Int64); (try simp only [Int64.reduceToInt] at h9); rcases h9 with ⟨g1, g2⟩ | ⟨g1, g2⟩ | ⟨g1, g2⟩ <;> first | omega | (exfalso; rw [g1] at c_12; revert c_12; decide)
        refine lv_lload hx hb dX8_meet_43 (lv_at hl 0 rfl) ?_
        refine lv_aload_n hx hb dX8_meet_45 rfl (lv_at hl 1 rfl) ?_
        refine va_get (D := D) (ci := 7) (v := .long (σ.2.1 143)) (C := RX8) (T := TX8) (N := 13) hx hb hts inX8 hown hK hP 0 tpw_o0 rfl 12 (by decide) fl34 (fun _ h9 => h9) rfl dX8_meet_46 ?_
        refine x_calliN (va_runS (As := [.long r_10, .long (σ.2.1 143)]) (rest := []) ⟨hx, hb, hml, hown, hts⟩ (k_compare l D y H.size r_10 (σ.2.1 143)) (va_cwS 2 hts g_ka_meet_2 rfl rfl rfl (by decide +kernel) ⟨Nat.le_of_ble_eq_true rfl, Nat.le_of_ble_eq_true rfl⟩) (x_preS hK (x_nilP D H) (x_nilD A)) rfl rfl hl.1 rfl (lv_room (Nat.le_of_ble_eq_true rfl)) dX8_meet_49 ⟨Nat.le_of_ble_eq_true rfl, Nat.le_of_ble_eq_true rfl⟩) hP hD hS hA (fun r_13 u H locs hw hP hD hS => ?_)
        try dsimp only at hw
        refine lv_if_ge (tgt := 61) hx hb dX8_meet_52 (by decide) (fun c_14 => ?_) (fun c_14 => ?_)
        · have kc_14 : r_13.toInt ≥ 0 := by have h9 := c_14; simp only [ge_iff_le, gt_iff_lt, x_lt, x_le, x_eq, ne_eq, Int32.not_lt, Int32.not_le] at h9; simp only [Int32.reduceToInt] at h9; omega
          have hP : va_P D vwCl (tpw y ad (sJ (sI σ 142 i_8) 143 (σ.2.1 143))) H := hP
          have hD : va_D A (tpw y ad (sJ (sI σ 142 i_8) 143 (σ.2.1 143))) := hD
          exact x_vretW (u := (i_8, (σ.2.1 143))) hx hb hr hQ trivial hP hD hK hS dX8_meet_61 hlocks
        · have kc_14 : r_13.toInt < 0 := by have h9 := c_14; simp only [ge_iff_le, gt_iff_lt, x_lt, x_le, x_eq, ne_eq, Int32.not_lt, Int32.not_le] at h9; simp only [Int32.reduceToInt] at h9; omega
          refine lv_aload_n hx hb dX8_meet_55 rfl (lv_at hl 1 rfl) ?_
          refine lv_lload hx hb dX8_meet_56 (lv_at hl 0 rfl) ?_
          refine va_put (D := D) (ci := 7) (v := .long r_10) (ty := .long) (C := RX8) (T := TX8) (N := 13) hx hb hts inX8 tyX8 tyX8_ok nmX8 hown hK hP hD hS 0 tpw_o0 rfl 12 (by decide) fl34 (fun _ h9 => h9) rfl (by decide +kernel) rfl rfl (Nat.le_of_ble_eq_true rfl) dX8_meet_58 (fun H locs hP hD hS => ?_)
          have hP : va_P D vwCl (tpw y ad (sJ (sI σ 142 i_8) 143 r_10)) H := x_trP hP tpw_p0_12
          have hD : va_D A (tpw y ad (sJ (sI σ 142 i_8) 143 r_10)) := x_trD hD tpw_p0_12
          exact x_vretW (u := (i_8, r_10)) hx hb hr hQ trivial hP hD hK hS dX8_meet_61 hlocks
    · have kc_11 : r_10.toInt = 0 := by have h9 := x_tri r_10 (0 : Int64); (try simp only [Int64.reduceToInt] at h9); rcases h9 with ⟨g1, g2⟩ | ⟨g1, g2⟩ | ⟨g1, g2⟩ <;> first | omega | (exfalso; rw [g1] at c_11; revert c_11; decide)
      have hP : va_P D vwCl (tpw y ad (sJ (sI σ 142 i_8) 143 (σ.2.1 143))) H := hP
      have hD : va_D A (tpw y ad (sJ (sI σ 142 i_8) 143 (σ.2.1 143))) := hD
      exact x_vretW (u := (i_8, (σ.2.1 143))) hx hb hr hQ trivial hP hD hK hS dX8_meet_33 hlocks

def v_ka_putInput : List Cond := .code yX8_putInput cX8_putInput 4 none :: ([.fieldLink RX8 38 "SlopeRunner$Tape" "inputs" "I", .fieldLink RX8 11 "SlopeRunner$Tape" "value" "[J"] ++ wsX80)
set_option maxHeartbeats 4000000 in
set_option maxRecDepth 100000 in
theorem ka_putInput (l : Launch) (D : va_G) (y : Nat → ClassId) (sz : Nat) (ad : Nat → Nat) (σ : OS) (q : Int32) (z : Int64) (hin0 : 0 ≤ (σ.1 137).toInt) (hin1 : (σ.1 137).toInt ≤ 8) : Met l yX8_putInput v_ka_putInput ({ frames := 0, cells := 0, slots := 0, locals := 0 } : Room) (va_Pc [.ref (ad 130), .int q, .long z] (xPre D (xT y) (tpw y ad σ) sz)) (va_Qv (fun (u : (Nat → Int64)) => True) (fun (u : (Nat → Int64)) => xB D (xT y) (va_A (tpw y ad σ) sz) (tpw y ad (tJ σ 131 u))) (va_A (tpw y ad σ) sz)) 0 0 (va_A (tpw y ad σ) sz) := by
  refine x_metv (cc := cX8_putInput) (maxL := 4) (by decide) rfl (Nat.le_of_ble_eq_true rfl) ?_
  intro p e s m below meth c A H locs Q hx hb hml hown hts hr hlocks hmn hA hP hK hD hS ls hl hQ
  have hl : lv_has ls 4 [(0, .ref (ad 130)), (1, .int q), (2, .long z)] := hl
  have kk_0 : (0 : Int32).toInt = 0 := rfl
  have fl38 := hts (.fieldLink RX8 38 "SlopeRunner$Tape" "inputs" "I") (List.mem_of_getElem? (i := 1) rfl)
  have inX8 : ∀ w ∈ wsX80, w ∈ v_ka_putInput := (fun w h => List.mem_cons_of_mem _ (List.mem_append_right _ h))
  have fl11 := hts (.fieldLink RX8 11 "SlopeRunner$Tape" "value" "[J") (List.mem_of_getElem? (i := 2) rfl)
  refine lv_iload_n hx hb dX8_putInput_0 rfl (lv_at hl 1 rfl) ?_
  refine lv_if_lt (tgt := 19) hx hb dX8_putInput_1 (by decide) (fun c_1 => ?_) (fun c_1 => ?_)
  · have kc_1 : q.toInt < 0 := by have h9 := c_1; simp only [ge_iff_le, gt_iff_lt, x_lt, x_le, x_eq, ne_eq, Int32.not_lt, Int32.not_le] at h9; simp only [Int32.reduceToInt] at h9; omega
    have hP : va_P D vwCl (tpw y ad (tJ σ 131 (σ.2.2.2 131))) H := hP
    have hD : va_D A (tpw y ad (tJ σ 131 (σ.2.2.2 131))) := hD
    exact x_vretW (u := (σ.2.2.2 131)) hx hb hr hQ trivial hP hD hK hS dX8_putInput_19 hlocks
  · have kc_1 : q.toInt ≥ 0 := by have h9 := c_1; simp only [ge_iff_le, gt_iff_lt, x_lt, x_le, x_eq, ne_eq, Int32.not_lt, Int32.not_le] at h9; simp only [Int32.reduceToInt] at h9; omega
    refine lv_iload_n hx hb dX8_putInput_4 rfl (lv_at hl 1 rfl) ?_
    refine lv_aload_n hx hb dX8_putInput_5 rfl (lv_at hl 0 rfl) ?_
    refine va_get (D := D) (ci := 7) (v := .int (σ.1 137)) (C := RX8) (T := TX8) (N := 13) hx hb hts inX8 hown hK hP 0 tpw_o0 rfl 6 (by decide) fl38 (fun _ h9 => h9) rfl dX8_putInput_6 ?_
    refine lv_icmp_ge (tgt := 19) hx hb dX8_putInput_9 (by decide) (fun c_2 => ?_) (fun c_2 => ?_)
    · have kc_2 : q.toInt ≥ (σ.1 137).toInt := by have h9 := c_2; simp only [ge_iff_le, gt_iff_lt, x_lt, x_le, x_eq, ne_eq, Int32.not_lt, Int32.not_le] at h9; omega
      have hP : va_P D vwCl (tpw y ad (tJ σ 131 (σ.2.2.2 131))) H := hP
      have hD : va_D A (tpw y ad (tJ σ 131 (σ.2.2.2 131))) := hD
      exact x_vretW (u := (σ.2.2.2 131)) hx hb hr hQ trivial hP hD hK hS dX8_putInput_19 hlocks
    · have kc_2 : q.toInt < (σ.1 137).toInt := by have h9 := c_2; simp only [ge_iff_le, gt_iff_lt, x_lt, x_le, x_eq, ne_eq, Int32.not_lt, Int32.not_le] at h9; omega
      refine lv_aload_n hx hb dX8_putInput_12 rfl (lv_at hl 0 rfl) ?_
      refine va_get (D := D) (ci := 7) (v := .ref (ad 131)) (C := RX8) (T := TX8) (N := 13) hx hb hts inX8 hown hK hP 0 tpw_o0 rfl 0 (by decide) fl11 (fun _ h9 => h9) rfl dX8_putInput_13 ?_
      refine lv_iload_n hx hb dX8_putInput_16 rfl (lv_at hl 1 rfl) ?_
      refine lv_lload_n hx hb dX8_putInput_17 rfl (lv_at hl 2 rfl) ?_
      refine va_last hx hb hK hP hD hS 1 3 tpw_a1 rfl (x_in (by omega) (by omega)) dX8_putInput_18 (fun H locs hP hD hS => ?_)
      obtain ⟨f_3, ef_3⟩ : ∃ z9 : Nat → Int64, z9 = (vp_updL (σ.2.2.2 131) (Int32.toNatClampNeg q) z) := ⟨_, rfl⟩
      have hP : va_P D vwCl (tpw y ad (tJ σ 131 f_3)) H := by rw [ef_3]; exact x_trP hP tpw_s1
      have hD : va_D A (tpw y ad (tJ σ 131 f_3)) := by rw [ef_3]; exact x_trD hD tpw_s1
      exact x_vretW (u := f_3) hx hb hr hQ trivial hP hD hK hS dX8_putInput_19 hlocks

def v_kb_forget : List Cond := .code yX8_forget cX8_forget 1 none :: ([.fieldLink RX8 28 "SlopeRunner$Tape" "state" "I", .fieldLink RX8 38 "SlopeRunner$Tape" "inputs" "I", .fieldLink RX8 41 "SlopeRunner$Tape" "firstStep" "I", .fieldLink RX8 44 "SlopeRunner$Tape" "size" "I", .fieldLink RX8 47 "SlopeRunner$Tape" "steps" "I", .fieldLink RX8 50 "SlopeRunner$Tape" "results" "I", .fieldLink RX8 53 "SlopeRunner$Tape" "edges" "I", .fieldLink RX8 34 "SlopeRunner$Tape" "nearest" "J"] ++ wsX80)
set_option maxHeartbeats 4000000 in
set_option maxRecDepth 100000 in
theorem kb_forget (l : Launch) (D : va_G) (y : Nat → ClassId) (sz : Nat) (ad : Nat → Nat) (σ : OS)  : Met l yX8_forget v_kb_forget ({ frames := 0, cells := 0, slots := 0, locals := 0 } : Room) (va_Pc [.ref (ad 150)] (xPre D (xT y) (tqw y ad σ) sz)) (va_Qv (fun (u : Int32 × Int32 × Int32 × Int32 × Int32 × Int32 × Int32 × Int64) => u.2.1.toInt = 0 ∧ u.2.2.2.1.toInt = 0 ∧ u.2.2.2.2.2.1.toInt = 0 ∧ u.2.2.1.toInt = 0) (fun (u : Int32 × Int32 × Int32 × Int32 × Int32 × Int32 × Int32 × Int64) => xB D (xT y) (va_A (tqw y ad σ) sz) (tqw y ad (sJ (sI (sI (sI (sI (sI (sI (sI σ 156 u.1) 157 u.2.1) 158 u.2.2.1) 159 u.2.2.2.1) 160 u.2.2.2.2.1) 161 u.2.2.2.2.2.1) 162 u.2.2.2.2.2.2.1) 163 u.2.2.2.2.2.2.2))) (va_A (tqw y ad σ) sz)) 0 0 (va_A (tqw y ad σ) sz) := by
  refine x_metv (cc := cX8_forget) (maxL := 1) (by decide) rfl (Nat.le_of_ble_eq_true rfl) ?_
  intro p e s m below meth c A H locs Q hx hb hml hown hts hr hlocks hmn hA hP hK hD hS ls hl hQ
  have hl : lv_has ls 1 [(0, .ref (ad 150))] := hl
  have fl28 := hts (.fieldLink RX8 28 "SlopeRunner$Tape" "state" "I") (List.mem_of_getElem? (i := 1) rfl)
  have inX8 : ∀ w ∈ wsX80, w ∈ v_kb_forget := (fun w h => List.mem_cons_of_mem _ (List.mem_append_right _ h))
  have fl38 := hts (.fieldLink RX8 38 "SlopeRunner$Tape" "inputs" "I") (List.mem_of_getElem? (i := 2) rfl)
  have fl41 := hts (.fieldLink RX8 41 "SlopeRunner$Tape" "firstStep" "I") (List.mem_of_getElem? (i := 3) rfl)
  have fl44 := hts (.fieldLink RX8 44 "SlopeRunner$Tape" "size" "I") (List.mem_of_getElem? (i := 4) rfl)
  have fl47 := hts (.fieldLink RX8 47 "SlopeRunner$Tape" "steps" "I") (List.mem_of_getElem? (i := 5) rfl)
  have fl50 := hts (.fieldLink RX8 50 "SlopeRunner$Tape" "results" "I") (List.mem_of_getElem? (i := 6) rfl)
  have fl53 := hts (.fieldLink RX8 53 "SlopeRunner$Tape" "edges" "I") (List.mem_of_getElem? (i := 7) rfl)
  have fl34 := hts (.fieldLink RX8 34 "SlopeRunner$Tape" "nearest" "J") (List.mem_of_getElem? (i := 8) rfl)
  refine lv_aload_n hx hb dX8_forget_0 rfl (lv_at hl 0 rfl) ?_
  refine lv_iconst (v := (-1)) hx hb dX8_forget_1 (by decide) ?_
  refine va_put (D := D) (ci := 7) (v := .int (-1)) (ty := .int) (C := RX8) (T := TX8) (N := 13) hx hb hts inX8 tyX8 tyX8_ok nmX8 hown hK hP hD hS 0 tqw_o0 rfl 5 (by decide) fl28 (fun _ h9 => h9) rfl (by decide +kernel) rfl rfl (Nat.le_of_ble_eq_true rfl) dX8_forget_2 (fun H locs hP hD hS => ?_)
  have hP : va_P D vwCl (tqw y ad (sI σ 156 (-1))) H := x_trP hP tqw_p0_5
  have hD : va_D A (tqw y ad (sI σ 156 (-1))) := x_trD hD tqw_p0_5
  refine lv_aload_n hx hb dX8_forget_5 rfl (lv_at hl 0 rfl) ?_
  refine lv_iconst (v := 0) hx hb dX8_forget_6 (by decide) ?_
  refine va_put (D := D) (ci := 7) (v := .int 0) (ty := .int) (C := RX8) (T := TX8) (N := 13) hx hb hts inX8 tyX8 tyX8_ok nmX8 hown hK hP hD hS 0 tqw_o0 rfl 6 (by decide) fl38 (fun _ h9 => h9) rfl (by decide +kernel) rfl rfl (Nat.le_of_ble_eq_true rfl) dX8_forget_7 (fun H locs hP hD hS => ?_)
  have hP : va_P D vwCl (tqw y ad (sI (sI σ 156 (-1)) 157 0)) H := x_trP hP tqw_p0_6
  have hD : va_D A (tqw y ad (sI (sI σ 156 (-1)) 157 0)) := x_trD hD tqw_p0_6
  refine lv_aload_n hx hb dX8_forget_10 rfl (lv_at hl 0 rfl) ?_
  refine lv_iconst (v := 0) hx hb dX8_forget_11 (by decide) ?_
  refine va_put (D := D) (ci := 7) (v := .int 0) (ty := .int) (C := RX8) (T := TX8) (N := 13) hx hb hts inX8 tyX8 tyX8_ok nmX8 hown hK hP hD hS 0 tqw_o0 rfl 7 (by decide) fl41 (fun _ h9 => h9) rfl (by decide +kernel) rfl rfl (Nat.le_of_ble_eq_true rfl) dX8_forget_12 (fun H locs hP hD hS => ?_)
  have hP : va_P D vwCl (tqw y ad (sI (sI (sI σ 156 (-1)) 157 0) 158 0)) H := x_trP hP tqw_p0_7
  have hD : va_D A (tqw y ad (sI (sI (sI σ 156 (-1)) 157 0) 158 0)) := x_trD hD tqw_p0_7
  refine lv_aload_n hx hb dX8_forget_15 rfl (lv_at hl 0 rfl) ?_
  refine lv_iconst (v := 0) hx hb dX8_forget_16 (by decide) ?_
  refine va_put (D := D) (ci := 7) (v := .int 0) (ty := .int) (C := RX8) (T := TX8) (N := 13) hx hb hts inX8 tyX8 tyX8_ok nmX8 hown hK hP hD hS 0 tqw_o0 rfl 8 (by decide) fl44 (fun _ h9 => h9) rfl (by decide +kernel) rfl rfl (Nat.le_of_ble_eq_true rfl) dX8_forget_17 (fun H locs hP hD hS => ?_)
  have hP : va_P D vwCl (tqw y ad (sI (sI (sI (sI σ 156 (-1)) 157 0) 158 0) 159 0)) H := x_trP hP tqw_p0_8
  have hD : va_D A (tqw y ad (sI (sI (sI (sI σ 156 (-1)) 157 0) 158 0) 159 0)) := x_trD hD tqw_p0_8
  refine lv_aload_n hx hb dX8_forget_20 rfl (lv_at hl 0 rfl) ?_
  refine lv_iconst (v := 0) hx hb dX8_forget_21 (by decide) ?_
  refine va_put (D := D) (ci := 7) (v := .int 0) (ty := .int) (C := RX8) (T := TX8) (N := 13) hx hb hts inX8 tyX8 tyX8_ok nmX8 hown hK hP hD hS 0 tqw_o0 rfl 9 (by decide) fl47 (fun _ h9 => h9) rfl (by decide +kernel) rfl rfl (Nat.le_of_ble_eq_true rfl) dX8_forget_22 (fun H locs hP hD hS => ?_)
  have hP : va_P D vwCl (tqw y ad (sI (sI (sI (sI (sI σ 156 (-1)) 157 0) 158 0) 159 0) 160 0)) H := x_trP hP tqw_p0_9
  have hD : va_D A (tqw y ad (sI (sI (sI (sI (sI σ 156 (-1)) 157 0) 158 0) 159 0) 160 0)) := x_trD hD tqw_p0_9
  refine lv_aload_n hx hb dX8_forget_25 rfl (lv_at hl 0 rfl) ?_
  refine lv_iconst (v := 0) hx hb dX8_forget_26 (by decide) ?_
  refine va_put (D := D) (ci := 7) (v := .int 0) (ty := .int) (C := RX8) (T := TX8) (N := 13) hx hb hts inX8 tyX8 tyX8_ok nmX8 hown hK hP hD hS 0 tqw_o0 rfl 10 (by decide) fl50 (fun _ h9 => h9) rfl (by decide +kernel) rfl rfl (Nat.le_of_ble_eq_true rfl) dX8_forget_27 (fun H locs hP hD hS => ?_)
  have hP : va_P D vwCl (tqw y ad (sI (sI (sI (sI (sI (sI σ 156 (-1)) 157 0) 158 0) 159 0) 160 0) 161 0)) H := x_trP hP tqw_p0_10
  have hD : va_D A (tqw y ad (sI (sI (sI (sI (sI (sI σ 156 (-1)) 157 0) 158 0) 159 0) 160 0) 161 0)) := x_trD hD tqw_p0_10
  refine lv_aload_n hx hb dX8_forget_30 rfl (lv_at hl 0 rfl) ?_
  refine lv_iconst (v := 0) hx hb dX8_forget_31 (by decide) ?_
  refine va_put (D := D) (ci := 7) (v := .int 0) (ty := .int) (C := RX8) (T := TX8) (N := 13) hx hb hts inX8 tyX8 tyX8_ok nmX8 hown hK hP hD hS 0 tqw_o0 rfl 11 (by decide) fl53 (fun _ h9 => h9) rfl (by decide +kernel) rfl rfl (Nat.le_of_ble_eq_true rfl) dX8_forget_32 (fun H locs hP hD hS => ?_)
  have hP : va_P D vwCl (tqw y ad (sI (sI (sI (sI (sI (sI (sI σ 156 (-1)) 157 0) 158 0) 159 0) 160 0) 161 0) 162 0)) H := x_trP hP tqw_p0_11
  have hD : va_D A (tqw y ad (sI (sI (sI (sI (sI (sI (sI σ 156 (-1)) 157 0) 158 0) 159 0) 160 0) 161 0) 162 0)) := x_trD hD tqw_p0_11
  refine lv_aload_n hx hb dX8_forget_35 rfl (lv_at hl 0 rfl) ?_
  refine lv_lconst (v := 0) hx hb dX8_forget_36 (by decide) ?_
  refine va_put (D := D) (ci := 7) (v := .long 0) (ty := .long) (C := RX8) (T := TX8) (N := 13) hx hb hts inX8 tyX8 tyX8_ok nmX8 hown hK hP hD hS 0 tqw_o0 rfl 12 (by decide) fl34 (fun _ h9 => h9) rfl (by decide +kernel) rfl rfl (Nat.le_of_ble_eq_true rfl) dX8_forget_37 (fun H locs hP hD hS => ?_)
  have hP : va_P D vwCl (tqw y ad (sJ (sI (sI (sI (sI (sI (sI (sI σ 156 (-1)) 157 0) 158 0) 159 0) 160 0) 161 0) 162 0) 163 0)) H := x_trP hP tqw_p0_12
  have hD : va_D A (tqw y ad (sJ (sI (sI (sI (sI (sI (sI (sI σ 156 (-1)) 157 0) 158 0) 159 0) 160 0) 161 0) 162 0) 163 0)) := x_trD hD tqw_p0_12
  exact x_vretW (u := ((-1), 0, 0, 0, 0, 0, 0, 0)) hx hb hr hQ (by (try dsimp only); exact ⟨rfl, rfl, rfl, rfl⟩) hP hD hK hS dX8_forget_40 hlocks

def v_kb_zeroAt : List Cond := .code yX8_zeroAt cX8_zeroAt 1 (some .int) :: ([.fieldLink RX8 38 "SlopeRunner$Tape" "inputs" "I"] ++ wsX80)
set_option maxHeartbeats 4000000 in
set_option maxRecDepth 100000 in
theorem kb_zeroAt (l : Launch) (D : va_G) (y : Nat → ClassId) (sz : Nat) (ad : Nat → Nat) (σ : OS)  : Met l yX8_zeroAt v_kb_zeroAt ({ frames := 0, cells := 0, slots := 0, locals := 0 } : Room) (va_Pc [.ref (ad 150)] (xPre D (xT y) (tqw y ad σ) sz)) (va_Qi (fun (r : Int32) (_ : Unit) => r = σ.1 157) (fun (u : Unit) => xB D (xT y) (va_A (tqw y ad σ) sz) (tqw y ad σ)) (va_A (tqw y ad σ) sz)) 0 0 (va_A (tqw y ad σ) sz) := by
  refine x_meti (cc := cX8_zeroAt) (maxL := 1) (by decide) rfl (Nat.le_of_ble_eq_true rfl) ?_
  intro p e s m below meth c A H locs Q hx hb hml hown hts hr hlocks hmn hA hP hK hD hS ls hl hQ
  have hl : lv_has ls 1 [(0, .ref (ad 150))] := hl
  have fl38 := hts (.fieldLink RX8 38 "SlopeRunner$Tape" "inputs" "I") (List.mem_of_getElem? (i := 1) rfl)
  have inX8 : ∀ w ∈ wsX80, w ∈ v_kb_zeroAt := (fun w h => List.mem_cons_of_mem _ (List.mem_append_right _ h))
  refine lv_aload_n hx hb dX8_zeroAt_0 rfl (lv_at hl 0 rfl) ?_
  refine va_get (D := D) (ci := 7) (v := .int (σ.1 157)) (C := RX8) (T := TX8) (N := 13) hx hb hts inX8 hown hK hP 0 tqw_o0 rfl 6 (by decide) fl38 (fun _ h9 => h9) rfl dX8_zeroAt_1 ?_
  exact x_iretW (v := (σ.1 157)) (u := ()) hx hb hr hQ rfl hP hD hK hS dX8_zeroAt_4 hlocks

def v_kb_numberAt : List Cond := .code yX8_numberAt cX8_numberAt 2 (some .int) :: ([.fieldLink RX8 38 "SlopeRunner$Tape" "inputs" "I"] ++ wsX80)
set_option maxHeartbeats 4000000 in
set_option maxRecDepth 100000 in
theorem kb_numberAt (l : Launch) (D : va_G) (y : Nat → ClassId) (sz : Nat) (ad : Nat → Nat) (σ : OS) (k : Int32) (hk0 : 0 ≤ k.toInt) (hk1 : k.toInt ≤ 9999) (hin0 : 0 ≤ (σ.1 157).toInt) (hin1 : (σ.1 157).toInt ≤ 8) : Met l yX8_numberAt v_kb_numberAt ({ frames := 0, cells := 0, slots := 0, locals := 0 } : Room) (va_Pc [.ref (ad 150), .int k] (xPre D (xT y) (tqw y ad σ) sz)) (va_Qi (fun (r : Int32) (_ : Unit) => r.toInt = (σ.1 157).toInt + 1 + k.toInt) (fun (u : Unit) => xB D (xT y) (va_A (tqw y ad σ) sz) (tqw y ad σ)) (va_A (tqw y ad σ) sz)) 0 0 (va_A (tqw y ad σ) sz) := by
  refine x_meti (cc := cX8_numberAt) (maxL := 2) (by decide) rfl (Nat.le_of_ble_eq_true rfl) ?_
  intro p e s m below meth c A H locs Q hx hb hml hown hts hr hlocks hmn hA hP hK hD hS ls hl hQ
  have hl : lv_has ls 2 [(0, .ref (ad 150)), (1, .int k)] := hl
  have fl38 := hts (.fieldLink RX8 38 "SlopeRunner$Tape" "inputs" "I") (List.mem_of_getElem? (i := 1) rfl)
  have inX8 : ∀ w ∈ wsX80, w ∈ v_kb_numberAt := (fun w h => List.mem_cons_of_mem _ (List.mem_append_right _ h))
  have kk_1 : (1 : Int32).toInt = 1 := rfl
  refine lv_aload_n hx hb dX8_numberAt_0 rfl (lv_at hl 0 rfl) ?_
  refine va_get (D := D) (ci := 7) (v := .int (σ.1 157)) (C := RX8) (T := TX8) (N := 13) hx hb hts inX8 hown hK hP 0 tqw_o0 rfl 6 (by decide) fl38 (fun _ h9 => h9) rfl dX8_numberAt_1 ?_
  refine lv_iconst (v := 1) hx hb dX8_numberAt_4 (by decide) ?_
  refine lv_iadd hx hb dX8_numberAt_5 ?_
  refine lv_topi (fun i_1 ei_1 => ?_)
  have vi_1 : i_1.toInt = (σ.1 157).toInt + 1 := by have h9 := x_add ei_1 (by omega) (by omega); omega
  refine lv_iload_n hx hb dX8_numberAt_6 rfl (lv_at hl 1 rfl) ?_
  refine lv_iadd hx hb dX8_numberAt_7 ?_
  refine lv_topi (fun i_2 ei_2 => ?_)
  have vi_2 : i_2.toInt = i_1.toInt + k.toInt := by have h9 := x_add ei_2 (by omega) (by omega); omega
  exact x_iretW (v := i_2) (u := ()) hx hb hr hQ (by omega) hP hD hK hS dX8_numberAt_8 hlocks

def v_kb_numberAtX : List Cond := .code yX8_numberAt cX8_numberAt 2 (some .int) :: ([.fieldLink RX8 38 "SlopeRunner$Tape" "inputs" "I"] ++ wsX80)
set_option maxHeartbeats 4000000 in
set_option maxRecDepth 100000 in
theorem kb_numberAtX (l : Launch) (D : va_G) (y : Nat → ClassId) (sz : Nat) (ad : Nat → Nat) (σ : OS) (k : Int32) : Met l yX8_numberAt v_kb_numberAtX ({ frames := 0, cells := 0, slots := 0, locals := 0 } : Room) (va_Pc [.ref (ad 150), .int k] (xPre D (xT y) (tqw y ad σ) sz)) (va_Qi (fun (r : Int32) (_ : Unit) => True) (fun (u : Unit) => xB D (xT y) (va_A (tqw y ad σ) sz) (tqw y ad σ)) (va_A (tqw y ad σ) sz)) 0 0 (va_A (tqw y ad σ) sz) := by
  refine x_meti (cc := cX8_numberAt) (maxL := 2) (by decide) rfl (Nat.le_of_ble_eq_true rfl) ?_
  intro p e s m below meth c A H locs Q hx hb hml hown hts hr hlocks hmn hA hP hK hD hS ls hl hQ
  have hl : lv_has ls 2 [(0, .ref (ad 150)), (1, .int k)] := hl
  have fl38 := hts (.fieldLink RX8 38 "SlopeRunner$Tape" "inputs" "I") (List.mem_of_getElem? (i := 1) rfl)
  have inX8 : ∀ w ∈ wsX80, w ∈ v_kb_numberAtX := (fun w h => List.mem_cons_of_mem _ (List.mem_append_right _ h))
  refine lv_aload_n hx hb dX8_numberAt_0 rfl (lv_at hl 0 rfl) ?_
  refine va_get (D := D) (ci := 7) (v := .int (σ.1 157)) (C := RX8) (T := TX8) (N := 13) hx hb hts inX8 hown hK hP 0 tqw_o0 rfl 6 (by decide) fl38 (fun _ h9 => h9) rfl dX8_numberAt_1 ?_
  refine lv_iconst (v := 1) hx hb dX8_numberAt_4 (by decide) ?_
  refine lv_iadd hx hb dX8_numberAt_5 ?_
  refine lv_topi (fun i_1 ei_1 => ?_)
  refine lv_iload_n hx hb dX8_numberAt_6 rfl (lv_at hl 1 rfl) ?_
  refine lv_iadd hx hb dX8_numberAt_7 ?_
  refine lv_topi (fun i_2 ei_2 => ?_)
  exact x_iretW (v := i_2) (u := ()) hx hb hr hQ trivial hP hD hK hS dX8_numberAt_8 hlocks

def v_kb_hasResult : List Cond := .code yX8_hasResult cX8_hasResult 2 (some .boolean) :: ([.fieldLink RX8 50 "SlopeRunner$Tape" "results" "I"] ++ wsX80)
set_option maxHeartbeats 4000000 in
set_option maxRecDepth 100000 in
theorem kb_hasResult (l : Launch) (D : va_G) (y : Nat → ClassId) (sz : Nat) (ad : Nat → Nat) (σ : OS) (q : Int32) : Met l yX8_hasResult v_kb_hasResult ({ frames := 0, cells := 0, slots := 0, locals := 0 } : Room) (va_Pc [.ref (ad 150), .int q] (xPre D (xT y) (tqw y ad σ) sz)) (va_Qi (fun (r : Int32) (_ : Unit) => (r.toInt = 1 ∧ 0 ≤ q.toInt ∧ q.toInt < (σ.1 161).toInt) ∨ r.toInt = 0) (fun (u : Unit) => xB D (xT y) (va_A (tqw y ad σ) sz) (tqw y ad σ)) (va_A (tqw y ad σ) sz)) 0 0 (va_A (tqw y ad σ) sz) := by
  refine x_meti (cc := cX8_hasResult) (maxL := 2) (by decide) rfl (Nat.le_of_ble_eq_true rfl) ?_
  intro p e s m below meth c A H locs Q hx hb hml hown hts hr hlocks hmn hA hP hK hD hS ls hl hQ
  have hl : lv_has ls 2 [(0, .ref (ad 150)), (1, .int q)] := hl
  have kk_0 : (0 : Int32).toInt = 0 := rfl
  have fl50 := hts (.fieldLink RX8 50 "SlopeRunner$Tape" "results" "I") (List.mem_of_getElem? (i := 1) rfl)
  have inX8 : ∀ w ∈ wsX80, w ∈ v_kb_hasResult := (fun w h => List.mem_cons_of_mem _ (List.mem_append_right _ h))
  have kk_1 : (1 : Int32).toInt = 1 := rfl
  refine lv_iload_n hx hb dX8_hasResult_0 rfl (lv_at hl 1 rfl) ?_
  refine lv_if_lt (tgt := 16) hx hb dX8_hasResult_1 (by decide) (fun c_1 => ?_) (fun c_1 => ?_)
  · have kc_1 : q.toInt < 0 := by have h9 := c_1; simp only [ge_iff_le, gt_iff_lt, x_lt, x_le, x_eq, ne_eq, Int32.not_lt, Int32.not_le] at h9; simp only [Int32.reduceToInt] at h9; omega
    refine lv_iconst (v := 0) hx hb dX8_hasResult_16 (by decide) ?_
    exact x_zretW (v := 0) (u := ()) hx hb hr hQ rfl (by omega) hP hD hK hS dX8_hasResult_17 hlocks
  · have kc_1 : q.toInt ≥ 0 := by have h9 := c_1; simp only [ge_iff_le, gt_iff_lt, x_lt, x_le, x_eq, ne_eq, Int32.not_lt, Int32.not_le] at h9; simp only [Int32.reduceToInt] at h9; omega
    refine lv_iload_n hx hb dX8_hasResult_4 rfl (lv_at hl 1 rfl) ?_
    refine lv_aload_n hx hb dX8_hasResult_5 rfl (lv_at hl 0 rfl) ?_
    refine va_get (D := D) (ci := 7) (v := .int (σ.1 161)) (C := RX8) (T := TX8) (N := 13) hx hb hts inX8 hown hK hP 0 tqw_o0 rfl 10 (by decide) fl50 (fun _ h9 => h9) rfl dX8_hasResult_6 ?_
    refine lv_icmp_ge (tgt := 16) hx hb dX8_hasResult_9 (by decide) (fun c_2 => ?_) (fun c_2 => ?_)
    · have kc_2 : q.toInt ≥ (σ.1 161).toInt := by have h9 := c_2; simp only [ge_iff_le, gt_iff_lt, x_lt, x_le, x_eq, ne_eq, Int32.not_lt, Int32.not_le] at h9; omega
      refine lv_iconst (v := 0) hx hb dX8_hasResult_16 (by decide) ?_
      exact x_zretW (v := 0) (u := ()) hx hb hr hQ rfl (by omega) hP hD hK hS dX8_hasResult_17 hlocks
    · have kc_2 : q.toInt < (σ.1 161).toInt := by have h9 := c_2; simp only [ge_iff_le, gt_iff_lt, x_lt, x_le, x_eq, ne_eq, Int32.not_lt, Int32.not_le] at h9; omega
      refine lv_iconst (v := 1) hx hb dX8_hasResult_12 (by decide) ?_
      refine lv_goto (tgt := 17) hx hb dX8_hasResult_13 (by decide) ?_
      exact x_zretW (v := 1) (u := ()) hx hb hr hQ rfl (by omega) hP hD hK hS dX8_hasResult_17 hlocks

def v_kb_hasBoth : List Cond := .code yX8_hasBoth cX8_hasBoth 3 (some .boolean) :: ([.fieldLink RX8 38 "SlopeRunner$Tape" "inputs" "I"] ++ ((wsV RX8 76 RX8 yX8_hasResult v_kb_hasResult) ++ wsX80))
theorem g_kb_hasBoth_0 : GoodIn v_kb_hasBoth (wsV RX8 76 RX8 yX8_hasResult v_kb_hasResult) := goodIn_sub (fun w h => List.mem_cons_of_mem _ (List.mem_append_right _ (List.mem_append_left _ h))) (by decide +kernel)
set_option maxHeartbeats 4000000 in
set_option maxRecDepth 100000 in
theorem kb_hasBoth (l : Launch) (D : va_G) (y : Nat → ClassId) (sz : Nat) (ad : Nat → Nat) (σ : OS) (q i : Int32) : Met l yX8_hasBoth v_kb_hasBoth ({ frames := 1, cells := 0, slots := 0, locals := 21 } : Room) (va_Pc [.ref (ad 150), .int q, .int i] (xPre D (xT y) (tqw y ad σ) sz)) (va_Qi (fun (r : Int32) (_ : Unit) => (r.toInt = 1 ∧ 0 ≤ q.toInt ∧ q.toInt < (σ.1 161).toInt ∧ 0 ≤ i.toInt ∧ i.toInt < (σ.1 157).toInt) ∨ r.toInt = 0) (fun (u : Unit) => xB D (xT y) (va_A (tqw y ad σ) sz) (tqw y ad σ)) (va_A (tqw y ad σ) sz)) 0 0 (va_A (tqw y ad σ) sz) := by
  refine x_meti (cc := cX8_hasBoth) (maxL := 3) (by decide) rfl (Nat.le_of_ble_eq_true rfl) ?_
  intro p e s m below meth c A H locs Q hx hb hml hown hts hr hlocks hmn hA hP hK hD hS ls hl hQ
  have hl : lv_has ls 3 [(0, .ref (ad 150)), (1, .int q), (2, .int i)] := hl
  have kk_0 : (0 : Int32).toInt = 0 := rfl
  have fl38 := hts (.fieldLink RX8 38 "SlopeRunner$Tape" "inputs" "I") (List.mem_of_getElem? (i := 1) rfl)
  have inX8 : ∀ w ∈ wsX80, w ∈ v_kb_hasBoth := (fun w h => List.mem_cons_of_mem _ (List.mem_append_right _ (List.mem_append_right _ h)))
  have kk_1 : (1 : Int32).toInt = 1 := rfl
  refine lv_aload_n hx hb dX8_hasBoth_0 rfl (lv_at hl 0 rfl) ?_
  refine lv_iload_n hx hb dX8_hasBoth_1 rfl (lv_at hl 1 rfl) ?_
  refine x_calliW (va_runV (As := [.int q]) (rest := []) ⟨hx, hb, hml, hown, hts⟩ (kb_hasResult l D y H.size ad σ q) (cwV 1 hts g_kb_hasBoth_0 rfl rfl rfl (by decide +kernel) ⟨Nat.le_of_ble_eq_true rfl, Nat.le_of_ble_eq_true rfl⟩) (x_preV (q := (RX8, TX8, 13)) hK hP hD (ci := 7) (q0 := 0) rfl tqw_o0) rfl rfl hl.1 rfl (lv_room (Nat.le_of_ble_eq_true rfl)) dX8_hasBoth_2 ⟨Nat.le_of_ble_eq_true rfl, Nat.le_of_ble_eq_true rfl⟩) hP hD hS hA (fun r_1 u H locs hw hP hD hS => ?_)
  try dsimp only at hw
  have hP : va_P D vwCl (tqw y ad σ) H := hP
  have hD : va_D A (tqw y ad σ) := hD
  replace hw : (r_1.toInt = 1 ∧ 0 ≤ q.toInt ∧ q.toInt < ((σ.1 161)).toInt) ∨ r_1.toInt = 0 := hw
  refine lv_if_eq (tgt := 24) hx hb dX8_hasBoth_5 (by decide) (fun c_2 => ?_) (fun c_2 => ?_)
  · have kc_2 : r_1.toInt = 0 := by have h9 := c_2; simp only [ge_iff_le, gt_iff_lt, x_lt, x_le, x_eq, ne_eq, Int32.not_lt, Int32.not_le] at h9; simp only [Int32.reduceToInt] at h9; omega
    refine lv_iconst (v := 0) hx hb dX8_hasBoth_24 (by decide) ?_
    exact x_zretW (v := 0) (u := ()) hx hb hr hQ rfl (by omega) hP hD hK hS dX8_hasBoth_25 hlocks
  · have kc_2 : r_1.toInt ≠ 0 := by have h9 := c_2; simp only [ge_iff_le, gt_iff_lt, x_lt, x_le, x_eq, ne_eq, Int32.not_lt, Int32.not_le] at h9; simp only [Int32.reduceToInt] at h9; omega
    refine lv_iload_n hx hb dX8_hasBoth_8 rfl (lv_at hl 2 rfl) ?_
    refine lv_if_lt (tgt := 24) hx hb dX8_hasBoth_9 (by decide) (fun c_3 => ?_) (fun c_3 => ?_)
    · have kc_3 : i.toInt < 0 := by have h9 := c_3; simp only [ge_iff_le, gt_iff_lt, x_lt, x_le, x_eq, ne_eq, Int32.not_lt, Int32.not_le] at h9; simp only [Int32.reduceToInt] at h9; omega
      refine lv_iconst (v := 0) hx hb dX8_hasBoth_24 (by decide) ?_
      exact x_zretW (v := 0) (u := ()) hx hb hr hQ rfl (by omega) hP hD hK hS dX8_hasBoth_25 hlocks
    · have kc_3 : i.toInt ≥ 0 := by have h9 := c_3; simp only [ge_iff_le, gt_iff_lt, x_lt, x_le, x_eq, ne_eq, Int32.not_lt, Int32.not_le] at h9; simp only [Int32.reduceToInt] at h9; omega
      refine lv_iload_n hx hb dX8_hasBoth_12 rfl (lv_at hl 2 rfl) ?_
      refine lv_aload_n hx hb dX8_hasBoth_13 rfl (lv_at hl 0 rfl) ?_
      refine va_get (D := D) (ci := 7) (v := .int (σ.1 157)) (C := RX8) (T := TX8) (N := 13) hx hb hts inX8 hown hK hP 0 tqw_o0 rfl 6 (by decide) fl38 (fun _ h9 => h9) rfl dX8_hasBoth_14 ?_
      refine lv_icmp_ge (tgt := 24) hx hb dX8_hasBoth_17 (by decide) (fun c_4 => ?_) (fun c_4 => ?_)
      · have kc_4 : i.toInt ≥ (σ.1 157).toInt := by have h9 := c_4; simp only [ge_iff_le, gt_iff_lt, x_lt, x_le, x_eq, ne_eq, Int32.not_lt, Int32.not_le] at h9; omega
        refine lv_iconst (v := 0) hx hb dX8_hasBoth_24 (by decide) ?_
        exact x_zretW (v := 0) (u := ()) hx hb hr hQ rfl (by omega) hP hD hK hS dX8_hasBoth_25 hlocks
      · have kc_4 : i.toInt < (σ.1 157).toInt := by have h9 := c_4; simp only [ge_iff_le, gt_iff_lt, x_lt, x_le, x_eq, ne_eq, Int32.not_lt, Int32.not_le] at h9; omega
        refine lv_iconst (v := 1) hx hb dX8_hasBoth_20 (by decide) ?_
        refine lv_goto (tgt := 25) hx hb dX8_hasBoth_21 (by decide) ?_
        exact x_zretW (v := 1) (u := ()) hx hb hr hQ rfl (by omega) hP hD hK hS dX8_hasBoth_25 hlocks

def v_kb_holds : List Cond := .code yX8_holds cX8_holds 2 (some .boolean) :: ([.fieldLink RX8 44 "SlopeRunner$Tape" "size" "I"] ++ wsX80)
set_option maxHeartbeats 4000000 in
set_option maxRecDepth 100000 in
theorem kb_holds (l : Launch) (D : va_G) (y : Nat → ClassId) (sz : Nat) (ad : Nat → Nat) (σ : OS) (q : Int32) : Met l yX8_holds v_kb_holds ({ frames := 0, cells := 0, slots := 0, locals := 0 } : Room) (va_Pc [.ref (ad 150), .int q] (xPre D (xT y) (tqw y ad σ) sz)) (va_Qi (fun (r : Int32) (_ : Unit) => (r.toInt = 1 ∧ 0 ≤ q.toInt ∧ q.toInt < (σ.1 159).toInt) ∨ r.toInt = 0) (fun (u : Unit) => xB D (xT y) (va_A (tqw y ad σ) sz) (tqw y ad σ)) (va_A (tqw y ad σ) sz)) 0 0 (va_A (tqw y ad σ) sz) := by
  refine x_meti (cc := cX8_holds) (maxL := 2) (by decide) rfl (Nat.le_of_ble_eq_true rfl) ?_
  intro p e s m below meth c A H locs Q hx hb hml hown hts hr hlocks hmn hA hP hK hD hS ls hl hQ
  have hl : lv_has ls 2 [(0, .ref (ad 150)), (1, .int q)] := hl
  have kk_0 : (0 : Int32).toInt = 0 := rfl
  have fl44 := hts (.fieldLink RX8 44 "SlopeRunner$Tape" "size" "I") (List.mem_of_getElem? (i := 1) rfl)
  have inX8 : ∀ w ∈ wsX80, w ∈ v_kb_holds := (fun w h => List.mem_cons_of_mem _ (List.mem_append_right _ h))
  have kk_1 : (1 : Int32).toInt = 1 := rfl
  refine lv_iload_n hx hb dX8_holds_0 rfl (lv_at hl 1 rfl) ?_
  refine lv_if_lt (tgt := 16) hx hb dX8_holds_1 (by decide) (fun c_1 => ?_) (fun c_1 => ?_)
  · have kc_1 : q.toInt < 0 := by have h9 := c_1; simp only [ge_iff_le, gt_iff_lt, x_lt, x_le, x_eq, ne_eq, Int32.not_lt, Int32.not_le] at h9; simp only [Int32.reduceToInt] at h9; omega
    refine lv_iconst (v := 0) hx hb dX8_holds_16 (by decide) ?_
    exact x_zretW (v := 0) (u := ()) hx hb hr hQ rfl (by omega) hP hD hK hS dX8_holds_17 hlocks
  · have kc_1 : q.toInt ≥ 0 := by have h9 := c_1; simp only [ge_iff_le, gt_iff_lt, x_lt, x_le, x_eq, ne_eq, Int32.not_lt, Int32.not_le] at h9; simp only [Int32.reduceToInt] at h9; omega
    refine lv_iload_n hx hb dX8_holds_4 rfl (lv_at hl 1 rfl) ?_
    refine lv_aload_n hx hb dX8_holds_5 rfl (lv_at hl 0 rfl) ?_
    refine va_get (D := D) (ci := 7) (v := .int (σ.1 159)) (C := RX8) (T := TX8) (N := 13) hx hb hts inX8 hown hK hP 0 tqw_o0 rfl 8 (by decide) fl44 (fun _ h9 => h9) rfl dX8_holds_6 ?_
    refine lv_icmp_ge (tgt := 16) hx hb dX8_holds_9 (by decide) (fun c_2 => ?_) (fun c_2 => ?_)
    · have kc_2 : q.toInt ≥ (σ.1 159).toInt := by have h9 := c_2; simp only [ge_iff_le, gt_iff_lt, x_lt, x_le, x_eq, ne_eq, Int32.not_lt, Int32.not_le] at h9; omega
      refine lv_iconst (v := 0) hx hb dX8_holds_16 (by decide) ?_
      exact x_zretW (v := 0) (u := ()) hx hb hr hQ rfl (by omega) hP hD hK hS dX8_holds_17 hlocks
    · have kc_2 : q.toInt < (σ.1 159).toInt := by have h9 := c_2; simp only [ge_iff_le, gt_iff_lt, x_lt, x_le, x_eq, ne_eq, Int32.not_lt, Int32.not_le] at h9; omega
      refine lv_iconst (v := 1) hx hb dX8_holds_12 (by decide) ?_
      refine lv_goto (tgt := 17) hx hb dX8_holds_13 (by decide) ?_
      exact x_zretW (v := 1) (u := ()) hx hb hr hQ rfl (by omega) hP hD hK hS dX8_holds_17 hlocks

def v_kb_valueAt : List Cond := .code yX8_valueAt cX8_valueAt 2 (some .long) :: ([.fieldLink RX8 11 "SlopeRunner$Tape" "value" "[J"] ++ ((wsV RX8 84 RX8 yX8_holds v_kb_holds) ++ wsX80))
theorem g_kb_valueAt_0 : GoodIn v_kb_valueAt (wsV RX8 84 RX8 yX8_holds v_kb_holds) := goodIn_sub (fun w h => List.mem_cons_of_mem _ (List.mem_append_right _ (List.mem_append_left _ h))) (by decide +kernel)
set_option maxHeartbeats 4000000 in
set_option maxRecDepth 100000 in
theorem kb_valueAt (l : Launch) (D : va_G) (y : Nat → ClassId) (sz : Nat) (ad : Nat → Nat) (σ : OS) (q : Int32) (hsz0 : 0 ≤ (σ.1 159).toInt) (hsz1 : (σ.1 159).toInt ≤ 1359) : Met l yX8_valueAt v_kb_valueAt ({ frames := 1, cells := 0, slots := 0, locals := 21 } : Room) (va_Pc [.ref (ad 150), .int q] (xPre D (xT y) (tqw y ad σ) sz)) (va_Ql (fun (r : Int64) (_ : Unit) => True) (fun (u : Unit) => xB D (xT y) (va_A (tqw y ad σ) sz) (tqw y ad σ)) (va_A (tqw y ad σ) sz)) 0 0 (va_A (tqw y ad σ) sz) := by
  refine x_metl (cc := cX8_valueAt) (maxL := 2) (by decide) rfl (Nat.le_of_ble_eq_true rfl) ?_
  intro p e s m below meth c A H locs Q hx hb hml hown hts hr hlocks hmn hA hP hK hD hS ls hl hQ
  have hl : lv_has ls 2 [(0, .ref (ad 150)), (1, .int q)] := hl
  have kk_0 : (0 : Int32).toInt = 0 := rfl
  have fl11 := hts (.fieldLink RX8 11 "SlopeRunner$Tape" "value" "[J") (List.mem_of_getElem? (i := 1) rfl)
  have inX8 : ∀ w ∈ wsX80, w ∈ v_kb_valueAt := (fun w h => List.mem_cons_of_mem _ (List.mem_append_right _ (List.mem_append_right _ h)))
  refine lv_aload_n hx hb dX8_valueAt_0 rfl (lv_at hl 0 rfl) ?_
  refine lv_iload_n hx hb dX8_valueAt_1 rfl (lv_at hl 1 rfl) ?_
  refine x_calliW (va_runV (As := [.int q]) (rest := []) ⟨hx, hb, hml, hown, hts⟩ (kb_holds l D y H.size ad σ q) (cwV 1 hts g_kb_valueAt_0 rfl rfl rfl (by decide +kernel) ⟨Nat.le_of_ble_eq_true rfl, Nat.le_of_ble_eq_true rfl⟩) (x_preV (q := (RX8, TX8, 13)) hK hP hD (ci := 7) (q0 := 0) rfl tqw_o0) rfl rfl hl.1 rfl (lv_room (Nat.le_of_ble_eq_true rfl)) dX8_valueAt_2 ⟨Nat.le_of_ble_eq_true rfl, Nat.le_of_ble_eq_true rfl⟩) hP hD hS hA (fun r_1 u H locs hw hP hD hS => ?_)
  try dsimp only at hw
  have hP : va_P D vwCl (tqw y ad σ) H := hP
  have hD : va_D A (tqw y ad σ) := hD
  replace hw : (r_1.toInt = 1 ∧ 0 ≤ q.toInt ∧ q.toInt < ((σ.1 159)).toInt) ∨ r_1.toInt = 0 := hw
  refine lv_if_eq (tgt := 17) hx hb dX8_valueAt_5 (by decide) (fun c_2 => ?_) (fun c_2 => ?_)
  · have kc_2 : r_1.toInt = 0 := by have h9 := c_2; simp only [ge_iff_le, gt_iff_lt, x_lt, x_le, x_eq, ne_eq, Int32.not_lt, Int32.not_le] at h9; simp only [Int32.reduceToInt] at h9; omega
    refine lv_lconst (v := 0) hx hb dX8_valueAt_17 (by decide) ?_
    exact x_lretW (v := 0) (u := ()) hx hb hr hQ trivial hP hD hK hS dX8_valueAt_18 hlocks
  · have kc_2 : r_1.toInt ≠ 0 := by have h9 := c_2; simp only [ge_iff_le, gt_iff_lt, x_lt, x_le, x_eq, ne_eq, Int32.not_lt, Int32.not_le] at h9; simp only [Int32.reduceToInt] at h9; omega
    refine lv_aload_n hx hb dX8_valueAt_8 rfl (lv_at hl 0 rfl) ?_
    refine va_get (D := D) (ci := 7) (v := .ref (ad 151)) (C := RX8) (T := TX8) (N := 13) hx hb hts inX8 hown hK hP 0 tqw_o0 rfl 0 (by decide) fl11 (fun _ h9 => h9) rfl dX8_valueAt_9 ?_
    refine lv_iload_n hx hb dX8_valueAt_12 rfl (lv_at hl 1 rfl) ?_
    refine va_lald hx hb hK hP 1 3 tqw_a1 rfl (x_in (by omega) (by omega)) dX8_valueAt_13 ?_
    refine lv_topl (fun j_3 ej_3 => ?_)
    have ej_3 : j_3 = (σ.2.2.2 151) (Int32.toNatClampNeg q) := ej_3
    refine lv_goto (tgt := 18) hx hb dX8_valueAt_14 (by decide) ?_
    exact x_lretW (v := j_3) (u := ()) hx hb hr hQ trivial hP hD hK hS dX8_valueAt_18 hlocks

def v_kb_resultValue : List Cond := .code yX8_resultValue cX8_resultValue 2 (some .long) :: ([.fieldLink RX8 25 "SlopeRunner$Tape" "given" "[I"] ++ ((wsV RX8 76 RX8 yX8_hasResult v_kb_hasResult) ++ ((wsV RX8 80 RX8 yX8_valueAt v_kb_valueAt) ++ wsX80)))
theorem g_kb_resultValue_0 : GoodIn v_kb_resultValue (wsV RX8 76 RX8 yX8_hasResult v_kb_hasResult) := goodIn_sub (fun w h => List.mem_cons_of_mem _ (List.mem_append_right _ (List.mem_append_left _ h))) (by decide +kernel)
theorem g_kb_resultValue_1 : GoodIn v_kb_resultValue (wsV RX8 80 RX8 yX8_valueAt v_kb_valueAt) := goodIn_sub (fun w h => List.mem_cons_of_mem _ (List.mem_append_right _ (List.mem_append_right _ (List.mem_append_left _ h)))) (by decide +kernel)
set_option maxHeartbeats 4000000 in
set_option maxRecDepth 100000 in
theorem kb_resultValue (l : Launch) (D : va_G) (y : Nat → ClassId) (sz : Nat) (ad : Nat → Nat) (σ : OS) (q : Int32) (hsz0 : 0 ≤ (σ.1 159).toInt) (hsz1 : (σ.1 159).toInt ≤ 1359) (hrs0 : 0 ≤ (σ.1 161).toInt) (hrs1 : (σ.1 161).toInt ≤ 12) : Met l yX8_resultValue v_kb_resultValue ({ frames := 2, cells := 0, slots := 0, locals := 42 } : Room) (va_Pc [.ref (ad 150), .int q] (xPre D (xT y) (tqw y ad σ) sz)) (va_Ql (fun (r : Int64) (_ : Unit) => True) (fun (u : Unit) => xB D (xT y) (va_A (tqw y ad σ) sz) (tqw y ad σ)) (va_A (tqw y ad σ) sz)) 0 0 (va_A (tqw y ad σ) sz) := by
  refine x_metl (cc := cX8_resultValue) (maxL := 2) (by decide) rfl (Nat.le_of_ble_eq_true rfl) ?_
  intro p e s m below meth c A H locs Q hx hb hml hown hts hr hlocks hmn hA hP hK hD hS ls hl hQ
  have hl : lv_has ls 2 [(0, .ref (ad 150)), (1, .int q)] := hl
  have kk_0 : (0 : Int32).toInt = 0 := rfl
  have fl25 := hts (.fieldLink RX8 25 "SlopeRunner$Tape" "given" "[I") (List.mem_of_getElem? (i := 1) rfl)
  have inX8 : ∀ w ∈ wsX80, w ∈ v_kb_resultValue := (fun w h => List.mem_cons_of_mem _ (List.mem_append_right _ (List.mem_append_right _ (List.mem_append_right _ h))))
  refine lv_aload_n hx hb dX8_resultValue_0 rfl (lv_at hl 0 rfl) ?_
  refine lv_iload_n hx hb dX8_resultValue_1 rfl (lv_at hl 1 rfl) ?_
  refine x_calliW (va_runV (As := [.int q]) (rest := []) ⟨hx, hb, hml, hown, hts⟩ (kb_hasResult l D y H.size ad σ q) (cwV 1 hts g_kb_resultValue_0 rfl rfl rfl (by decide +kernel) ⟨Nat.le_of_ble_eq_true rfl, Nat.le_of_ble_eq_true rfl⟩) (x_preV (q := (RX8, TX8, 13)) hK hP hD (ci := 7) (q0 := 0) rfl tqw_o0) rfl rfl hl.1 rfl (lv_room (Nat.le_of_ble_eq_true rfl)) dX8_resultValue_2 ⟨Nat.le_of_ble_eq_true rfl, Nat.le_of_ble_eq_true rfl⟩) hP hD hS hA (fun r_1 u H locs hw hP hD hS => ?_)
  try dsimp only at hw
  have hP : va_P D vwCl (tqw y ad σ) H := hP
  have hD : va_D A (tqw y ad σ) := hD
  replace hw : (r_1.toInt = 1 ∧ 0 ≤ q.toInt ∧ q.toInt < ((σ.1 161)).toInt) ∨ r_1.toInt = 0 := hw
  refine lv_if_eq (tgt := 21) hx hb dX8_resultValue_5 (by decide) (fun c_2 => ?_) (fun c_2 => ?_)
  · have kc_2 : r_1.toInt = 0 := by have h9 := c_2; simp only [ge_iff_le, gt_iff_lt, x_lt, x_le, x_eq, ne_eq, Int32.not_lt, Int32.not_le] at h9; simp only [Int32.reduceToInt] at h9; omega
    refine lv_lconst (v := 0) hx hb dX8_resultValue_21 (by decide) ?_
    exact x_lretW (v := 0) (u := ()) hx hb hr hQ trivial hP hD hK hS dX8_resultValue_22 hlocks
  · have kc_2 : r_1.toInt ≠ 0 := by have h9 := c_2; simp only [ge_iff_le, gt_iff_lt, x_lt, x_le, x_eq, ne_eq, Int32.not_lt, Int32.not_le] at h9; simp only [Int32.reduceToInt] at h9; omega
    refine lv_aload_n hx hb dX8_resultValue_8 rfl (lv_at hl 0 rfl) ?_
    refine lv_aload_n hx hb dX8_resultValue_9 rfl (lv_at hl 0 rfl) ?_
    refine va_get (D := D) (ci := 7) (v := .ref (ad 155)) (C := RX8) (T := TX8) (N := 13) hx hb hts inX8 hown hK hP 0 tqw_o0 rfl 4 (by decide) fl25 (fun _ h9 => h9) rfl dX8_resultValue_10 ?_
    refine lv_iload_n hx hb dX8_resultValue_13 rfl (lv_at hl 1 rfl) ?_
    refine va_iald hx hb hK hP 5 2 tqw_a5 rfl (x_in (by omega) (by omega)) dX8_resultValue_14 ?_
    refine lv_topi (fun i_3 ei_3 => ?_)
    have ei_3 : i_3 = (σ.2.2.1 155) (Int32.toNatClampNeg q) := ei_3
    refine x_calllW (va_runV (As := [.int i_3]) (rest := []) ⟨hx, hb, hml, hown, hts⟩ (kb_valueAt l D y H.size ad σ i_3 (show 0 ≤ ((σ.1 159)).toInt from by first | omega | decide) (show ((σ.1 159)).toInt ≤ 1359 from by first | omega | decide)) (cwV 1 hts g_kb_resultValue_1 rfl rfl rfl (by decide +kernel) ⟨Nat.le_of_ble_eq_true rfl, Nat.le_of_ble_eq_true rfl⟩) (x_preV (q := (RX8, TX8, 13)) hK hP hD (ci := 7) (q0 := 0) rfl tqw_o0) rfl rfl hl.1 rfl (lv_room (Nat.le_of_ble_eq_true rfl)) dX8_resultValue_15 ⟨Nat.le_of_ble_eq_true rfl, Nat.le_of_ble_eq_true rfl⟩) hP hD hS hA (fun r_4 u H locs hw hP hD hS => ?_)
    try dsimp only at hw
    have hP : va_P D vwCl (tqw y ad σ) H := hP
    have hD : va_D A (tqw y ad σ) := hD
    refine lv_goto (tgt := 22) hx hb dX8_resultValue_18 (by decide) ?_
    exact x_lretW (v := r_4) (u := ()) hx hb hr hQ trivial hP hD hK hS dX8_resultValue_22 hlocks

def v_kb_resultAt : List Cond := .code yX8_resultAt cX8_resultAt 2 (some .int) :: ([.fieldLink RX8 25 "SlopeRunner$Tape" "given" "[I"] ++ ((wsV RX8 76 RX8 yX8_hasResult v_kb_hasResult) ++ ((wsV RX8 63 RX8 yX8_zeroAt v_kb_zeroAt) ++ wsX80)))
theorem g_kb_resultAt_0 : GoodIn v_kb_resultAt (wsV RX8 76 RX8 yX8_hasResult v_kb_hasResult) := goodIn_sub (fun w h => List.mem_cons_of_mem _ (List.mem_append_right _ (List.mem_append_left _ h))) (by decide +kernel)
theorem g_kb_resultAt_1 : GoodIn v_kb_resultAt (wsV RX8 63 RX8 yX8_zeroAt v_kb_zeroAt) := goodIn_sub (fun w h => List.mem_cons_of_mem _ (List.mem_append_right _ (List.mem_append_right _ (List.mem_append_left _ h)))) (by decide +kernel)
set_option maxHeartbeats 4000000 in
set_option maxRecDepth 100000 in
theorem kb_resultAt (l : Launch) (D : va_G) (y : Nat → ClassId) (sz : Nat) (ad : Nat → Nat) (σ : OS) (q : Int32) (hin0 : 0 ≤ (σ.1 157).toInt) (hin1 : (σ.1 157).toInt ≤ 8) (hrs0 : 0 ≤ (σ.1 161).toInt) (hrs1 : (σ.1 161).toInt ≤ 12)  (hB155 : bI (σ.2.2.1 155) 0 1358) : Met l yX8_resultAt v_kb_resultAt ({ frames := 1, cells := 0, slots := 0, locals := 21 } : Room) (va_Pc [.ref (ad 150), .int q] (xPre D (xT y) (tqw y ad σ) sz)) (va_Qi (fun (r : Int32) (_ : Unit) => 0 ≤ r.toInt ∧ r.toInt ≤ 1358) (fun (u : Unit) => xB D (xT y) (va_A (tqw y ad σ) sz) (tqw y ad σ)) (va_A (tqw y ad σ) sz)) 0 0 (va_A (tqw y ad σ) sz) := by
  refine x_meti (cc := cX8_resultAt) (maxL := 2) (by decide) rfl (Nat.le_of_ble_eq_true rfl) ?_
  intro p e s m below meth c A H locs Q hx hb hml hown hts hr hlocks hmn hA hP hK hD hS ls hl hQ
  have hl : lv_has ls 2 [(0, .ref (ad 150)), (1, .int q)] := hl
  have kk_0 : (0 : Int32).toInt = 0 := rfl
  have fl25 := hts (.fieldLink RX8 25 "SlopeRunner$Tape" "given" "[I") (List.mem_of_getElem? (i := 1) rfl)
  have inX8 : ∀ w ∈ wsX80, w ∈ v_kb_resultAt := (fun w h => List.mem_cons_of_mem _ (List.mem_append_right _ (List.mem_append_right _ (List.mem_append_right _ h))))
  refine lv_aload_n hx hb dX8_resultAt_0 rfl (lv_at hl 0 rfl) ?_
  refine lv_iload_n hx hb dX8_resultAt_1 rfl (lv_at hl 1 rfl) ?_
  refine x_calliW (va_runV (As := [.int q]) (rest := []) ⟨hx, hb, hml, hown, hts⟩ (kb_hasResult l D y H.size ad σ q) (cwV 1 hts g_kb_resultAt_0 rfl rfl rfl (by decide +kernel) ⟨Nat.le_of_ble_eq_true rfl, Nat.le_of_ble_eq_true rfl⟩) (x_preV (q := (RX8, TX8, 13)) hK hP hD (ci := 7) (q0 := 0) rfl tqw_o0) rfl rfl hl.1 rfl (lv_room (Nat.le_of_ble_eq_true rfl)) dX8_resultAt_2 ⟨Nat.le_of_ble_eq_true rfl, Nat.le_of_ble_eq_true rfl⟩) hP hD hS hA (fun r_1 u H locs hw hP hD hS => ?_)
  try dsimp only at hw
  have hP : va_P D vwCl (tqw y ad σ) H := hP
  have hD : va_D A (tqw y ad σ) := hD
  replace hw : (r_1.toInt = 1 ∧ 0 ≤ q.toInt ∧ q.toInt < ((σ.1 161)).toInt) ∨ r_1.toInt = 0 := hw
  refine lv_if_eq (tgt := 17) hx hb dX8_resultAt_5 (by decide) (fun c_2 => ?_) (fun c_2 => ?_)
  · have kc_2 : r_1.toInt = 0 := by have h9 := c_2; simp only [ge_iff_le, gt_iff_lt, x_lt, x_le, x_eq, ne_eq, Int32.not_lt, Int32.not_le] at h9; simp only [Int32.reduceToInt] at h9; omega
    refine lv_aload_n hx hb dX8_resultAt_17 rfl (lv_at hl 0 rfl) ?_
    refine x_calliW (va_runV (As := []) (rest := []) ⟨hx, hb, hml, hown, hts⟩ (kb_zeroAt l D y H.size ad σ ) (cwV 0 hts g_kb_resultAt_1 rfl rfl rfl (by decide +kernel) ⟨Nat.le_of_ble_eq_true rfl, Nat.le_of_ble_eq_true rfl⟩) (x_preV (q := (RX8, TX8, 13)) hK hP hD (ci := 7) (q0 := 0) rfl tqw_o0) rfl rfl hl.1 rfl (lv_room (Nat.le_of_ble_eq_true rfl)) dX8_resultAt_18 ⟨Nat.le_of_ble_eq_true rfl, Nat.le_of_ble_eq_true rfl⟩) hP hD hS hA (fun r_3 u H locs hw hP hD hS => ?_)
    try dsimp only at hw
    have hP : va_P D vwCl (tqw y ad σ) H := hP
    have hD : va_D A (tqw y ad σ) := hD
    replace hw : r_3 = (σ.1 157) := hw
    have hwz : r_3.toInt = (σ.1 157).toInt := by rw [hw]
    exact x_iretW (v := r_3) (u := ()) hx hb hr hQ ⟨by omega, by omega⟩ hP hD hK hS dX8_resultAt_21 hlocks
  · have kc_2 : r_1.toInt ≠ 0 := by have h9 := c_2; simp only [ge_iff_le, gt_iff_lt, x_lt, x_le, x_eq, ne_eq, Int32.not_lt, Int32.not_le] at h9; simp only [Int32.reduceToInt] at h9; omega
    refine lv_aload_n hx hb dX8_resultAt_8 rfl (lv_at hl 0 rfl) ?_
    refine va_get (D := D) (ci := 7) (v := .ref (ad 155)) (C := RX8) (T := TX8) (N := 13) hx hb hts inX8 hown hK hP 0 tqw_o0 rfl 4 (by decide) fl25 (fun _ h9 => h9) rfl dX8_resultAt_9 ?_
    refine lv_iload_n hx hb dX8_resultAt_12 rfl (lv_at hl 1 rfl) ?_
    refine va_iald hx hb hK hP 5 2 tqw_a5 rfl (x_in (by omega) (by omega)) dX8_resultAt_13 ?_
    refine lv_topi (fun i_4 ei_4 => ?_)
    have ei_4 : i_4 = (σ.2.2.1 155) (Int32.toNatClampNeg q) := ei_4
    have bi_4 := b_at hB155 ei_4
    refine lv_goto (tgt := 21) hx hb dX8_resultAt_14 (by decide) ?_
    exact x_iretW (v := i_4) (u := ()) hx hb hr hQ ⟨by omega, by omega⟩ hP hD hK hS dX8_resultAt_21 hlocks

def v_kb_lay : List Cond := .code yX8_lay cX8_lay 6 (some .int) :: ([.fieldLink RX8 44 "SlopeRunner$Tape" "size" "I", .fieldLink RX8 15 "SlopeRunner$Tape" "kind" "[I", .fieldLink RX8 19 "SlopeRunner$Tape" "left" "[I", .fieldLink RX8 22 "SlopeRunner$Tape" "right" "[I", .fieldLink RX8 11 "SlopeRunner$Tape" "value" "[J", .fieldLink RX8 47 "SlopeRunner$Tape" "steps" "I"] ++ ((wsV RX8 63 RX8 yX8_zeroAt v_kb_zeroAt) ++ ((wsV RX8 84 RX8 yX8_holds v_kb_holds) ++ wsX80)))
theorem g_kb_lay_0 : GoodIn v_kb_lay (wsV RX8 63 RX8 yX8_zeroAt v_kb_zeroAt) := goodIn_sub (fun w h => List.mem_cons_of_mem _ (List.mem_append_right _ (List.mem_append_left _ h))) (by decide +kernel)
theorem g_kb_lay_1 : GoodIn v_kb_lay (wsV RX8 84 RX8 yX8_holds v_kb_holds) := goodIn_sub (fun w h => List.mem_cons_of_mem _ (List.mem_append_right _ (List.mem_append_right _ (List.mem_append_left _ h)))) (by decide +kernel)
set_option maxHeartbeats 4000000 in
set_option maxRecDepth 100000 in
theorem kb_lay (l : Launch) (D : va_G) (y : Nat → ClassId) (sz : Nat) (ad : Nat → Nat) (σ : OS) (k a b : Int32) (z : Int64) (hsz0 : 0 ≤ (σ.1 159).toInt) (hsz1 : (σ.1 159).toInt ≤ 1359)  (hB153 : bI (σ.2.2.1 153) 0 1358) (hB154 : bI (σ.2.2.1 154) 0 1358) : Met l yX8_lay v_kb_lay ({ frames := 1, cells := 0, slots := 0, locals := 21 } : Room) (va_Pc [.ref (ad 150), .int k, .int a, .int b, .long z] (xPre D (xT y) (tqw y ad σ) sz)) (va_Qi (fun (r : Int32) (u : (Nat → Int32) × (Nat → Int32) × (Nat → Int32) × (Nat → Int64) × Int32 × Int32) => (0 ≤ u.2.2.2.2.1.toInt ∧ u.2.2.2.2.1.toInt ≤ 1359) ∧ bI u.2.1 0 1358 ∧ bI u.2.2.1 0 1358) (fun (u : (Nat → Int32) × (Nat → Int32) × (Nat → Int32) × (Nat → Int64) × Int32 × Int32) => xB D (xT y) (va_A (tqw y ad σ) sz) (tqw y ad (sI (sI (tJ (tI (tI (tI σ 152 u.1) 153 u.2.1) 154 u.2.2.1) 151 u.2.2.2.1) 159 u.2.2.2.2.1) 160 u.2.2.2.2.2))) (va_A (tqw y ad σ) sz)) 0 0 (va_A (tqw y ad σ) sz) := by
  refine x_meti (cc := cX8_lay) (maxL := 6) (by decide) rfl (Nat.le_of_ble_eq_true rfl) ?_
  intro p e s m below meth c A H locs Q hx hb hml hown hts hr hlocks hmn hA hP hK hD hS ls hl hQ
  have hl : lv_has ls 6 [(0, .ref (ad 150)), (1, .int k), (2, .int a), (3, .int b), (4, .long z)] := hl
  have fl44 := hts (.fieldLink RX8 44 "SlopeRunner$Tape" "size" "I") (List.mem_of_getElem? (i := 1) rfl)
  have inX8 : ∀ w ∈ wsX80, w ∈ v_kb_lay := (fun w h => List.mem_cons_of_mem _ (List.mem_append_right _ (List.mem_append_right _ (List.mem_append_right _ h))))
  have kk_1359 : (1359 : Int32).toInt = 1359 := rfl
  have kk_0 : (0 : Int32).toInt = 0 := rfl
  have fl15 := hts (.fieldLink RX8 15 "SlopeRunner$Tape" "kind" "[I") (List.mem_of_getElem? (i := 2) rfl)
  have fl19 := hts (.fieldLink RX8 19 "SlopeRunner$Tape" "left" "[I") (List.mem_of_getElem? (i := 3) rfl)
  have fl22 := hts (.fieldLink RX8 22 "SlopeRunner$Tape" "right" "[I") (List.mem_of_getElem? (i := 4) rfl)
  have fl11 := hts (.fieldLink RX8 11 "SlopeRunner$Tape" "value" "[J") (List.mem_of_getElem? (i := 5) rfl)
  have kk_1 : (1 : Int32).toInt = 1 := rfl
  have fl47 := hts (.fieldLink RX8 47 "SlopeRunner$Tape" "steps" "I") (List.mem_of_getElem? (i := 6) rfl)
  refine lv_aload_n hx hb dX8_lay_0 rfl (lv_at hl 0 rfl) ?_
  refine va_get (D := D) (ci := 7) (v := .int (σ.1 159)) (C := RX8) (T := TX8) (N := 13) hx hb hts inX8 hown hK hP 0 tqw_o0 rfl 8 (by decide) fl44 (fun _ h9 => h9) rfl dX8_lay_1 ?_
  refine lv_sipush (v := 1359) hx hb dX8_lay_4 (by decide) ?_
  refine lv_icmp_ge (tgt := 26) hx hb dX8_lay_7 (by decide) (fun c_1 => ?_) (fun c_1 => ?_)
  · have kc_1 : (σ.1 159).toInt ≥ 1359 := by have h9 := c_1; simp only [ge_iff_le, gt_iff_lt, x_lt, x_le, x_eq, ne_eq, Int32.not_lt, Int32.not_le] at h9; simp only [Int32.reduceToInt] at h9; omega
    refine lv_aload_n hx hb dX8_lay_26 rfl (lv_at hl 0 rfl) ?_
    refine x_calliW (va_runV (As := []) (rest := []) ⟨hx, hb, hml, hown, hts⟩ (kb_zeroAt l D y H.size ad σ ) (cwV 0 hts g_kb_lay_0 rfl rfl rfl (by decide +kernel) ⟨Nat.le_of_ble_eq_true rfl, Nat.le_of_ble_eq_true rfl⟩) (x_preV (q := (RX8, TX8, 13)) hK hP hD (ci := 7) (q0 := 0) rfl tqw_o0) rfl rfl hl.1 rfl (lv_room (Nat.le_of_ble_eq_true rfl)) dX8_lay_27 ⟨Nat.le_of_ble_eq_true rfl, Nat.le_of_ble_eq_true rfl⟩) hP hD hS hA (fun r_2 u H locs hw hP hD hS => ?_)
    try dsimp only at hw
    have hP : va_P D vwCl (tqw y ad σ) H := hP
    have hD : va_D A (tqw y ad σ) := hD
    replace hw : r_2 = (σ.1 157) := hw
    have hP : va_P D vwCl (tqw y ad (sI (sI (tJ (tI (tI (tI σ 152 (σ.2.2.1 152)) 153 (σ.2.2.1 153)) 154 (σ.2.2.1 154)) 151 (σ.2.2.2 151)) 159 (σ.1 159)) 160 (σ.1 160))) H := hP
    have hD : va_D A (tqw y ad (sI (sI (tJ (tI (tI (tI σ 152 (σ.2.2.1 152)) 153 (σ.2.2.1 153)) 154 (σ.2.2.1 154)) 151 (σ.2.2.2 151)) 159 (σ.1 159)) 160 (σ.1 160))) := hD
    exact x_iretW (v := r_2) (u := ((σ.2.2.1 152), (σ.2.2.1 153), (σ.2.2.1 154), (σ.2.2.2 151), (σ.1 159), (σ.1 160))) hx hb hr hQ (by (try dsimp only); exact ⟨⟨by omega, by omega⟩, hB153, hB154⟩) hP hD hK hS dX8_lay_30 hlocks
  · have kc_1 : (σ.1 159).toInt < 1359 := by have h9 := c_1; simp only [ge_iff_le, gt_iff_lt, x_lt, x_le, x_eq, ne_eq, Int32.not_lt, Int32.not_le] at h9; simp only [Int32.reduceToInt] at h9; omega
    refine lv_aload_n hx hb dX8_lay_10 rfl (lv_at hl 0 rfl) ?_
    refine lv_iload_n hx hb dX8_lay_11 rfl (lv_at hl 2 rfl) ?_
    refine x_calliW (va_runV (As := [.int a]) (rest := []) ⟨hx, hb, hml, hown, hts⟩ (kb_holds l D y H.size ad σ a) (cwV 1 hts g_kb_lay_1 rfl rfl rfl (by decide +kernel) ⟨Nat.le_of_ble_eq_true rfl, Nat.le_of_ble_eq_true rfl⟩) (x_preV (q := (RX8, TX8, 13)) hK hP hD (ci := 7) (q0 := 0) rfl tqw_o0) rfl rfl hl.1 rfl (lv_room (Nat.le_of_ble_eq_true rfl)) dX8_lay_12 ⟨Nat.le_of_ble_eq_true rfl, Nat.le_of_ble_eq_true rfl⟩) hP hD hS hA (fun r_3 u H locs hw hP hD hS => ?_)
    try dsimp only at hw
    have hP : va_P D vwCl (tqw y ad σ) H := hP
    have hD : va_D A (tqw y ad σ) := hD
    replace hw : (r_3.toInt = 1 ∧ 0 ≤ a.toInt ∧ a.toInt < ((σ.1 159)).toInt) ∨ r_3.toInt = 0 := hw
    have hh15 := hw
    refine lv_if_eq (tgt := 26) hx hb dX8_lay_15 (by decide) (fun c_4 => ?_) (fun c_4 => ?_)
    · have kc_4 : r_3.toInt = 0 := by have h9 := c_4; simp only [ge_iff_le, gt_iff_lt, x_lt, x_le, x_eq, ne_eq, Int32.not_lt, Int32.not_le] at h9; simp only [Int32.reduceToInt] at h9; omega
      refine lv_aload_n hx hb dX8_lay_26 rfl (lv_at hl 0 rfl) ?_
      refine x_calliW (va_runV (As := []) (rest := []) ⟨hx, hb, hml, hown, hts⟩ (kb_zeroAt l D y H.size ad σ ) (cwV 0 hts g_kb_lay_0 rfl rfl rfl (by decide +kernel) ⟨Nat.le_of_ble_eq_true rfl, Nat.le_of_ble_eq_true rfl⟩) (x_preV (q := (RX8, TX8, 13)) hK hP hD (ci := 7) (q0 := 0) rfl tqw_o0) rfl rfl hl.1 rfl (lv_room (Nat.le_of_ble_eq_true rfl)) dX8_lay_27 ⟨Nat.le_of_ble_eq_true rfl, Nat.le_of_ble_eq_true rfl⟩) hP hD hS hA (fun r_5 u H locs hw hP hD hS => ?_)
      try dsimp only at hw
      have hP : va_P D vwCl (tqw y ad σ) H := hP
      have hD : va_D A (tqw y ad σ) := hD
      replace hw : r_5 = (σ.1 157) := hw
      have hP : va_P D vwCl (tqw y ad (sI (sI (tJ (tI (tI (tI σ 152 (σ.2.2.1 152)) 153 (σ.2.2.1 153)) 154 (σ.2.2.1 154)) 151 (σ.2.2.2 151)) 159 (σ.1 159)) 160 (σ.1 160))) H := hP
      have hD : va_D A (tqw y ad (sI (sI (tJ (tI (tI (tI σ 152 (σ.2.2.1 152)) 153 (σ.2.2.1 153)) 154 (σ.2.2.1 154)) 151 (σ.2.2.2 151)) 159 (σ.1 159)) 160 (σ.1 160))) := hD
      exact x_iretW (v := r_5) (u := ((σ.2.2.1 152), (σ.2.2.1 153), (σ.2.2.1 154), (σ.2.2.2 151), (σ.1 159), (σ.1 160))) hx hb hr hQ (by (try dsimp only); exact ⟨⟨by omega, by omega⟩, hB153, hB154⟩) hP hD hK hS dX8_lay_30 hlocks
    · have kc_4 : r_3.toInt ≠ 0 := by have h9 := c_4; simp only [ge_iff_le, gt_iff_lt, x_lt, x_le, x_eq, ne_eq, Int32.not_lt, Int32.not_le] at h9; simp only [Int32.reduceToInt] at h9; omega
      refine lv_aload_n hx hb dX8_lay_18 rfl (lv_at hl 0 rfl) ?_
      refine lv_iload_n hx hb dX8_lay_19 rfl (lv_at hl 3 rfl) ?_
      refine x_calliW (va_runV (As := [.int b]) (rest := []) ⟨hx, hb, hml, hown, hts⟩ (kb_holds l D y H.size ad σ b) (cwV 1 hts g_kb_lay_1 rfl rfl rfl (by decide +kernel) ⟨Nat.le_of_ble_eq_true rfl, Nat.le_of_ble_eq_true rfl⟩) (x_preV (q := (RX8, TX8, 13)) hK hP hD (ci := 7) (q0 := 0) rfl tqw_o0) rfl rfl hl.1 rfl (lv_room (Nat.le_of_ble_eq_true rfl)) dX8_lay_20 ⟨Nat.le_of_ble_eq_true rfl, Nat.le_of_ble_eq_true rfl⟩) hP hD hS hA (fun r_6 u H locs hw hP hD hS => ?_)
      try dsimp only at hw
      have hP : va_P D vwCl (tqw y ad σ) H := hP
      have hD : va_D A (tqw y ad σ) := hD
      replace hw : (r_6.toInt = 1 ∧ 0 ≤ b.toInt ∧ b.toInt < ((σ.1 159)).toInt) ∨ r_6.toInt = 0 := hw
      have hh23 := hw
      refine lv_if_ne (tgt := 31) hx hb dX8_lay_23 (by decide) (fun c_7 => ?_) (fun c_7 => ?_)
      · have kc_7 : r_6.toInt ≠ 0 := by have h9 := c_7; simp only [ge_iff_le, gt_iff_lt, x_lt, x_le, x_eq, ne_eq, Int32.not_lt, Int32.not_le] at h9; simp only [Int32.reduceToInt] at h9; omega
        refine lv_aload_n hx hb dX8_lay_31 rfl (lv_at hl 0 rfl) ?_
        refine va_get (D := D) (ci := 7) (v := .ref (ad 152)) (C := RX8) (T := TX8) (N := 13) hx hb hts inX8 hown hK hP 0 tqw_o0 rfl 1 (by decide) fl15 (fun _ h9 => h9) rfl dX8_lay_32 ?_
        refine lv_aload_n hx hb dX8_lay_35 rfl (lv_at hl 0 rfl) ?_
        refine va_get (D := D) (ci := 7) (v := .int (σ.1 159)) (C := RX8) (T := TX8) (N := 13) hx hb hts inX8 hown hK hP 0 tqw_o0 rfl 8 (by decide) fl44 (fun _ h9 => h9) rfl dX8_lay_36 ?_
        refine lv_iload_n hx hb dX8_lay_39 rfl (lv_at hl 1 rfl) ?_
        refine va_iast hx hb hK hP hD hS 2 2 tqw_a2 rfl (x_in (by omega) (by omega)) dX8_lay_40 (fun H locs hP hD hS => ?_)
        obtain ⟨f_8, ef_8⟩ : ∃ z9 : Nat → Int32, z9 = (upd (σ.2.2.1 152) (Int32.toNatClampNeg (σ.1 159)) k) := ⟨_, rfl⟩
        have hP : va_P D vwCl (tqw y ad (tI σ 152 f_8)) H := by rw [ef_8]; exact x_trP hP tqw_s2
        have hD : va_D A (tqw y ad (tI σ 152 f_8)) := by rw [ef_8]; exact x_trD hD tqw_s2
        refine lv_aload_n hx hb dX8_lay_41 rfl (lv_at hl 0 rfl) ?_
        refine va_get (D := D) (ci := 7) (v := .ref (ad 153)) (C := RX8) (T := TX8) (N := 13) hx hb hts inX8 hown hK hP 0 tqw_o0 rfl 2 (by decide) fl19 (fun _ h9 => h9) rfl dX8_lay_42 ?_
        refine lv_aload_n hx hb dX8_lay_45 rfl (lv_at hl 0 rfl) ?_
        refine va_get (D := D) (ci := 7) (v := .int (σ.1 159)) (C := RX8) (T := TX8) (N := 13) hx hb hts inX8 hown hK hP 0 tqw_o0 rfl 8 (by decide) fl44 (fun _ h9 => h9) rfl dX8_lay_46 ?_
        refine lv_iload_n hx hb dX8_lay_49 rfl (lv_at hl 2 rfl) ?_
        refine va_iast hx hb hK hP hD hS 3 2 tqw_a3 rfl (x_in (by omega) (by omega)) dX8_lay_50 (fun H locs hP hD hS => ?_)
        obtain ⟨f_9, ef_9⟩ : ∃ z9 : Nat → Int32, z9 = (upd (σ.2.2.1 153) (Int32.toNatClampNeg (σ.1 159)) a) := ⟨_, rfl⟩
        have hP : va_P D vwCl (tqw y ad (tI (tI σ 152 f_8) 153 f_9)) H := by rw [ef_9]; exact x_trP hP tqw_s3
        have hD : va_D A (tqw y ad (tI (tI σ 152 f_8) 153 f_9)) := by rw [ef_9]; exact x_trD hD tqw_s3
        have hvf_9 : bI f_9 0 1358 := by rw [ef_9]; exact b_upd hB153 (by omega) (by omega)
        refine lv_aload_n hx hb dX8_lay_51 rfl (lv_at hl 0 rfl) ?_
        refine va_get (D := D) (ci := 7) (v := .ref (ad 154)) (C := RX8) (T := TX8) (N := 13) hx hb hts inX8 hown hK hP 0 tqw_o0 rfl 3 (by decide) fl22 (fun _ h9 => h9) rfl dX8_lay_52 ?_
        refine lv_aload_n hx hb dX8_lay_55 rfl (lv_at hl 0 rfl) ?_
        refine va_get (D := D) (ci := 7) (v := .int (σ.1 159)) (C := RX8) (T := TX8) (N := 13) hx hb hts inX8 hown hK hP 0 tqw_o0 rfl 8 (by decide) fl44 (fun _ h9 => h9) rfl dX8_lay_56 ?_
        refine lv_iload_n hx hb dX8_lay_59 rfl (lv_at hl 3 rfl) ?_
        refine va_iast hx hb hK hP hD hS 4 2 tqw_a4 rfl (x_in (by omega) (by omega)) dX8_lay_60 (fun H locs hP hD hS => ?_)
        obtain ⟨f_10, ef_10⟩ : ∃ z9 : Nat → Int32, z9 = (upd (σ.2.2.1 154) (Int32.toNatClampNeg (σ.1 159)) b) := ⟨_, rfl⟩
        have hP : va_P D vwCl (tqw y ad (tI (tI (tI σ 152 f_8) 153 f_9) 154 f_10)) H := by rw [ef_10]; exact x_trP hP tqw_s4
        have hD : va_D A (tqw y ad (tI (tI (tI σ 152 f_8) 153 f_9) 154 f_10)) := by rw [ef_10]; exact x_trD hD tqw_s4
        have hvf_10 : bI f_10 0 1358 := by rw [ef_10]; exact b_upd hB154 (by omega) (by omega)
        refine lv_aload_n hx hb dX8_lay_61 rfl (lv_at hl 0 rfl) ?_
        refine va_get (D := D) (ci := 7) (v := .ref (ad 151)) (C := RX8) (T := TX8) (N := 13) hx hb hts inX8 hown hK hP 0 tqw_o0 rfl 0 (by decide) fl11 (fun _ h9 => h9) rfl dX8_lay_62 ?_
        refine lv_aload_n hx hb dX8_lay_65 rfl (lv_at hl 0 rfl) ?_
        refine va_get (D := D) (ci := 7) (v := .int (σ.1 159)) (C := RX8) (T := TX8) (N := 13) hx hb hts inX8 hown hK hP 0 tqw_o0 rfl 8 (by decide) fl44 (fun _ h9 => h9) rfl dX8_lay_66 ?_
        refine lv_lload hx hb dX8_lay_69 (lv_at hl 4 rfl) ?_
        refine va_last hx hb hK hP hD hS 1 3 tqw_a1 rfl (x_in (by omega) (by omega)) dX8_lay_71 (fun H locs hP hD hS => ?_)
        obtain ⟨f_11, ef_11⟩ : ∃ z9 : Nat → Int64, z9 = (vp_updL (σ.2.2.2 151) (Int32.toNatClampNeg (σ.1 159)) z) := ⟨_, rfl⟩
        have hP : va_P D vwCl (tqw y ad (tJ (tI (tI (tI σ 152 f_8) 153 f_9) 154 f_10) 151 f_11)) H := by rw [ef_11]; exact x_trP hP tqw_s1
        have hD : va_D A (tqw y ad (tJ (tI (tI (tI σ 152 f_8) 153 f_9) 154 f_10) 151 f_11)) := by rw [ef_11]; exact x_trD hD tqw_s1
        refine lv_aload_n hx hb dX8_lay_72 rfl (lv_at hl 0 rfl) ?_
        refine lv_dup hx hb dX8_lay_73 rfl ?_
        refine va_get (D := D) (ci := 7) (v := .int (σ.1 159)) (C := RX8) (T := TX8) (N := 13) hx hb hts inX8 hown hK hP 0 tqw_o0 rfl 8 (by decide) fl44 (fun _ h9 => h9) rfl dX8_lay_74 ?_
        refine lv_iconst (v := 1) hx hb dX8_lay_77 (by decide) ?_
        refine lv_iadd hx hb dX8_lay_78 ?_
        refine lv_topi (fun i_12 ei_12 => ?_)
        have vi_12 : i_12.toInt = (σ.1 159).toInt + 1 := by have h9 := x_add ei_12 (by omega) (by omega); omega
        refine va_put (D := D) (ci := 7) (v := .int i_12) (ty := .int) (C := RX8) (T := TX8) (N := 13) hx hb hts inX8 tyX8 tyX8_ok nmX8 hown hK hP hD hS 0 tqw_o0 rfl 8 (by decide) fl44 (fun _ h9 => h9) rfl (by decide +kernel) rfl rfl (Nat.le_of_ble_eq_true rfl) dX8_lay_79 (fun H locs hP hD hS => ?_)
        have hP : va_P D vwCl (tqw y ad (sI (tJ (tI (tI (tI σ 152 f_8) 153 f_9) 154 f_10) 151 f_11) 159 i_12)) H := x_trP hP tqw_p0_8
        have hD : va_D A (tqw y ad (sI (tJ (tI (tI (tI σ 152 f_8) 153 f_9) 154 f_10) 151 f_11) 159 i_12)) := x_trD hD tqw_p0_8
        refine lv_aload_n hx hb dX8_lay_82 rfl (lv_at hl 0 rfl) ?_
        refine lv_dup hx hb dX8_lay_83 rfl ?_
        refine va_get (D := D) (ci := 7) (v := .int (σ.1 160)) (C := RX8) (T := TX8) (N := 13) hx hb hts inX8 hown hK hP 0 tqw_o0 rfl 9 (by decide) fl47 (fun _ h9 => h9) rfl dX8_lay_84 ?_
        refine lv_iconst (v := 1) hx hb dX8_lay_87 (by decide) ?_
        refine lv_iadd hx hb dX8_lay_88 ?_
        refine lv_topi (fun i_13 ei_13 => ?_)
        refine va_put (D := D) (ci := 7) (v := .int i_13) (ty := .int) (C := RX8) (T := TX8) (N := 13) hx hb hts inX8 tyX8 tyX8_ok nmX8 hown hK hP hD hS 0 tqw_o0 rfl 9 (by decide) fl47 (fun _ h9 => h9) rfl (by decide +kernel) rfl rfl (Nat.le_of_ble_eq_true rfl) dX8_lay_89 (fun H locs hP hD hS => ?_)
        have hP : va_P D vwCl (tqw y ad (sI (sI (tJ (tI (tI (tI σ 152 f_8) 153 f_9) 154 f_10) 151 f_11) 159 i_12) 160 i_13)) H := x_trP hP tqw_p0_9
        have hD : va_D A (tqw y ad (sI (sI (tJ (tI (tI (tI σ 152 f_8) 153 f_9) 154 f_10) 151 f_11) 159 i_12) 160 i_13)) := x_trD hD tqw_p0_9
        refine lv_aload_n hx hb dX8_lay_92 rfl (lv_at hl 0 rfl) ?_
        refine va_get (D := D) (ci := 7) (v := .int i_12) (C := RX8) (T := TX8) (N := 13) hx hb hts inX8 hown hK hP 0 tqw_o0 rfl 8 (by decide) fl44 (fun _ h9 => h9) rfl dX8_lay_93 ?_
        refine lv_iconst (v := 1) hx hb dX8_lay_96 (by decide) ?_
        refine lv_isub hx hb dX8_lay_97 ?_
        refine lv_topi (fun i_14 ei_14 => ?_)
        exact x_iretW (v := i_14) (u := (f_8, f_9, f_10, f_11, i_12, i_13)) hx hb hr hQ (by (try dsimp only); exact ⟨⟨by omega, by omega⟩, hvf_9, hvf_10⟩) hP hD hK hS dX8_lay_98 hlocks
      · have kc_7 : r_6.toInt = 0 := by have h9 := c_7; simp only [ge_iff_le, gt_iff_lt, x_lt, x_le, x_eq, ne_eq, Int32.not_lt, Int32.not_le] at h9; simp only [Int32.reduceToInt] at h9; omega
        refine lv_aload_n hx hb dX8_lay_26 rfl (lv_at hl 0 rfl) ?_
        refine x_calliW (va_runV (As := []) (rest := []) ⟨hx, hb, hml, hown, hts⟩ (kb_zeroAt l D y H.size ad σ ) (cwV 0 hts g_kb_lay_0 rfl rfl rfl (by decide +kernel) ⟨Nat.le_of_ble_eq_true rfl, Nat.le_of_ble_eq_true rfl⟩) (x_preV (q := (RX8, TX8, 13)) hK hP hD (ci := 7) (q0 := 0) rfl tqw_o0) rfl rfl hl.1 rfl (lv_room (Nat.le_of_ble_eq_true rfl)) dX8_lay_27 ⟨Nat.le_of_ble_eq_true rfl, Nat.le_of_ble_eq_true rfl⟩) hP hD hS hA (fun r_15 u H locs hw hP hD hS => ?_)
        try dsimp only at hw
        have hP : va_P D vwCl (tqw y ad σ) H := hP
        have hD : va_D A (tqw y ad σ) := hD
        replace hw : r_15 = (σ.1 157) := hw
        have hP : va_P D vwCl (tqw y ad (sI (sI (tJ (tI (tI (tI σ 152 (σ.2.2.1 152)) 153 (σ.2.2.1 153)) 154 (σ.2.2.1 154)) 151 (σ.2.2.2 151)) 159 (σ.1 159)) 160 (σ.1 160))) H := hP
        have hD : va_D A (tqw y ad (sI (sI (tJ (tI (tI (tI σ 152 (σ.2.2.1 152)) 153 (σ.2.2.1 153)) 154 (σ.2.2.1 154)) 151 (σ.2.2.2 151)) 159 (σ.1 159)) 160 (σ.1 160))) := hD
        exact x_iretW (v := r_15) (u := ((σ.2.2.1 152), (σ.2.2.1 153), (σ.2.2.1 154), (σ.2.2.2 151), (σ.1 159), (σ.1 160))) hx hb hr hQ (by (try dsimp only); exact ⟨⟨by omega, by omega⟩, hB153, hB154⟩) hP hD hK hS dX8_lay_30 hlocks

def v_kb_giveOut : List Cond := .code yX8_giveOut cX8_giveOut 2 (some .boolean) :: ([.fieldLink RX8 50 "SlopeRunner$Tape" "results" "I", .fieldLink RX8 25 "SlopeRunner$Tape" "given" "[I"] ++ ((wsV RX8 84 RX8 yX8_holds v_kb_holds) ++ wsX80))
theorem g_kb_giveOut_0 : GoodIn v_kb_giveOut (wsV RX8 84 RX8 yX8_holds v_kb_holds) := goodIn_sub (fun w h => List.mem_cons_of_mem _ (List.mem_append_right _ (List.mem_append_left _ h))) (by decide +kernel)
set_option maxHeartbeats 4000000 in
set_option maxRecDepth 100000 in
theorem kb_giveOut (l : Launch) (D : va_G) (y : Nat → ClassId) (sz : Nat) (ad : Nat → Nat) (σ : OS) (q : Int32) (hsz0 : 0 ≤ (σ.1 159).toInt) (hsz1 : (σ.1 159).toInt ≤ 1359) (hrs0 : 0 ≤ (σ.1 161).toInt) (hrs1 : (σ.1 161).toInt ≤ 12)  (hB155 : bI (σ.2.2.1 155) 0 1358) : Met l yX8_giveOut v_kb_giveOut ({ frames := 1, cells := 0, slots := 0, locals := 21 } : Room) (va_Pc [.ref (ad 150), .int q] (xPre D (xT y) (tqw y ad σ) sz)) (va_Qi (fun (r : Int32) (u : (Nat → Int32) × Int32) => (0 ≤ u.2.toInt ∧ u.2.toInt ≤ 12 ∧ (r.toInt = 0 ∨ r.toInt = 1)) ∧ bI u.1 0 1358) (fun (u : (Nat → Int32) × Int32) => xB D (xT y) (va_A (tqw y ad σ) sz) (tqw y ad (sI (tI σ 155 u.1) 161 u.2))) (va_A (tqw y ad σ) sz)) 0 0 (va_A (tqw y ad σ) sz) := by
  refine x_meti (cc := cX8_giveOut) (maxL := 2) (by decide) rfl (Nat.le_of_ble_eq_true rfl) ?_
  intro p e s m below meth c A H locs Q hx hb hml hown hts hr hlocks hmn hA hP hK hD hS ls hl hQ
  have hl : lv_has ls 2 [(0, .ref (ad 150)), (1, .int q)] := hl
  have fl50 := hts (.fieldLink RX8 50 "SlopeRunner$Tape" "results" "I") (List.mem_of_getElem? (i := 1) rfl)
  have inX8 : ∀ w ∈ wsX80, w ∈ v_kb_giveOut := (fun w h => List.mem_cons_of_mem _ (List.mem_append_right _ (List.mem_append_right _ h)))
  have kk_12 : (12 : Int32).toInt = 12 := rfl
  have kk_0 : (0 : Int32).toInt = 0 := rfl
  have fl25 := hts (.fieldLink RX8 25 "SlopeRunner$Tape" "given" "[I") (List.mem_of_getElem? (i := 2) rfl)
  have kk_1 : (1 : Int32).toInt = 1 := rfl
  refine lv_aload_n hx hb dX8_giveOut_0 rfl (lv_at hl 0 rfl) ?_
  refine va_get (D := D) (ci := 7) (v := .int (σ.1 161)) (C := RX8) (T := TX8) (N := 13) hx hb hts inX8 hown hK hP 0 tqw_o0 rfl 10 (by decide) fl50 (fun _ h9 => h9) rfl dX8_giveOut_1 ?_
  refine lv_bipush (v := 12) hx hb dX8_giveOut_4 (by decide) ?_
  refine lv_icmp_ge (tgt := 17) hx hb dX8_giveOut_6 (by decide) (fun c_1 => ?_) (fun c_1 => ?_)
  · have kc_1 : (σ.1 161).toInt ≥ 12 := by have h9 := c_1; simp only [ge_iff_le, gt_iff_lt, x_lt, x_le, x_eq, ne_eq, Int32.not_lt, Int32.not_le] at h9; simp only [Int32.reduceToInt] at h9; omega
    refine lv_iconst (v := 0) hx hb dX8_giveOut_17 (by decide) ?_
    have hP : va_P D vwCl (tqw y ad (sI (tI σ 155 (σ.2.2.1 155)) 161 (σ.1 161))) H := hP
    have hD : va_D A (tqw y ad (sI (tI σ 155 (σ.2.2.1 155)) 161 (σ.1 161))) := hD
    exact x_zretW (v := 0) (u := ((σ.2.2.1 155), (σ.1 161))) hx hb hr hQ rfl (by (try dsimp only); exact ⟨⟨by omega, by omega, by omega⟩, hB155⟩) hP hD hK hS dX8_giveOut_18 hlocks
  · have kc_1 : (σ.1 161).toInt < 12 := by have h9 := c_1; simp only [ge_iff_le, gt_iff_lt, x_lt, x_le, x_eq, ne_eq, Int32.not_lt, Int32.not_le] at h9; simp only [Int32.reduceToInt] at h9; omega
    refine lv_aload_n hx hb dX8_giveOut_9 rfl (lv_at hl 0 rfl) ?_
    refine lv_iload_n hx hb dX8_giveOut_10 rfl (lv_at hl 1 rfl) ?_
    refine x_calliW (va_runV (As := [.int q]) (rest := []) ⟨hx, hb, hml, hown, hts⟩ (kb_holds l D y H.size ad σ q) (cwV 1 hts g_kb_giveOut_0 rfl rfl rfl (by decide +kernel) ⟨Nat.le_of_ble_eq_true rfl, Nat.le_of_ble_eq_true rfl⟩) (x_preV (q := (RX8, TX8, 13)) hK hP hD (ci := 7) (q0 := 0) rfl tqw_o0) rfl rfl hl.1 rfl (lv_room (Nat.le_of_ble_eq_true rfl)) dX8_giveOut_11 ⟨Nat.le_of_ble_eq_true rfl, Nat.le_of_ble_eq_true rfl⟩) hP hD hS hA (fun r_2 u H locs hw hP hD hS => ?_)
    try dsimp only at hw
    have hP : va_P D vwCl (tqw y ad σ) H := hP
    have hD : va_D A (tqw y ad σ) := hD
    replace hw : (r_2.toInt = 1 ∧ 0 ≤ q.toInt ∧ q.toInt < ((σ.1 159)).toInt) ∨ r_2.toInt = 0 := hw
    refine lv_if_ne (tgt := 19) hx hb dX8_giveOut_14 (by decide) (fun c_3 => ?_) (fun c_3 => ?_)
    · have kc_3 : r_2.toInt ≠ 0 := by have h9 := c_3; simp only [ge_iff_le, gt_iff_lt, x_lt, x_le, x_eq, ne_eq, Int32.not_lt, Int32.not_le] at h9; simp only [Int32.reduceToInt] at h9; omega
      refine lv_aload_n hx hb dX8_giveOut_19 rfl (lv_at hl 0 rfl) ?_
      refine va_get (D := D) (ci := 7) (v := .ref (ad 155)) (C := RX8) (T := TX8) (N := 13) hx hb hts inX8 hown hK hP 0 tqw_o0 rfl 4 (by decide) fl25 (fun _ h9 => h9) rfl dX8_giveOut_20 ?_
      refine lv_aload_n hx hb dX8_giveOut_23 rfl (lv_at hl 0 rfl) ?_
      refine va_get (D := D) (ci := 7) (v := .int (σ.1 161)) (C := RX8) (T := TX8) (N := 13) hx hb hts inX8 hown hK hP 0 tqw_o0 rfl 10 (by decide) fl50 (fun _ h9 => h9) rfl dX8_giveOut_24 ?_
      refine lv_iload_n hx hb dX8_giveOut_27 rfl (lv_at hl 1 rfl) ?_
      refine va_iast hx hb hK hP hD hS 5 2 tqw_a5 rfl (x_in (by omega) (by omega)) dX8_giveOut_28 (fun H locs hP hD hS => ?_)
      obtain ⟨f_4, ef_4⟩ : ∃ z9 : Nat → Int32, z9 = (upd (σ.2.2.1 155) (Int32.toNatClampNeg (σ.1 161)) q) := ⟨_, rfl⟩
      have hP : va_P D vwCl (tqw y ad (tI σ 155 f_4)) H := by rw [ef_4]; exact x_trP hP tqw_s5
      have hD : va_D A (tqw y ad (tI σ 155 f_4)) := by rw [ef_4]; exact x_trD hD tqw_s5
      have hvf_4 : bI f_4 0 1358 := by rw [ef_4]; exact b_upd hB155 (by omega) (by omega)
      refine lv_aload_n hx hb dX8_giveOut_29 rfl (lv_at hl 0 rfl) ?_
      refine lv_dup hx hb dX8_giveOut_30 rfl ?_
      refine va_get (D := D) (ci := 7) (v := .int (σ.1 161)) (C := RX8) (T := TX8) (N := 13) hx hb hts inX8 hown hK hP 0 tqw_o0 rfl 10 (by decide) fl50 (fun _ h9 => h9) rfl dX8_giveOut_31 ?_
      refine lv_iconst (v := 1) hx hb dX8_giveOut_34 (by decide) ?_
      refine lv_iadd hx hb dX8_giveOut_35 ?_
      refine lv_topi (fun i_5 ei_5 => ?_)
      have vi_5 : i_5.toInt = (σ.1 161).toInt + 1 := by have h9 := x_add ei_5 (by omega) (by omega); omega
      refine va_put (D := D) (ci := 7) (v := .int i_5) (ty := .int) (C := RX8) (T := TX8) (N := 13) hx hb hts inX8 tyX8 tyX8_ok nmX8 hown hK hP hD hS 0 tqw_o0 rfl 10 (by decide) fl50 (fun _ h9 => h9) rfl (by decide +kernel) rfl rfl (Nat.le_of_ble_eq_true rfl) dX8_giveOut_36 (fun H locs hP hD hS => ?_)
      have hP : va_P D vwCl (tqw y ad (sI (tI σ 155 f_4) 161 i_5)) H := x_trP hP tqw_p0_10
      have hD : va_D A (tqw y ad (sI (tI σ 155 f_4) 161 i_5)) := x_trD hD tqw_p0_10
      refine lv_iconst (v := 1) hx hb dX8_giveOut_39 (by decide) ?_
      exact x_zretW (v := 1) (u := (f_4, i_5)) hx hb hr hQ rfl (by (try dsimp only); exact ⟨⟨by omega, by omega, by omega⟩, hvf_4⟩) hP hD hK hS dX8_giveOut_40 hlocks
    · have kc_3 : r_2.toInt = 0 := by have h9 := c_3; simp only [ge_iff_le, gt_iff_lt, x_lt, x_le, x_eq, ne_eq, Int32.not_lt, Int32.not_le] at h9; simp only [Int32.reduceToInt] at h9; omega
      refine lv_iconst (v := 0) hx hb dX8_giveOut_17 (by decide) ?_
      have hP : va_P D vwCl (tqw y ad (sI (tI σ 155 (σ.2.2.1 155)) 161 (σ.1 161))) H := hP
      have hD : va_D A (tqw y ad (sI (tI σ 155 (σ.2.2.1 155)) 161 (σ.1 161))) := hD
      exact x_zretW (v := 0) (u := ((σ.2.2.1 155), (σ.1 161))) hx hb hr hQ rfl (by (try dsimp only); exact ⟨⟨by omega, by omega, by omega⟩, hB155⟩) hP hD hK hS dX8_giveOut_18 hlocks

def v_kb_meet : List Cond := .code yX8_meet cX8_meet 7 none :: ([.fieldLink RX8 34 "SlopeRunner$Tape" "nearest" "J", .fieldLink RX8 53 "SlopeRunner$Tape" "edges" "I"] ++ ((va_wsS RX8 87 yX0_minus v_k_minus) ++ ((va_wsS RX8 90 yX0_withoutSign v_k_withoutSign) ++ ((va_wsS RX8 94 yX0_compare v_k_compare) ++ wsX80))))
theorem g_kb_meet_0 : GoodIn v_kb_meet (va_wsS RX8 87 yX0_minus v_k_minus) := goodIn_sub (fun w h => List.mem_cons_of_mem _ (List.mem_append_right _ (List.mem_append_left _ h))) (by decide +kernel)
theorem g_kb_meet_1 : GoodIn v_kb_meet (va_wsS RX8 90 yX0_withoutSign v_k_withoutSign) := goodIn_sub (fun w h => List.mem_cons_of_mem _ (List.mem_append_right _ (List.mem_append_right _ (List.mem_append_left _ h)))) (by decide +kernel)
theorem g_kb_meet_2 : GoodIn v_kb_meet (va_wsS RX8 94 yX0_compare v_k_compare) := goodIn_sub (fun w h => List.mem_cons_of_mem _ (List.mem_append_right _ (List.mem_append_right _ (List.mem_append_right _ (List.mem_append_left _ h))))) (by decide +kernel)
set_option maxHeartbeats 4000000 in
set_option maxRecDepth 100000 in
theorem kb_meet (l : Launch) (D : va_G) (y : Nat → ClassId) (sz : Nat) (ad : Nat → Nat) (σ : OS) (x z : Int64) : Met l yX8_meet v_kb_meet ({ frames := 3, cells := 0, slots := 0, locals := 92 } : Room) (va_Pc [.ref (ad 150), .long x, .long z] (xPre D (xT y) (tqw y ad σ) sz)) (va_Qv (fun (u : Int32 × Int64) => True) (fun (u : Int32 × Int64) => xB D (xT y) (va_A (tqw y ad σ) sz) (tqw y ad (sJ (sI σ 162 u.1) 163 u.2))) (va_A (tqw y ad σ) sz)) 0 0 (va_A (tqw y ad σ) sz) := by
  refine x_metv (cc := cX8_meet) (maxL := 7) (by decide) rfl (Nat.le_of_ble_eq_true rfl) ?_
  intro p e s m below meth c A H locs Q hx hb hml hown hts hr hlocks hmn hA hP hK hD hS ls hl hQ
  have hl : lv_has ls 7 [(0, .ref (ad 150)), (1, .long x), (3, .long z)] := hl
  have fl34 := hts (.fieldLink RX8 34 "SlopeRunner$Tape" "nearest" "J") (List.mem_of_getElem? (i := 1) rfl)
  have inX8 : ∀ w ∈ wsX80, w ∈ v_kb_meet := (fun w h => List.mem_cons_of_mem _ (List.mem_append_right _ (List.mem_append_right _ (List.mem_append_right _ (List.mem_append_right _ h)))))
  have kk_0 : (0 : Int32).toInt = 0 := rfl
  have fl53 := hts (.fieldLink RX8 53 "SlopeRunner$Tape" "edges" "I") (List.mem_of_getElem? (i := 2) rfl)
  refine lv_lload_n hx hb dX8_meet_0 rfl (lv_at hl 1 rfl) ?_
  refine lv_lload_n hx hb dX8_meet_1 rfl (lv_at hl 2 rfl) ?_
  refine W.lcmp hx hb dX8_meet_2 ?_
  refine lv_if_ne (tgt := 16) hx hb dX8_meet_3 (by decide) (fun c_1 => ?_) (fun c_1 => ?_)
  · have kc_1 : x.toInt ≠ z.toInt := by have h9 := x_tri x z; (try simp only [Int64.reduceToInt] at h9); rcases h9 with ⟨g1, g2⟩ | ⟨g1, g2⟩ | ⟨g1, g2⟩ <;> first | omega | (exfalso; rw [g1] at c_1; revert c_1; decide)
    refine lv_lload_n hx hb dX8_meet_16 rfl (lv_at hl 1 rfl) ?_
    refine lv_lload_n hx hb dX8_meet_17 rfl (lv_at hl 2 rfl) ?_
    refine x_calllN (va_runS (As := [.long x, .long z]) (rest := []) ⟨hx, hb, hml, hown, hts⟩ (k_minus l D y H.size x z) (va_cwS 2 hts g_kb_meet_0 rfl rfl rfl (by decide +kernel) ⟨Nat.le_of_ble_eq_true rfl, Nat.le_of_ble_eq_true rfl⟩) (x_preS hK (x_nilP D H) (x_nilD A)) rfl rfl hl.1 rfl (lv_room (Nat.le_of_ble_eq_true rfl)) dX8_meet_18 ⟨Nat.le_of_ble_eq_true rfl, Nat.le_of_ble_eq_true rfl⟩) hP hD hS hA (fun r_2 u H locs hw hP hD hS => ?_)
    try dsimp only at hw
    refine x_calllN (va_runS (As := [.long r_2]) (rest := []) ⟨hx, hb, hml, hown, hts⟩ (k_withoutSign l D y H.size r_2) (va_cwS 1 hts g_kb_meet_1 rfl rfl rfl (by decide +kernel) ⟨Nat.le_of_ble_eq_true rfl, Nat.le_of_ble_eq_true rfl⟩) (x_preS hK (x_nilP D H) (x_nilD A)) rfl rfl hl.1 rfl (lv_room (Nat.le_of_ble_eq_true rfl)) dX8_meet_21 ⟨Nat.le_of_ble_eq_true rfl, Nat.le_of_ble_eq_true rfl⟩) hP hD hS hA (fun r_3 u H locs hw hP hD hS => ?_)
    try dsimp only at hw
    refine lv_lstore (lv' := [(5, .long r_3), (0, .ref (ad 150)), (1, .long x), (3, .long z)]) hx hb dX8_meet_24 hl (by decide) rfl (fun ls hl => ?_)
    refine lv_lload hx hb dX8_meet_26 (lv_at hl 0 rfl) ?_
    refine lv_lconst (v := 0) hx hb dX8_meet_28 (by decide) ?_
    refine W.lcmp hx hb dX8_meet_29 ?_
    refine lv_if_ne (tgt := 34) hx hb dX8_meet_30 (by decide) (fun c_4 => ?_) (fun c_4 => ?_)
    · have kc_4 : r_3.toInt ≠ 0 := by have h9 := x_tri r_3 (0 : Int64); (try simp only [Int64.reduceToInt] at h9); rcases h9 with ⟨g1, g2⟩ | ⟨g1, g2⟩ | ⟨g1, g2⟩ <;> first | omega | (exfalso; rw [g1] at c_4; revert c_4; decide)
      refine lv_aload_n hx hb dX8_meet_34 rfl (lv_at hl 1 rfl) ?_
      refine va_get (D := D) (ci := 7) (v := .long (σ.2.1 163)) (C := RX8) (T := TX8) (N := 13) hx hb hts inX8 hown hK hP 0 tqw_o0 rfl 12 (by decide) fl34 (fun _ h9 => h9) rfl dX8_meet_35 ?_
      refine lv_lconst (v := 0) hx hb dX8_meet_38 (by decide) ?_
      refine W.lcmp hx hb dX8_meet_39 ?_
      refine lv_if_eq (tgt := 55) hx hb dX8_meet_40 (by decide) (fun c_5 => ?_) (fun c_5 => ?_)
      · have kc_5 : (σ.2.1 163).toInt = 0 := by have h9 := x_tri (σ.2.1 163) (0 : Int64); (try simp only [Int64.reduceToInt] at h9); rcases h9 with ⟨g1, g2⟩ | ⟨g1, g2⟩ | ⟨g1, g2⟩ <;> first | omega | (exfalso; rw [g1] at c_5; revert c_5; decide)
        refine lv_aload_n hx hb dX8_meet_55 rfl (lv_at hl 1 rfl) ?_
        refine lv_lload hx hb dX8_meet_56 (lv_at hl 0 rfl) ?_
        refine va_put (D := D) (ci := 7) (v := .long r_3) (ty := .long) (C := RX8) (T := TX8) (N := 13) hx hb hts inX8 tyX8 tyX8_ok nmX8 hown hK hP hD hS 0 tqw_o0 rfl 12 (by decide) fl34 (fun _ h9 => h9) rfl (by decide +kernel) rfl rfl (Nat.le_of_ble_eq_true rfl) dX8_meet_58 (fun H locs hP hD hS => ?_)
        have hP : va_P D vwCl (tqw y ad (sJ σ 163 r_3)) H := x_trP hP tqw_p0_12
        have hD : va_D A (tqw y ad (sJ σ 163 r_3)) := x_trD hD tqw_p0_12
        have hP : va_P D vwCl (tqw y ad (sJ (sI σ 162 (σ.1 162)) 163 r_3)) H := hP
        have hD : va_D A (tqw y ad (sJ (sI σ 162 (σ.1 162)) 163 r_3)) := hD
        exact x_vretW (u := ((σ.1 162), r_3)) hx hb hr hQ trivial hP hD hK hS dX8_meet_61 hlocks
      · have kc_5 : (σ.2.1 163).toInt ≠ 0 := by have h9 := x_tri (σ.2.1 163) (0 : Int64); (try simp only [Int64.reduceToInt] at h9); rcases h9 with ⟨g1, g2⟩ | ⟨g1, g2⟩ | ⟨g1, g2⟩ <;> first | omega | (exfalso; rw [g1] at c_5; revert c_5; decide)
        refine lv_lload hx hb dX8_meet_43 (lv_at hl 0 rfl) ?_
        refine lv_aload_n hx hb dX8_meet_45 rfl (lv_at hl 1 rfl) ?_
        refine va_get (D := D) (ci := 7) (v := .long (σ.2.1 163)) (C := RX8) (T := TX8) (N := 13) hx hb hts inX8 hown hK hP 0 tqw_o0 rfl 12 (by decide) fl34 (fun _ h9 => h9) rfl dX8_meet_46 ?_
        refine x_calliN (va_runS (As := [.long r_3, .long (σ.2.1 163)]) (rest := []) ⟨hx, hb, hml, hown, hts⟩ (k_compare l D y H.size r_3 (σ.2.1 163)) (va_cwS 2 hts g_kb_meet_2 rfl rfl rfl (by decide +kernel) ⟨Nat.le_of_ble_eq_true rfl, Nat.le_of_ble_eq_true rfl⟩) (x_preS hK (x_nilP D H) (x_nilD A)) rfl rfl hl.1 rfl (lv_room (Nat.le_of_ble_eq_true rfl)) dX8_meet_49 ⟨Nat.le_of_ble_eq_true rfl, Nat.le_of_ble_eq_true rfl⟩) hP hD hS hA (fun r_6 u H locs hw hP hD hS => ?_)
        try dsimp only at hw
        refine lv_if_ge (tgt := 61) hx hb dX8_meet_52 (by decide) (fun c_7 => ?_) (fun c_7 => ?_)
        · have kc_7 : r_6.toInt ≥ 0 := by have h9 := c_7; simp only [ge_iff_le, gt_iff_lt, x_lt, x_le, x_eq, ne_eq, Int32.not_lt, Int32.not_le] at h9; simp only [Int32.reduceToInt] at h9; omega
          have hP : va_P D vwCl (tqw y ad (sJ (sI σ 162 (σ.1 162)) 163 (σ.2.1 163))) H := hP
          have hD : va_D A (tqw y ad (sJ (sI σ 162 (σ.1 162)) 163 (σ.2.1 163))) := hD
          exact x_vretW (u := ((σ.1 162), (σ.2.1 163))) hx hb hr hQ trivial hP hD hK hS dX8_meet_61 hlocks
        · have kc_7 : r_6.toInt < 0 := by have h9 := c_7; simp only [ge_iff_le, gt_iff_lt, x_lt, x_le, x_eq, ne_eq, Int32.not_lt, Int32.not_le] at h9; simp only [Int32.reduceToInt] at h9; omega
          refine lv_aload_n hx hb dX8_meet_55 rfl (lv_at hl 1 rfl) ?_
          refine lv_lload hx hb dX8_meet_56 (lv_at hl 0 rfl) ?_
          refine va_put (D := D) (ci := 7) (v := .long r_3) (ty := .long) (C := RX8) (T := TX8) (N := 13) hx hb hts inX8 tyX8 tyX8_ok nmX8 hown hK hP hD hS 0 tqw_o0 rfl 12 (by decide) fl34 (fun _ h9 => h9) rfl (by decide +kernel) rfl rfl (Nat.le_of_ble_eq_true rfl) dX8_meet_58 (fun H locs hP hD hS => ?_)
          have hP : va_P D vwCl (tqw y ad (sJ σ 163 r_3)) H := x_trP hP tqw_p0_12
          have hD : va_D A (tqw y ad (sJ σ 163 r_3)) := x_trD hD tqw_p0_12
          have hP : va_P D vwCl (tqw y ad (sJ (sI σ 162 (σ.1 162)) 163 r_3)) H := hP
          have hD : va_D A (tqw y ad (sJ (sI σ 162 (σ.1 162)) 163 r_3)) := hD
          exact x_vretW (u := ((σ.1 162), r_3)) hx hb hr hQ trivial hP hD hK hS dX8_meet_61 hlocks
    · have kc_4 : r_3.toInt = 0 := by have h9 := x_tri r_3 (0 : Int64); (try simp only [Int64.reduceToInt] at h9); rcases h9 with ⟨g1, g2⟩ | ⟨g1, g2⟩ | ⟨g1, g2⟩ <;> first | omega | (exfalso; rw [g1] at c_4; revert c_4; decide)
      have hP : va_P D vwCl (tqw y ad (sJ (sI σ 162 (σ.1 162)) 163 (σ.2.1 163))) H := hP
      have hD : va_D A (tqw y ad (sJ (sI σ 162 (σ.1 162)) 163 (σ.2.1 163))) := hD
      exact x_vretW (u := ((σ.1 162), (σ.2.1 163))) hx hb hr hQ trivial hP hD hK hS dX8_meet_33 hlocks
  · have kc_1 : x.toInt = z.toInt := by have h9 := x_tri x z; (try simp only [Int64.reduceToInt] at h9); rcases h9 with ⟨g1, g2⟩ | ⟨g1, g2⟩ | ⟨g1, g2⟩ <;> first | omega | (exfalso; rw [g1] at c_1; revert c_1; decide)
    refine lv_aload_n hx hb dX8_meet_6 rfl (lv_at hl 0 rfl) ?_
    refine lv_dup hx hb dX8_meet_7 rfl ?_
    refine va_get (D := D) (ci := 7) (v := .int (σ.1 162)) (C := RX8) (T := TX8) (N := 13) hx hb hts inX8 hown hK hP 0 tqw_o0 rfl 11 (by decide) fl53 (fun _ h9 => h9) rfl dX8_meet_8 ?_
    refine lv_iconst (v := 1) hx hb dX8_meet_11 (by decide) ?_
    refine lv_iadd hx hb dX8_meet_12 ?_
    refine lv_topi (fun i_8 ei_8 => ?_)
    refine va_put (D := D) (ci := 7) (v := .int i_8) (ty := .int) (C := RX8) (T := TX8) (N := 13) hx hb hts inX8 tyX8 tyX8_ok nmX8 hown hK hP hD hS 0 tqw_o0 rfl 11 (by decide) fl53 (fun _ h9 => h9) rfl (by decide +kernel) rfl rfl (Nat.le_of_ble_eq_true rfl) dX8_meet_13 (fun H locs hP hD hS => ?_)
    have hP : va_P D vwCl (tqw y ad (sI σ 162 i_8)) H := x_trP hP tqw_p0_11
    have hD : va_D A (tqw y ad (sI σ 162 i_8)) := x_trD hD tqw_p0_11
    refine lv_lload_n hx hb dX8_meet_16 rfl (lv_at hl 1 rfl) ?_
    refine lv_lload_n hx hb dX8_meet_17 rfl (lv_at hl 2 rfl) ?_
    refine x_calllN (va_runS (As := [.long x, .long z]) (rest := []) ⟨hx, hb, hml, hown, hts⟩ (k_minus l D y H.size x z) (va_cwS 2 hts g_kb_meet_0 rfl rfl rfl (by decide +kernel) ⟨Nat.le_of_ble_eq_true rfl, Nat.le_of_ble_eq_true rfl⟩) (x_preS hK (x_nilP D H) (x_nilD A)) rfl rfl hl.1 rfl (lv_room (Nat.le_of_ble_eq_true rfl)) dX8_meet_18 ⟨Nat.le_of_ble_eq_true rfl, Nat.le_of_ble_eq_true rfl⟩) hP hD hS hA (fun r_9 u H locs hw hP hD hS => ?_)
    try dsimp only at hw
    refine x_calllN (va_runS (As := [.long r_9]) (rest := []) ⟨hx, hb, hml, hown, hts⟩ (k_withoutSign l D y H.size r_9) (va_cwS 1 hts g_kb_meet_1 rfl rfl rfl (by decide +kernel) ⟨Nat.le_of_ble_eq_true rfl, Nat.le_of_ble_eq_true rfl⟩) (x_preS hK (x_nilP D H) (x_nilD A)) rfl rfl hl.1 rfl (lv_room (Nat.le_of_ble_eq_true rfl)) dX8_meet_21 ⟨Nat.le_of_ble_eq_true rfl, Nat.le_of_ble_eq_true rfl⟩) hP hD hS hA (fun r_10 u H locs hw hP hD hS => ?_)
    try dsimp only at hw
    refine lv_lstore (lv' := [(5, .long r_10), (0, .ref (ad 150)), (1, .long x), (3, .long z)]) hx hb dX8_meet_24 hl (by decide) rfl (fun ls hl => ?_)
    refine lv_lload hx hb dX8_meet_26 (lv_at hl 0 rfl) ?_
    refine lv_lconst (v := 0) hx hb dX8_meet_28 (by decide) ?_
    refine W.lcmp hx hb dX8_meet_29 ?_
    refine lv_if_ne (tgt := 34) hx hb dX8_meet_30 (by decide) (fun c_11 => ?_) (fun c_11 => ?_)
    · have kc_11 : r_10.toInt ≠ 0 := by have h9 := x_tri r_10 (0 : Int64); (try simp only [Int64.reduceToInt] at h9); rcases h9 with ⟨g1, g2⟩ | ⟨g1, g2⟩ | ⟨g1, g2⟩ <;> first | omega | (exfalso; rw [g1] at c_11; revert c_11; decide)
      refine lv_aload_n hx hb dX8_meet_34 rfl (lv_at hl 1 rfl) ?_
      refine va_get (D := D) (ci := 7) (v := .long (σ.2.1 163)) (C := RX8) (T := TX8) (N := 13) hx hb hts inX8 hown hK hP 0 tqw_o0 rfl 12 (by decide) fl34 (fun _ h9 => h9) rfl dX8_meet_35 ?_
      refine lv_lconst (v := 0) hx hb dX8_meet_38 (by decide) ?_
      refine W.lcmp hx hb dX8_meet_39 ?_
      refine lv_if_eq (tgt := 55) hx hb dX8_meet_40 (by decide) (fun c_12 => ?_) (fun c_12 => ?_)
      · have kc_12 : (σ.2.1 163).toInt = 0 := by have h9 := x_tri (σ.2.1 163) (0 : Int64); (try simp only [Int64.reduceToInt] at h9); rcases h9 with ⟨g1, g2⟩ | ⟨g1, g2⟩ | ⟨g1, g2⟩ <;> first | omega | (exfalso; rw [g1] at c_12; revert c_12; decide)
        refine lv_aload_n hx hb dX8_meet_55 rfl (lv_at hl 1 rfl) ?_
        refine lv_lload hx hb dX8_meet_56 (lv_at hl 0 rfl) ?_
        refine va_put (D := D) (ci := 7) (v := .long r_10) (ty := .long) (C := RX8) (T := TX8) (N := 13) hx hb hts inX8 tyX8 tyX8_ok nmX8 hown hK hP hD hS 0 tqw_o0 rfl 12 (by decide) fl34 (fun _ h9 => h9) rfl (by decide +kernel) rfl rfl (Nat.le_of_ble_eq_true rfl) dX8_meet_58 (fun H locs hP hD hS => ?_)
        have hP : va_P D vwCl (tqw y ad (sJ (sI σ 162 i_8) 163 r_10)) H := x_trP hP tqw_p0_12
        have hD : va_D A (tqw y ad (sJ (sI σ 162 i_8) 163 r_10)) := x_trD hD tqw_p0_12
        exact x_vretW (u := (i_8, r_10)) hx hb hr hQ trivial hP hD hK hS dX8_meet_61 hlocks
      · have kc_12 : (σ.2.1 163).toInt ≠ 0 := by have h9 := x_tri (σ.2.1 163) (0 : Int64); (try simp only [Int64.reduceToInt] at h9); rcases h9 with ⟨g1, g2⟩ | ⟨g1, g2⟩ | ⟨g1, g2⟩ <;> first | omega | (exfalso; rw [g1] at c_12; revert c_12; decide)
        refine lv_lload hx hb dX8_meet_43 (lv_at hl 0 rfl) ?_
        refine lv_aload_n hx hb dX8_meet_45 rfl (lv_at hl 1 rfl) ?_
        refine va_get (D := D) (ci := 7) (v := .long (σ.2.1 163)) (C := RX8) (T := TX8) (N := 13) hx hb hts inX8 hown hK hP 0 tqw_o0 rfl 12 (by decide) fl34 (fun _ h9 => h9) rfl dX8_meet_46 ?_
        refine x_calliN (va_runS (As := [.long r_10, .long (σ.2.1 163)]) (rest := []) ⟨hx, hb, hml, hown, hts⟩ (k_compare l D y H.size r_10 (σ.2.1 163)) (va_cwS 2 hts g_kb_meet_2 rfl rfl rfl (by decide +kernel) ⟨Nat.le_of_ble_eq_true rfl, Nat.le_of_ble_eq_true rfl⟩) (x_preS hK (x_nilP D H) (x_nilD A)) rfl rfl hl.1 rfl (lv_room (Nat.le_of_ble_eq_true rfl)) dX8_meet_49 ⟨Nat.le_of_ble_eq_true rfl, Nat.le_of_ble_eq_true rfl⟩) hP hD hS hA (fun r_13 u H locs hw hP hD hS => ?_)
        try dsimp only at hw
        refine lv_if_ge (tgt := 61) hx hb dX8_meet_52 (by decide) (fun c_14 => ?_) (fun c_14 => ?_)
        · have kc_14 : r_13.toInt ≥ 0 := by have h9 := c_14; simp only [ge_iff_le, gt_iff_lt, x_lt, x_le, x_eq, ne_eq, Int32.not_lt, Int32.not_le] at h9; simp only [Int32.reduceToInt] at h9; omega
          have hP : va_P D vwCl (tqw y ad (sJ (sI σ 162 i_8) 163 (σ.2.1 163))) H := hP
          have hD : va_D A (tqw y ad (sJ (sI σ 162 i_8) 163 (σ.2.1 163))) := hD
          exact x_vretW (u := (i_8, (σ.2.1 163))) hx hb hr hQ trivial hP hD hK hS dX8_meet_61 hlocks
        · have kc_14 : r_13.toInt < 0 := by have h9 := c_14; simp only [ge_iff_le, gt_iff_lt, x_lt, x_le, x_eq, ne_eq, Int32.not_lt, Int32.not_le] at h9; simp only [Int32.reduceToInt] at h9; omega
          refine lv_aload_n hx hb dX8_meet_55 rfl (lv_at hl 1 rfl) ?_
          refine lv_lload hx hb dX8_meet_56 (lv_at hl 0 rfl) ?_
          refine va_put (D := D) (ci := 7) (v := .long r_10) (ty := .long) (C := RX8) (T := TX8) (N := 13) hx hb hts inX8 tyX8 tyX8_ok nmX8 hown hK hP hD hS 0 tqw_o0 rfl 12 (by decide) fl34 (fun _ h9 => h9) rfl (by decide +kernel) rfl rfl (Nat.le_of_ble_eq_true rfl) dX8_meet_58 (fun H locs hP hD hS => ?_)
          have hP : va_P D vwCl (tqw y ad (sJ (sI σ 162 i_8) 163 r_10)) H := x_trP hP tqw_p0_12
          have hD : va_D A (tqw y ad (sJ (sI σ 162 i_8) 163 r_10)) := x_trD hD tqw_p0_12
          exact x_vretW (u := (i_8, r_10)) hx hb hr hQ trivial hP hD hK hS dX8_meet_61 hlocks
    · have kc_11 : r_10.toInt = 0 := by have h9 := x_tri r_10 (0 : Int64); (try simp only [Int64.reduceToInt] at h9); rcases h9 with ⟨g1, g2⟩ | ⟨g1, g2⟩ | ⟨g1, g2⟩ <;> first | omega | (exfalso; rw [g1] at c_11; revert c_11; decide)
      have hP : va_P D vwCl (tqw y ad (sJ (sI σ 162 i_8) 163 (σ.2.1 163))) H := hP
      have hD : va_D A (tqw y ad (sJ (sI σ 162 i_8) 163 (σ.2.1 163))) := hD
      exact x_vretW (u := (i_8, (σ.2.1 163))) hx hb hr hQ trivial hP hD hK hS dX8_meet_33 hlocks

def v_kb_putInput : List Cond := .code yX8_putInput cX8_putInput 4 none :: ([.fieldLink RX8 38 "SlopeRunner$Tape" "inputs" "I", .fieldLink RX8 11 "SlopeRunner$Tape" "value" "[J"] ++ wsX80)
set_option maxHeartbeats 4000000 in
set_option maxRecDepth 100000 in
theorem kb_putInput (l : Launch) (D : va_G) (y : Nat → ClassId) (sz : Nat) (ad : Nat → Nat) (σ : OS) (q : Int32) (z : Int64) (hin0 : 0 ≤ (σ.1 157).toInt) (hin1 : (σ.1 157).toInt ≤ 8) : Met l yX8_putInput v_kb_putInput ({ frames := 0, cells := 0, slots := 0, locals := 0 } : Room) (va_Pc [.ref (ad 150), .int q, .long z] (xPre D (xT y) (tqw y ad σ) sz)) (va_Qv (fun (u : (Nat → Int64)) => True) (fun (u : (Nat → Int64)) => xB D (xT y) (va_A (tqw y ad σ) sz) (tqw y ad (tJ σ 151 u))) (va_A (tqw y ad σ) sz)) 0 0 (va_A (tqw y ad σ) sz) := by
  refine x_metv (cc := cX8_putInput) (maxL := 4) (by decide) rfl (Nat.le_of_ble_eq_true rfl) ?_
  intro p e s m below meth c A H locs Q hx hb hml hown hts hr hlocks hmn hA hP hK hD hS ls hl hQ
  have hl : lv_has ls 4 [(0, .ref (ad 150)), (1, .int q), (2, .long z)] := hl
  have kk_0 : (0 : Int32).toInt = 0 := rfl
  have fl38 := hts (.fieldLink RX8 38 "SlopeRunner$Tape" "inputs" "I") (List.mem_of_getElem? (i := 1) rfl)
  have inX8 : ∀ w ∈ wsX80, w ∈ v_kb_putInput := (fun w h => List.mem_cons_of_mem _ (List.mem_append_right _ h))
  have fl11 := hts (.fieldLink RX8 11 "SlopeRunner$Tape" "value" "[J") (List.mem_of_getElem? (i := 2) rfl)
  refine lv_iload_n hx hb dX8_putInput_0 rfl (lv_at hl 1 rfl) ?_
  refine lv_if_lt (tgt := 19) hx hb dX8_putInput_1 (by decide) (fun c_1 => ?_) (fun c_1 => ?_)
  · have kc_1 : q.toInt < 0 := by have h9 := c_1; simp only [ge_iff_le, gt_iff_lt, x_lt, x_le, x_eq, ne_eq, Int32.not_lt, Int32.not_le] at h9; simp only [Int32.reduceToInt] at h9; omega
    have hP : va_P D vwCl (tqw y ad (tJ σ 151 (σ.2.2.2 151))) H := hP
    have hD : va_D A (tqw y ad (tJ σ 151 (σ.2.2.2 151))) := hD
    exact x_vretW (u := (σ.2.2.2 151)) hx hb hr hQ trivial hP hD hK hS dX8_putInput_19 hlocks
  · have kc_1 : q.toInt ≥ 0 := by have h9 := c_1; simp only [ge_iff_le, gt_iff_lt, x_lt, x_le, x_eq, ne_eq, Int32.not_lt, Int32.not_le] at h9; simp only [Int32.reduceToInt] at h9; omega
    refine lv_iload_n hx hb dX8_putInput_4 rfl (lv_at hl 1 rfl) ?_
    refine lv_aload_n hx hb dX8_putInput_5 rfl (lv_at hl 0 rfl) ?_
    refine va_get (D := D) (ci := 7) (v := .int (σ.1 157)) (C := RX8) (T := TX8) (N := 13) hx hb hts inX8 hown hK hP 0 tqw_o0 rfl 6 (by decide) fl38 (fun _ h9 => h9) rfl dX8_putInput_6 ?_
    refine lv_icmp_ge (tgt := 19) hx hb dX8_putInput_9 (by decide) (fun c_2 => ?_) (fun c_2 => ?_)
    · have kc_2 : q.toInt ≥ (σ.1 157).toInt := by have h9 := c_2; simp only [ge_iff_le, gt_iff_lt, x_lt, x_le, x_eq, ne_eq, Int32.not_lt, Int32.not_le] at h9; omega
      have hP : va_P D vwCl (tqw y ad (tJ σ 151 (σ.2.2.2 151))) H := hP
      have hD : va_D A (tqw y ad (tJ σ 151 (σ.2.2.2 151))) := hD
      exact x_vretW (u := (σ.2.2.2 151)) hx hb hr hQ trivial hP hD hK hS dX8_putInput_19 hlocks
    · have kc_2 : q.toInt < (σ.1 157).toInt := by have h9 := c_2; simp only [ge_iff_le, gt_iff_lt, x_lt, x_le, x_eq, ne_eq, Int32.not_lt, Int32.not_le] at h9; omega
      refine lv_aload_n hx hb dX8_putInput_12 rfl (lv_at hl 0 rfl) ?_
      refine va_get (D := D) (ci := 7) (v := .ref (ad 151)) (C := RX8) (T := TX8) (N := 13) hx hb hts inX8 hown hK hP 0 tqw_o0 rfl 0 (by decide) fl11 (fun _ h9 => h9) rfl dX8_putInput_13 ?_
      refine lv_iload_n hx hb dX8_putInput_16 rfl (lv_at hl 1 rfl) ?_
      refine lv_lload_n hx hb dX8_putInput_17 rfl (lv_at hl 2 rfl) ?_
      refine va_last hx hb hK hP hD hS 1 3 tqw_a1 rfl (x_in (by omega) (by omega)) dX8_putInput_18 (fun H locs hP hD hS => ?_)
      obtain ⟨f_3, ef_3⟩ : ∃ z9 : Nat → Int64, z9 = (vp_updL (σ.2.2.2 151) (Int32.toNatClampNeg q) z) := ⟨_, rfl⟩
      have hP : va_P D vwCl (tqw y ad (tJ σ 151 f_3)) H := by rw [ef_3]; exact x_trP hP tqw_s1
      have hD : va_D A (tqw y ad (tJ σ 151 f_3)) := by rw [ef_3]; exact x_trD hD tqw_s1
      exact x_vretW (u := f_3) hx hb hr hQ trivial hP hD hK hS dX8_putInput_19 hlocks

