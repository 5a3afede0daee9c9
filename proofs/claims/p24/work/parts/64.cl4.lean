abbrev slw_f0 (y : Nat → ClassId) (ad : Nat → Nat) (σ : OS) : List Value := [.ref (ad 171), .ref (ad 172), .ref (ad 173), .ref (ad 174), .ref (ad 175)]
abbrev slw_f1 (y : Nat → ClassId) (ad : Nat → Nat) (σ : OS) : List Value := [.ref (ad 131), .ref (ad 132), .ref (ad 133), .ref (ad 134), .ref (ad 135), .int (σ.1 136), .int (σ.1 137), .int (σ.1 138), .int (σ.1 139), .int (σ.1 140), .int (σ.1 141), .int (σ.1 142), .long (σ.2.1 143)]
def slw (y : Nat → ClassId) (ad : Nat → Nat) (σ : OS) : va_W := [((ad 170), .inr (6, slw_f0 y ad σ)), ((ad 130), .inr (7, slw_f1 y ad σ)), (ad 171, .inl (y 3, 1359, .inr (.inl (σ.2.2.2 171)))), (ad 172, .inl (y 3, 1359, .inr (.inl (σ.2.2.2 172)))), (ad 173, .inl (y 3, 1359, .inr (.inl (σ.2.2.2 173)))), (ad 174, .inl (y 2, 1359, .inl (σ.2.2.1 174))), (ad 175, .inl (y 4, 1359, .inl (σ.2.2.1 175))), (ad 131, .inl (y 3, 1359, .inr (.inl (σ.2.2.2 131)))), (ad 132, .inl (y 2, 1359, .inl (σ.2.2.1 132))), (ad 133, .inl (y 2, 1359, .inl (σ.2.2.1 133))), (ad 134, .inl (y 2, 1359, .inl (σ.2.2.1 134))), (ad 135, .inl (y 2, 12, .inl (σ.2.2.1 135)))]
theorem slw_o0 {y : Nat → ClassId} {ad : Nat → Nat} {σ : OS} : (slw y ad σ)[0]? = some ((ad 170), .inr (6, slw_f0 y ad σ)) := rfl
theorem slw_o1 {y : Nat → ClassId} {ad : Nat → Nat} {σ : OS} : (slw y ad σ)[1]? = some ((ad 130), .inr (7, slw_f1 y ad σ)) := rfl
theorem slw_p1_5 {y : Nat → ClassId} {ad : Nat → Nat} {σ : OS} {v : Int32} : (slw y ad σ).set 1 ((ad 130), .inr (7, (slw_f1 y ad σ).set 5 (.int v))) = slw y ad (sI σ 136 v) := rfl
theorem slw_p1_6 {y : Nat → ClassId} {ad : Nat → Nat} {σ : OS} {v : Int32} : (slw y ad σ).set 1 ((ad 130), .inr (7, (slw_f1 y ad σ).set 6 (.int v))) = slw y ad (sI σ 137 v) := rfl
theorem slw_p1_7 {y : Nat → ClassId} {ad : Nat → Nat} {σ : OS} {v : Int32} : (slw y ad σ).set 1 ((ad 130), .inr (7, (slw_f1 y ad σ).set 7 (.int v))) = slw y ad (sI σ 138 v) := rfl
theorem slw_p1_8 {y : Nat → ClassId} {ad : Nat → Nat} {σ : OS} {v : Int32} : (slw y ad σ).set 1 ((ad 130), .inr (7, (slw_f1 y ad σ).set 8 (.int v))) = slw y ad (sI σ 139 v) := rfl
theorem slw_p1_9 {y : Nat → ClassId} {ad : Nat → Nat} {σ : OS} {v : Int32} : (slw y ad σ).set 1 ((ad 130), .inr (7, (slw_f1 y ad σ).set 9 (.int v))) = slw y ad (sI σ 140 v) := rfl
theorem slw_p1_10 {y : Nat → ClassId} {ad : Nat → Nat} {σ : OS} {v : Int32} : (slw y ad σ).set 1 ((ad 130), .inr (7, (slw_f1 y ad σ).set 10 (.int v))) = slw y ad (sI σ 141 v) := rfl
theorem slw_p1_11 {y : Nat → ClassId} {ad : Nat → Nat} {σ : OS} {v : Int32} : (slw y ad σ).set 1 ((ad 130), .inr (7, (slw_f1 y ad σ).set 11 (.int v))) = slw y ad (sI σ 142 v) := rfl
theorem slw_p1_12 {y : Nat → ClassId} {ad : Nat → Nat} {σ : OS} {v : Int64} : (slw y ad σ).set 1 ((ad 130), .inr (7, (slw_f1 y ad σ).set 12 (.long v))) = slw y ad (sJ σ 143 v) := rfl
theorem slw_a2 {y : Nat → ClassId} {ad : Nat → Nat} {σ : OS} : (slw y ad σ)[2]? = some (ad 171, .inl (y 3, 1359, .inr (.inl (σ.2.2.2 171)))) := rfl
theorem slw_s2 {y : Nat → ClassId} {ad : Nat → Nat} {σ : OS} {g : Nat → Int64} : (slw y ad σ).set 2 (ad 171, .inl (y 3, 1359, .inr (.inl g))) = slw y ad (tJ σ 171 g) := rfl
theorem slw_a3 {y : Nat → ClassId} {ad : Nat → Nat} {σ : OS} : (slw y ad σ)[3]? = some (ad 172, .inl (y 3, 1359, .inr (.inl (σ.2.2.2 172)))) := rfl
theorem slw_s3 {y : Nat → ClassId} {ad : Nat → Nat} {σ : OS} {g : Nat → Int64} : (slw y ad σ).set 3 (ad 172, .inl (y 3, 1359, .inr (.inl g))) = slw y ad (tJ σ 172 g) := rfl
theorem slw_a4 {y : Nat → ClassId} {ad : Nat → Nat} {σ : OS} : (slw y ad σ)[4]? = some (ad 173, .inl (y 3, 1359, .inr (.inl (σ.2.2.2 173)))) := rfl
theorem slw_s4 {y : Nat → ClassId} {ad : Nat → Nat} {σ : OS} {g : Nat → Int64} : (slw y ad σ).set 4 (ad 173, .inl (y 3, 1359, .inr (.inl g))) = slw y ad (tJ σ 173 g) := rfl
theorem slw_a5 {y : Nat → ClassId} {ad : Nat → Nat} {σ : OS} : (slw y ad σ)[5]? = some (ad 174, .inl (y 2, 1359, .inl (σ.2.2.1 174))) := rfl
theorem slw_s5 {y : Nat → ClassId} {ad : Nat → Nat} {σ : OS} {g : Nat → Int32} : (slw y ad σ).set 5 (ad 174, .inl (y 2, 1359, .inl g)) = slw y ad (tI σ 174 g) := rfl
theorem slw_a6 {y : Nat → ClassId} {ad : Nat → Nat} {σ : OS} : (slw y ad σ)[6]? = some (ad 175, .inl (y 4, 1359, .inl (σ.2.2.1 175))) := rfl
theorem slw_s6 {y : Nat → ClassId} {ad : Nat → Nat} {σ : OS} {g : Nat → Int32} : (slw y ad σ).set 6 (ad 175, .inl (y 4, 1359, .inl g)) = slw y ad (tI σ 175 g) := rfl
theorem slw_a7 {y : Nat → ClassId} {ad : Nat → Nat} {σ : OS} : (slw y ad σ)[7]? = some (ad 131, .inl (y 3, 1359, .inr (.inl (σ.2.2.2 131)))) := rfl
theorem slw_s7 {y : Nat → ClassId} {ad : Nat → Nat} {σ : OS} {g : Nat → Int64} : (slw y ad σ).set 7 (ad 131, .inl (y 3, 1359, .inr (.inl g))) = slw y ad (tJ σ 131 g) := rfl
theorem slw_a8 {y : Nat → ClassId} {ad : Nat → Nat} {σ : OS} : (slw y ad σ)[8]? = some (ad 132, .inl (y 2, 1359, .inl (σ.2.2.1 132))) := rfl
theorem slw_s8 {y : Nat → ClassId} {ad : Nat → Nat} {σ : OS} {g : Nat → Int32} : (slw y ad σ).set 8 (ad 132, .inl (y 2, 1359, .inl g)) = slw y ad (tI σ 132 g) := rfl
theorem slw_a9 {y : Nat → ClassId} {ad : Nat → Nat} {σ : OS} : (slw y ad σ)[9]? = some (ad 133, .inl (y 2, 1359, .inl (σ.2.2.1 133))) := rfl
theorem slw_s9 {y : Nat → ClassId} {ad : Nat → Nat} {σ : OS} {g : Nat → Int32} : (slw y ad σ).set 9 (ad 133, .inl (y 2, 1359, .inl g)) = slw y ad (tI σ 133 g) := rfl
theorem slw_a10 {y : Nat → ClassId} {ad : Nat → Nat} {σ : OS} : (slw y ad σ)[10]? = some (ad 134, .inl (y 2, 1359, .inl (σ.2.2.1 134))) := rfl
theorem slw_s10 {y : Nat → ClassId} {ad : Nat → Nat} {σ : OS} {g : Nat → Int32} : (slw y ad σ).set 10 (ad 134, .inl (y 2, 1359, .inl g)) = slw y ad (tI σ 134 g) := rfl
theorem slw_a11 {y : Nat → ClassId} {ad : Nat → Nat} {σ : OS} : (slw y ad σ)[11]? = some (ad 135, .inl (y 2, 12, .inl (σ.2.2.1 135))) := rfl
theorem slw_s11 {y : Nat → ClassId} {ad : Nat → Nat} {σ : OS} {g : Nat → Int32} : (slw y ad σ).set 11 (ad 135, .inl (y 2, 12, .inl g)) = slw y ad (tI σ 135 g) := rfl
theorem dX7_markHanging_0 : decode cX7_markHanging 0 = .ok (.iconst 0, 1) := by decide +kernel
theorem dX7_markHanging_1 : decode cX7_markHanging 1 = .ok (.istore_n 3, 1) := by decide +kernel
theorem dX7_markHanging_2 : decode cX7_markHanging 2 = .ok (.iload_n 3, 1) := by decide +kernel
theorem dX7_markHanging_3 : decode cX7_markHanging 3 = .ok (.iload_n 2, 1) := by decide +kernel
theorem dX7_markHanging_4 : decode cX7_markHanging 4 = .ok (.if_icmp .gt 25, 3) := by decide +kernel
theorem dX7_markHanging_7 : decode cX7_markHanging 7 = .ok (.aload_n 0, 1) := by decide +kernel
theorem dX7_markHanging_8 : decode cX7_markHanging 8 = .ok (.getfield 25, 3) := by decide +kernel
theorem dX7_markHanging_11 : decode cX7_markHanging 11 = .ok (.iload_n 3, 1) := by decide +kernel
theorem dX7_markHanging_12 : decode cX7_markHanging 12 = .ok (.iload_n 3, 1) := by decide +kernel
theorem dX7_markHanging_13 : decode cX7_markHanging 13 = .ok (.iload_n 2, 1) := by decide +kernel
theorem dX7_markHanging_14 : decode cX7_markHanging 14 = .ok (.if_icmp .ne 7, 3) := by decide +kernel
theorem dX7_markHanging_17 : decode cX7_markHanging 17 = .ok (.iconst 1, 1) := by decide +kernel
theorem dX7_markHanging_18 : decode cX7_markHanging 18 = .ok (.goto 4, 3) := by decide +kernel
theorem dX7_markHanging_21 : decode cX7_markHanging 21 = .ok (.iconst 0, 1) := by decide +kernel
theorem dX7_markHanging_22 : decode cX7_markHanging 22 = .ok (.bastore, 1) := by decide +kernel
theorem dX7_markHanging_23 : decode cX7_markHanging 23 = .ok (.iinc 3 1, 3) := by decide +kernel
theorem dX7_markHanging_26 : decode cX7_markHanging 26 = .ok (.goto (-24), 3) := by decide +kernel
theorem dX7_markHanging_29 : decode cX7_markHanging 29 = .ok (.iload_n 2, 1) := by decide +kernel
theorem dX7_markHanging_30 : decode cX7_markHanging 30 = .ok (.istore_n 3, 1) := by decide +kernel
theorem dX7_markHanging_31 : decode cX7_markHanging 31 = .ok (.iload_n 3, 1) := by decide +kernel
theorem dX7_markHanging_32 : decode cX7_markHanging 32 = .ok (.aload_n 1, 1) := by decide +kernel
theorem dX7_markHanging_33 : decode cX7_markHanging 33 = .ok (.getfield 41, 3) := by decide +kernel
theorem dX7_markHanging_36 : decode cX7_markHanging 36 = .ok (.if_icmp .lt 42, 3) := by decide +kernel
theorem dX7_markHanging_39 : decode cX7_markHanging 39 = .ok (.aload_n 0, 1) := by decide +kernel
theorem dX7_markHanging_40 : decode cX7_markHanging 40 = .ok (.getfield 25, 3) := by decide +kernel
theorem dX7_markHanging_43 : decode cX7_markHanging 43 = .ok (.iload_n 3, 1) := by decide +kernel
theorem dX7_markHanging_44 : decode cX7_markHanging 44 = .ok (.baload, 1) := by decide +kernel
theorem dX7_markHanging_45 : decode cX7_markHanging 45 = .ok (.ifCond .eq 27, 3) := by decide +kernel
theorem dX7_markHanging_48 : decode cX7_markHanging 48 = .ok (.aload_n 0, 1) := by decide +kernel
theorem dX7_markHanging_49 : decode cX7_markHanging 49 = .ok (.getfield 25, 3) := by decide +kernel
theorem dX7_markHanging_52 : decode cX7_markHanging 52 = .ok (.aload_n 1, 1) := by decide +kernel
theorem dX7_markHanging_53 : decode cX7_markHanging 53 = .ok (.getfield 64, 3) := by decide +kernel
theorem dX7_markHanging_56 : decode cX7_markHanging 56 = .ok (.iload_n 3, 1) := by decide +kernel
theorem dX7_markHanging_57 : decode cX7_markHanging 57 = .ok (.iaload, 1) := by decide +kernel
theorem dX7_markHanging_58 : decode cX7_markHanging 58 = .ok (.iconst 1, 1) := by decide +kernel
theorem dX7_markHanging_59 : decode cX7_markHanging 59 = .ok (.bastore, 1) := by decide +kernel
theorem dX7_markHanging_60 : decode cX7_markHanging 60 = .ok (.aload_n 0, 1) := by decide +kernel
theorem dX7_markHanging_61 : decode cX7_markHanging 61 = .ok (.getfield 25, 3) := by decide +kernel
theorem dX7_markHanging_64 : decode cX7_markHanging 64 = .ok (.aload_n 1, 1) := by decide +kernel
theorem dX7_markHanging_65 : decode cX7_markHanging 65 = .ok (.getfield 67, 3) := by decide +kernel
theorem dX7_markHanging_68 : decode cX7_markHanging 68 = .ok (.iload_n 3, 1) := by decide +kernel
theorem dX7_markHanging_69 : decode cX7_markHanging 69 = .ok (.iaload, 1) := by decide +kernel
theorem dX7_markHanging_70 : decode cX7_markHanging 70 = .ok (.iconst 1, 1) := by decide +kernel
theorem dX7_markHanging_71 : decode cX7_markHanging 71 = .ok (.bastore, 1) := by decide +kernel
theorem dX7_markHanging_72 : decode cX7_markHanging 72 = .ok (.iinc 3 (-1), 3) := by decide +kernel
theorem dX7_markHanging_75 : decode cX7_markHanging 75 = .ok (.goto (-44), 3) := by decide +kernel
theorem dX7_markHanging_78 : decode cX7_markHanging 78 = .ok (.return_, 1) := by decide +kernel
theorem dX7_slopeAt_0 : decode cX7_slopeAt 0 = .ok (.aload_n 0, 1) := by decide +kernel
theorem dX7_slopeAt_1 : decode cX7_slopeAt 1 = .ok (.getfield 84, 3) := by decide +kernel
theorem dX7_slopeAt_4 : decode cX7_slopeAt 4 = .ok (.aload_n 0, 1) := by decide +kernel
theorem dX7_slopeAt_5 : decode cX7_slopeAt 5 = .ok (.getfield 64, 3) := by decide +kernel
theorem dX7_slopeAt_8 : decode cX7_slopeAt 8 = .ok (.iload_n 1, 1) := by decide +kernel
theorem dX7_slopeAt_9 : decode cX7_slopeAt 9 = .ok (.iaload, 1) := by decide +kernel
theorem dX7_slopeAt_10 : decode cX7_slopeAt 10 = .ok (.laload, 1) := by decide +kernel
theorem dX7_slopeAt_11 : decode cX7_slopeAt 11 = .ok (.lstore_n 3, 1) := by decide +kernel
theorem dX7_slopeAt_12 : decode cX7_slopeAt 12 = .ok (.aload_n 0, 1) := by decide +kernel
theorem dX7_slopeAt_13 : decode cX7_slopeAt 13 = .ok (.getfield 84, 3) := by decide +kernel
theorem dX7_slopeAt_16 : decode cX7_slopeAt 16 = .ok (.aload_n 0, 1) := by decide +kernel
theorem dX7_slopeAt_17 : decode cX7_slopeAt 17 = .ok (.getfield 67, 3) := by decide +kernel
theorem dX7_slopeAt_20 : decode cX7_slopeAt 20 = .ok (.iload_n 1, 1) := by decide +kernel
theorem dX7_slopeAt_21 : decode cX7_slopeAt 21 = .ok (.iaload, 1) := by decide +kernel
theorem dX7_slopeAt_22 : decode cX7_slopeAt 22 = .ok (.laload, 1) := by decide +kernel
theorem dX7_slopeAt_23 : decode cX7_slopeAt 23 = .ok (.lstore 5, 2) := by decide +kernel
theorem dX7_slopeAt_25 : decode cX7_slopeAt 25 = .ok (.aload_n 2, 1) := by decide +kernel
theorem dX7_slopeAt_26 : decode cX7_slopeAt 26 = .ok (.aload_n 0, 1) := by decide +kernel
theorem dX7_slopeAt_27 : decode cX7_slopeAt 27 = .ok (.getfield 64, 3) := by decide +kernel
theorem dX7_slopeAt_30 : decode cX7_slopeAt 30 = .ok (.iload_n 1, 1) := by decide +kernel
theorem dX7_slopeAt_31 : decode cX7_slopeAt 31 = .ok (.iaload, 1) := by decide +kernel
theorem dX7_slopeAt_32 : decode cX7_slopeAt 32 = .ok (.laload, 1) := by decide +kernel
theorem dX7_slopeAt_33 : decode cX7_slopeAt 33 = .ok (.lstore 7, 2) := by decide +kernel
theorem dX7_slopeAt_35 : decode cX7_slopeAt 35 = .ok (.aload_n 2, 1) := by decide +kernel
theorem dX7_slopeAt_36 : decode cX7_slopeAt 36 = .ok (.aload_n 0, 1) := by decide +kernel
theorem dX7_slopeAt_37 : decode cX7_slopeAt 37 = .ok (.getfield 67, 3) := by decide +kernel
theorem dX7_slopeAt_40 : decode cX7_slopeAt 40 = .ok (.iload_n 1, 1) := by decide +kernel
theorem dX7_slopeAt_41 : decode cX7_slopeAt 41 = .ok (.iaload, 1) := by decide +kernel
theorem dX7_slopeAt_42 : decode cX7_slopeAt 42 = .ok (.laload, 1) := by decide +kernel
theorem dX7_slopeAt_43 : decode cX7_slopeAt 43 = .ok (.lstore 9, 2) := by decide +kernel
theorem dX7_slopeAt_45 : decode cX7_slopeAt 45 = .ok (.aload_n 0, 1) := by decide +kernel
theorem dX7_slopeAt_46 : decode cX7_slopeAt 46 = .ok (.getfield 70, 3) := by decide +kernel
theorem dX7_slopeAt_49 : decode cX7_slopeAt 49 = .ok (.iload_n 1, 1) := by decide +kernel
theorem dX7_slopeAt_50 : decode cX7_slopeAt 50 = .ok (.iaload, 1) := by decide +kernel
theorem dX7_slopeAt_51 : decode cX7_slopeAt 51 = .ok (.lookupswitch 114 #[(6, 49), (7, 57), (8, 65), (9, 82), (31, 108)], 49) := by decide +kernel
theorem dX7_slopeAt_100 : decode cX7_slopeAt 100 = .ok (.lload 7, 2) := by decide +kernel
theorem dX7_slopeAt_102 : decode cX7_slopeAt 102 = .ok (.lload 9, 2) := by decide +kernel
theorem dX7_slopeAt_104 : decode cX7_slopeAt 104 = .ok (.invokestatic 87, 3) := by decide +kernel
theorem dX7_slopeAt_107 : decode cX7_slopeAt 107 = .ok (.lreturn, 1) := by decide +kernel
theorem dX7_slopeAt_108 : decode cX7_slopeAt 108 = .ok (.lload 7, 2) := by decide +kernel
theorem dX7_slopeAt_110 : decode cX7_slopeAt 110 = .ok (.lload 9, 2) := by decide +kernel
theorem dX7_slopeAt_112 : decode cX7_slopeAt 112 = .ok (.invokestatic 91, 3) := by decide +kernel
theorem dX7_slopeAt_115 : decode cX7_slopeAt 115 = .ok (.lreturn, 1) := by decide +kernel
theorem dX7_slopeAt_116 : decode cX7_slopeAt 116 = .ok (.lload 7, 2) := by decide +kernel
theorem dX7_slopeAt_118 : decode cX7_slopeAt 118 = .ok (.lload 5, 2) := by decide +kernel
theorem dX7_slopeAt_120 : decode cX7_slopeAt 120 = .ok (.invokestatic 94, 3) := by decide +kernel
theorem dX7_slopeAt_123 : decode cX7_slopeAt 123 = .ok (.lload_n 3, 1) := by decide +kernel
theorem dX7_slopeAt_124 : decode cX7_slopeAt 124 = .ok (.lload 9, 2) := by decide +kernel
theorem dX7_slopeAt_126 : decode cX7_slopeAt 126 = .ok (.invokestatic 94, 3) := by decide +kernel
theorem dX7_slopeAt_129 : decode cX7_slopeAt 129 = .ok (.invokestatic 87, 3) := by decide +kernel
theorem dX7_slopeAt_132 : decode cX7_slopeAt 132 = .ok (.lreturn, 1) := by decide +kernel
theorem dX7_slopeAt_133 : decode cX7_slopeAt 133 = .ok (.lload 7, 2) := by decide +kernel
theorem dX7_slopeAt_135 : decode cX7_slopeAt 135 = .ok (.aload_n 0, 1) := by decide +kernel
theorem dX7_slopeAt_136 : decode cX7_slopeAt 136 = .ok (.getfield 84, 3) := by decide +kernel
theorem dX7_slopeAt_139 : decode cX7_slopeAt 139 = .ok (.iload_n 1, 1) := by decide +kernel
theorem dX7_slopeAt_140 : decode cX7_slopeAt 140 = .ok (.laload, 1) := by decide +kernel
theorem dX7_slopeAt_141 : decode cX7_slopeAt 141 = .ok (.lload 9, 2) := by decide +kernel
theorem dX7_slopeAt_143 : decode cX7_slopeAt 143 = .ok (.invokestatic 94, 3) := by decide +kernel
theorem dX7_slopeAt_146 : decode cX7_slopeAt 146 = .ok (.invokestatic 91, 3) := by decide +kernel
theorem dX7_slopeAt_149 : decode cX7_slopeAt 149 = .ok (.lstore 11, 2) := by decide +kernel
theorem dX7_slopeAt_151 : decode cX7_slopeAt 151 = .ok (.lload 11, 2) := by decide +kernel
theorem dX7_slopeAt_153 : decode cX7_slopeAt 153 = .ok (.lload 5, 2) := by decide +kernel
theorem dX7_slopeAt_155 : decode cX7_slopeAt 155 = .ok (.invokestatic 97, 3) := by decide +kernel
theorem dX7_slopeAt_158 : decode cX7_slopeAt 158 = .ok (.lreturn, 1) := by decide +kernel
theorem dX7_slopeAt_159 : decode cX7_slopeAt 159 = .ok (.lload 7, 2) := by decide +kernel
theorem dX7_slopeAt_161 : decode cX7_slopeAt 161 = .ok (.invokestatic 100, 3) := by decide +kernel
theorem dX7_slopeAt_164 : decode cX7_slopeAt 164 = .ok (.lreturn, 1) := by decide +kernel
theorem dX7_slopeAt_165 : decode cX7_slopeAt 165 = .ok (.lload 7, 2) := by decide +kernel
theorem dX7_slopeAt_167 : decode cX7_slopeAt 167 = .ok (.lreturn, 1) := by decide +kernel
theorem dX7_fillSlopes_0 : decode cX7_fillSlopes 0 = .ok (.iconst 0, 1) := by decide +kernel
theorem dX7_fillSlopes_1 : decode cX7_fillSlopes 1 = .ok (.istore 5, 2) := by decide +kernel
theorem dX7_fillSlopes_3 : decode cX7_fillSlopes 3 = .ok (.iload 5, 2) := by decide +kernel
theorem dX7_fillSlopes_5 : decode cX7_fillSlopes 5 = .ok (.iload_n 2, 1) := by decide +kernel
theorem dX7_fillSlopes_6 : decode cX7_fillSlopes 6 = .ok (.if_icmp .gt 62, 3) := by decide +kernel
theorem dX7_fillSlopes_9 : decode cX7_fillSlopes 9 = .ok (.iload 5, 2) := by decide +kernel
theorem dX7_fillSlopes_11 : decode cX7_fillSlopes 11 = .ok (.aload_n 1, 1) := by decide +kernel
theorem dX7_fillSlopes_12 : decode cX7_fillSlopes 12 = .ok (.getfield 41, 3) := by decide +kernel
theorem dX7_fillSlopes_15 : decode cX7_fillSlopes 15 = .ok (.if_icmp .ge 24, 3) := by decide +kernel
theorem dX7_fillSlopes_18 : decode cX7_fillSlopes 18 = .ok (.aload 4, 2) := by decide +kernel
theorem dX7_fillSlopes_20 : decode cX7_fillSlopes 20 = .ok (.iload 5, 2) := by decide +kernel
theorem dX7_fillSlopes_22 : decode cX7_fillSlopes 22 = .ok (.iload 5, 2) := by decide +kernel
theorem dX7_fillSlopes_24 : decode cX7_fillSlopes 24 = .ok (.iload_n 3, 1) := by decide +kernel
theorem dX7_fillSlopes_25 : decode cX7_fillSlopes 25 = .ok (.if_icmp .ne 9, 3) := by decide +kernel
theorem dX7_fillSlopes_28 : decode cX7_fillSlopes 28 = .ok (.ldc2_w 55, 3) := by decide +kernel
theorem dX7_fillSlopes_31 : decode cX7_fillSlopes 31 = .ok (.goto 4, 3) := by decide +kernel
theorem dX7_fillSlopes_34 : decode cX7_fillSlopes 34 = .ok (.lconst 1, 1) := by decide +kernel
theorem dX7_fillSlopes_35 : decode cX7_fillSlopes 35 = .ok (.lastore, 1) := by decide +kernel
theorem dX7_fillSlopes_36 : decode cX7_fillSlopes 36 = .ok (.goto 26, 3) := by decide +kernel
theorem dX7_fillSlopes_39 : decode cX7_fillSlopes 39 = .ok (.aload_n 0, 1) := by decide +kernel
theorem dX7_fillSlopes_40 : decode cX7_fillSlopes 40 = .ok (.getfield 25, 3) := by decide +kernel
theorem dX7_fillSlopes_43 : decode cX7_fillSlopes 43 = .ok (.iload 5, 2) := by decide +kernel
theorem dX7_fillSlopes_45 : decode cX7_fillSlopes 45 = .ok (.baload, 1) := by decide +kernel
theorem dX7_fillSlopes_46 : decode cX7_fillSlopes 46 = .ok (.ifCond .eq 16, 3) := by decide +kernel
theorem dX7_fillSlopes_49 : decode cX7_fillSlopes 49 = .ok (.aload 4, 2) := by decide +kernel
theorem dX7_fillSlopes_51 : decode cX7_fillSlopes 51 = .ok (.iload 5, 2) := by decide +kernel
theorem dX7_fillSlopes_53 : decode cX7_fillSlopes 53 = .ok (.aload_n 1, 1) := by decide +kernel
theorem dX7_fillSlopes_54 : decode cX7_fillSlopes 54 = .ok (.iload 5, 2) := by decide +kernel
theorem dX7_fillSlopes_56 : decode cX7_fillSlopes 56 = .ok (.aload 4, 2) := by decide +kernel
theorem dX7_fillSlopes_58 : decode cX7_fillSlopes 58 = .ok (.invokestatic 80, 3) := by decide +kernel
theorem dX7_fillSlopes_61 : decode cX7_fillSlopes 61 = .ok (.lastore, 1) := by decide +kernel
theorem dX7_fillSlopes_62 : decode cX7_fillSlopes 62 = .ok (.iinc 5 1, 3) := by decide +kernel
theorem dX7_fillSlopes_65 : decode cX7_fillSlopes 65 = .ok (.goto (-62), 3) := by decide +kernel
theorem dX7_fillSlopes_68 : decode cX7_fillSlopes 68 = .ok (.return_, 1) := by decide +kernel
theorem dX7_hasBothSlopes_0 : decode cX7_hasBothSlopes 0 = .ok (.aload_n 0, 1) := by decide +kernel
theorem dX7_hasBothSlopes_1 : decode cX7_hasBothSlopes 1 = .ok (.getfield 9, 3) := by decide +kernel
theorem dX7_hasBothSlopes_4 : decode cX7_hasBothSlopes 4 = .ok (.iload_n 1, 1) := by decide +kernel
theorem dX7_hasBothSlopes_5 : decode cX7_hasBothSlopes 5 = .ok (.laload, 1) := by decide +kernel
theorem dX7_hasBothSlopes_6 : decode cX7_hasBothSlopes 6 = .ok (.lconst 0, 1) := by decide +kernel
theorem dX7_hasBothSlopes_7 : decode cX7_hasBothSlopes 7 = .ok (.lcmp, 1) := by decide +kernel
theorem dX7_hasBothSlopes_8 : decode cX7_hasBothSlopes 8 = .ok (.ifCond .eq 18, 3) := by decide +kernel
theorem dX7_hasBothSlopes_11 : decode cX7_hasBothSlopes 11 = .ok (.aload_n 0, 1) := by decide +kernel
theorem dX7_hasBothSlopes_12 : decode cX7_hasBothSlopes 12 = .ok (.getfield 15, 3) := by decide +kernel
theorem dX7_hasBothSlopes_15 : decode cX7_hasBothSlopes 15 = .ok (.iload_n 1, 1) := by decide +kernel
theorem dX7_hasBothSlopes_16 : decode cX7_hasBothSlopes 16 = .ok (.laload, 1) := by decide +kernel
theorem dX7_hasBothSlopes_17 : decode cX7_hasBothSlopes 17 = .ok (.lconst 0, 1) := by decide +kernel
theorem dX7_hasBothSlopes_18 : decode cX7_hasBothSlopes 18 = .ok (.lcmp, 1) := by decide +kernel
theorem dX7_hasBothSlopes_19 : decode cX7_hasBothSlopes 19 = .ok (.ifCond .eq 7, 3) := by decide +kernel
theorem dX7_hasBothSlopes_22 : decode cX7_hasBothSlopes 22 = .ok (.iconst 1, 1) := by decide +kernel
theorem dX7_hasBothSlopes_23 : decode cX7_hasBothSlopes 23 = .ok (.goto 4, 3) := by decide +kernel
theorem dX7_hasBothSlopes_26 : decode cX7_hasBothSlopes 26 = .ok (.iconst 0, 1) := by decide +kernel
theorem dX7_hasBothSlopes_27 : decode cX7_hasBothSlopes 27 = .ok (.ireturn, 1) := by decide +kernel
theorem dX7_twiceOfProduct_0 : decode cX7_twiceOfProduct 0 = .ok (.aload_n 1, 1) := by decide +kernel
theorem dX7_twiceOfProduct_1 : decode cX7_twiceOfProduct 1 = .ok (.getfield 64, 3) := by decide +kernel
theorem dX7_twiceOfProduct_4 : decode cX7_twiceOfProduct 4 = .ok (.iload_n 2, 1) := by decide +kernel
theorem dX7_twiceOfProduct_5 : decode cX7_twiceOfProduct 5 = .ok (.iaload, 1) := by decide +kernel
theorem dX7_twiceOfProduct_6 : decode cX7_twiceOfProduct 6 = .ok (.istore_n 3, 1) := by decide +kernel
theorem dX7_twiceOfProduct_7 : decode cX7_twiceOfProduct 7 = .ok (.aload_n 1, 1) := by decide +kernel
theorem dX7_twiceOfProduct_8 : decode cX7_twiceOfProduct 8 = .ok (.getfield 67, 3) := by decide +kernel
theorem dX7_twiceOfProduct_11 : decode cX7_twiceOfProduct 11 = .ok (.iload_n 2, 1) := by decide +kernel
theorem dX7_twiceOfProduct_12 : decode cX7_twiceOfProduct 12 = .ok (.iaload, 1) := by decide +kernel
theorem dX7_twiceOfProduct_13 : decode cX7_twiceOfProduct 13 = .ok (.istore 4, 2) := by decide +kernel
theorem dX7_twiceOfProduct_15 : decode cX7_twiceOfProduct 15 = .ok (.aload_n 0, 1) := by decide +kernel
theorem dX7_twiceOfProduct_16 : decode cX7_twiceOfProduct 16 = .ok (.getfield 18, 3) := by decide +kernel
theorem dX7_twiceOfProduct_19 : decode cX7_twiceOfProduct 19 = .ok (.iload_n 3, 1) := by decide +kernel
theorem dX7_twiceOfProduct_20 : decode cX7_twiceOfProduct 20 = .ok (.laload, 1) := by decide +kernel
theorem dX7_twiceOfProduct_21 : decode cX7_twiceOfProduct 21 = .ok (.aload_n 1, 1) := by decide +kernel
theorem dX7_twiceOfProduct_22 : decode cX7_twiceOfProduct 22 = .ok (.getfield 84, 3) := by decide +kernel
theorem dX7_twiceOfProduct_25 : decode cX7_twiceOfProduct 25 = .ok (.iload 4, 2) := by decide +kernel
theorem dX7_twiceOfProduct_27 : decode cX7_twiceOfProduct 27 = .ok (.laload, 1) := by decide +kernel
theorem dX7_twiceOfProduct_28 : decode cX7_twiceOfProduct 28 = .ok (.invokestatic 94, 3) := by decide +kernel
theorem dX7_twiceOfProduct_31 : decode cX7_twiceOfProduct 31 = .ok (.lstore 5, 2) := by decide +kernel
theorem dX7_twiceOfProduct_33 : decode cX7_twiceOfProduct 33 = .ok (.aload_n 0, 1) := by decide +kernel
theorem dX7_twiceOfProduct_34 : decode cX7_twiceOfProduct 34 = .ok (.getfield 9, 3) := by decide +kernel
theorem dX7_twiceOfProduct_37 : decode cX7_twiceOfProduct 37 = .ok (.iload_n 3, 1) := by decide +kernel
theorem dX7_twiceOfProduct_38 : decode cX7_twiceOfProduct 38 = .ok (.laload, 1) := by decide +kernel
theorem dX7_twiceOfProduct_39 : decode cX7_twiceOfProduct 39 = .ok (.aload_n 0, 1) := by decide +kernel
theorem dX7_twiceOfProduct_40 : decode cX7_twiceOfProduct 40 = .ok (.getfield 15, 3) := by decide +kernel
theorem dX7_twiceOfProduct_43 : decode cX7_twiceOfProduct 43 = .ok (.iload 4, 2) := by decide +kernel
theorem dX7_twiceOfProduct_45 : decode cX7_twiceOfProduct 45 = .ok (.laload, 1) := by decide +kernel
theorem dX7_twiceOfProduct_46 : decode cX7_twiceOfProduct 46 = .ok (.invokestatic 94, 3) := by decide +kernel
theorem dX7_twiceOfProduct_49 : decode cX7_twiceOfProduct 49 = .ok (.lstore 7, 2) := by decide +kernel
theorem dX7_twiceOfProduct_51 : decode cX7_twiceOfProduct 51 = .ok (.aload_n 0, 1) := by decide +kernel
theorem dX7_twiceOfProduct_52 : decode cX7_twiceOfProduct 52 = .ok (.getfield 15, 3) := by decide +kernel
theorem dX7_twiceOfProduct_55 : decode cX7_twiceOfProduct 55 = .ok (.iload_n 3, 1) := by decide +kernel
theorem dX7_twiceOfProduct_56 : decode cX7_twiceOfProduct 56 = .ok (.laload, 1) := by decide +kernel
theorem dX7_twiceOfProduct_57 : decode cX7_twiceOfProduct 57 = .ok (.aload_n 0, 1) := by decide +kernel
theorem dX7_twiceOfProduct_58 : decode cX7_twiceOfProduct 58 = .ok (.getfield 9, 3) := by decide +kernel
theorem dX7_twiceOfProduct_61 : decode cX7_twiceOfProduct 61 = .ok (.iload 4, 2) := by decide +kernel
theorem dX7_twiceOfProduct_63 : decode cX7_twiceOfProduct 63 = .ok (.laload, 1) := by decide +kernel
theorem dX7_twiceOfProduct_64 : decode cX7_twiceOfProduct 64 = .ok (.invokestatic 94, 3) := by decide +kernel
theorem dX7_twiceOfProduct_67 : decode cX7_twiceOfProduct 67 = .ok (.lstore 9, 2) := by decide +kernel
theorem dX7_twiceOfProduct_69 : decode cX7_twiceOfProduct 69 = .ok (.aload_n 1, 1) := by decide +kernel
theorem dX7_twiceOfProduct_70 : decode cX7_twiceOfProduct 70 = .ok (.getfield 84, 3) := by decide +kernel
theorem dX7_twiceOfProduct_73 : decode cX7_twiceOfProduct 73 = .ok (.iload_n 3, 1) := by decide +kernel
theorem dX7_twiceOfProduct_74 : decode cX7_twiceOfProduct 74 = .ok (.laload, 1) := by decide +kernel
theorem dX7_twiceOfProduct_75 : decode cX7_twiceOfProduct 75 = .ok (.aload_n 0, 1) := by decide +kernel
theorem dX7_twiceOfProduct_76 : decode cX7_twiceOfProduct 76 = .ok (.getfield 18, 3) := by decide +kernel
theorem dX7_twiceOfProduct_79 : decode cX7_twiceOfProduct 79 = .ok (.iload 4, 2) := by decide +kernel
theorem dX7_twiceOfProduct_81 : decode cX7_twiceOfProduct 81 = .ok (.laload, 1) := by decide +kernel
theorem dX7_twiceOfProduct_82 : decode cX7_twiceOfProduct 82 = .ok (.invokestatic 94, 3) := by decide +kernel
theorem dX7_twiceOfProduct_85 : decode cX7_twiceOfProduct 85 = .ok (.lstore 11, 2) := by decide +kernel
theorem dX7_twiceOfProduct_87 : decode cX7_twiceOfProduct 87 = .ok (.lload 5, 2) := by decide +kernel
theorem dX7_twiceOfProduct_89 : decode cX7_twiceOfProduct 89 = .ok (.lload 7, 2) := by decide +kernel
theorem dX7_twiceOfProduct_91 : decode cX7_twiceOfProduct 91 = .ok (.invokestatic 87, 3) := by decide +kernel
theorem dX7_twiceOfProduct_94 : decode cX7_twiceOfProduct 94 = .ok (.lload 9, 2) := by decide +kernel
theorem dX7_twiceOfProduct_96 : decode cX7_twiceOfProduct 96 = .ok (.lload 11, 2) := by decide +kernel
theorem dX7_twiceOfProduct_98 : decode cX7_twiceOfProduct 98 = .ok (.invokestatic 87, 3) := by decide +kernel
theorem dX7_twiceOfProduct_101 : decode cX7_twiceOfProduct 101 = .ok (.invokestatic 87, 3) := by decide +kernel
theorem dX7_twiceOfProduct_104 : decode cX7_twiceOfProduct 104 = .ok (.lreturn, 1) := by decide +kernel
theorem dX7_twiceOfQuotient_0 : decode cX7_twiceOfQuotient 0 = .ok (.aload_n 1, 1) := by decide +kernel
theorem dX7_twiceOfQuotient_1 : decode cX7_twiceOfQuotient 1 = .ok (.getfield 64, 3) := by decide +kernel
theorem dX7_twiceOfQuotient_4 : decode cX7_twiceOfQuotient 4 = .ok (.iload_n 2, 1) := by decide +kernel
theorem dX7_twiceOfQuotient_5 : decode cX7_twiceOfQuotient 5 = .ok (.iaload, 1) := by decide +kernel
theorem dX7_twiceOfQuotient_6 : decode cX7_twiceOfQuotient 6 = .ok (.istore_n 3, 1) := by decide +kernel
theorem dX7_twiceOfQuotient_7 : decode cX7_twiceOfQuotient 7 = .ok (.aload_n 1, 1) := by decide +kernel
theorem dX7_twiceOfQuotient_8 : decode cX7_twiceOfQuotient 8 = .ok (.getfield 67, 3) := by decide +kernel
theorem dX7_twiceOfQuotient_11 : decode cX7_twiceOfQuotient 11 = .ok (.iload_n 2, 1) := by decide +kernel
theorem dX7_twiceOfQuotient_12 : decode cX7_twiceOfQuotient 12 = .ok (.iaload, 1) := by decide +kernel
theorem dX7_twiceOfQuotient_13 : decode cX7_twiceOfQuotient 13 = .ok (.istore 4, 2) := by decide +kernel
theorem dX7_twiceOfQuotient_15 : decode cX7_twiceOfQuotient 15 = .ok (.aload_n 0, 1) := by decide +kernel
theorem dX7_twiceOfQuotient_16 : decode cX7_twiceOfQuotient 16 = .ok (.getfield 9, 3) := by decide +kernel
theorem dX7_twiceOfQuotient_19 : decode cX7_twiceOfQuotient 19 = .ok (.iload_n 2, 1) := by decide +kernel
theorem dX7_twiceOfQuotient_20 : decode cX7_twiceOfQuotient 20 = .ok (.laload, 1) := by decide +kernel
theorem dX7_twiceOfQuotient_21 : decode cX7_twiceOfQuotient 21 = .ok (.aload_n 0, 1) := by decide +kernel
theorem dX7_twiceOfQuotient_22 : decode cX7_twiceOfQuotient 22 = .ok (.getfield 15, 3) := by decide +kernel
theorem dX7_twiceOfQuotient_25 : decode cX7_twiceOfQuotient 25 = .ok (.iload 4, 2) := by decide +kernel
theorem dX7_twiceOfQuotient_27 : decode cX7_twiceOfQuotient 27 = .ok (.laload, 1) := by decide +kernel
theorem dX7_twiceOfQuotient_28 : decode cX7_twiceOfQuotient 28 = .ok (.invokestatic 94, 3) := by decide +kernel
theorem dX7_twiceOfQuotient_31 : decode cX7_twiceOfQuotient 31 = .ok (.lstore 5, 2) := by decide +kernel
theorem dX7_twiceOfQuotient_33 : decode cX7_twiceOfQuotient 33 = .ok (.aload_n 0, 1) := by decide +kernel
theorem dX7_twiceOfQuotient_34 : decode cX7_twiceOfQuotient 34 = .ok (.getfield 15, 3) := by decide +kernel
theorem dX7_twiceOfQuotient_37 : decode cX7_twiceOfQuotient 37 = .ok (.iload_n 2, 1) := by decide +kernel
theorem dX7_twiceOfQuotient_38 : decode cX7_twiceOfQuotient 38 = .ok (.laload, 1) := by decide +kernel
theorem dX7_twiceOfQuotient_39 : decode cX7_twiceOfQuotient 39 = .ok (.aload_n 0, 1) := by decide +kernel
theorem dX7_twiceOfQuotient_40 : decode cX7_twiceOfQuotient 40 = .ok (.getfield 9, 3) := by decide +kernel
theorem dX7_twiceOfQuotient_43 : decode cX7_twiceOfQuotient 43 = .ok (.iload 4, 2) := by decide +kernel
theorem dX7_twiceOfQuotient_45 : decode cX7_twiceOfQuotient 45 = .ok (.laload, 1) := by decide +kernel
theorem dX7_twiceOfQuotient_46 : decode cX7_twiceOfQuotient 46 = .ok (.invokestatic 94, 3) := by decide +kernel
theorem dX7_twiceOfQuotient_49 : decode cX7_twiceOfQuotient 49 = .ok (.lstore 7, 2) := by decide +kernel
theorem dX7_twiceOfQuotient_51 : decode cX7_twiceOfQuotient 51 = .ok (.aload_n 1, 1) := by decide +kernel
theorem dX7_twiceOfQuotient_52 : decode cX7_twiceOfQuotient 52 = .ok (.getfield 84, 3) := by decide +kernel
theorem dX7_twiceOfQuotient_55 : decode cX7_twiceOfQuotient 55 = .ok (.iload_n 2, 1) := by decide +kernel
theorem dX7_twiceOfQuotient_56 : decode cX7_twiceOfQuotient 56 = .ok (.laload, 1) := by decide +kernel
theorem dX7_twiceOfQuotient_57 : decode cX7_twiceOfQuotient 57 = .ok (.aload_n 0, 1) := by decide +kernel
theorem dX7_twiceOfQuotient_58 : decode cX7_twiceOfQuotient 58 = .ok (.getfield 18, 3) := by decide +kernel
theorem dX7_twiceOfQuotient_61 : decode cX7_twiceOfQuotient 61 = .ok (.iload 4, 2) := by decide +kernel
theorem dX7_twiceOfQuotient_63 : decode cX7_twiceOfQuotient 63 = .ok (.laload, 1) := by decide +kernel
theorem dX7_twiceOfQuotient_64 : decode cX7_twiceOfQuotient 64 = .ok (.invokestatic 94, 3) := by decide +kernel
theorem dX7_twiceOfQuotient_67 : decode cX7_twiceOfQuotient 67 = .ok (.lstore 9, 2) := by decide +kernel
theorem dX7_twiceOfQuotient_69 : decode cX7_twiceOfQuotient 69 = .ok (.aload_n 0, 1) := by decide +kernel
theorem dX7_twiceOfQuotient_70 : decode cX7_twiceOfQuotient 70 = .ok (.getfield 18, 3) := by decide +kernel
theorem dX7_twiceOfQuotient_73 : decode cX7_twiceOfQuotient 73 = .ok (.iload_n 3, 1) := by decide +kernel
theorem dX7_twiceOfQuotient_74 : decode cX7_twiceOfQuotient 74 = .ok (.laload, 1) := by decide +kernel
theorem dX7_twiceOfQuotient_75 : decode cX7_twiceOfQuotient 75 = .ok (.lload 5, 2) := by decide +kernel
theorem dX7_twiceOfQuotient_77 : decode cX7_twiceOfQuotient 77 = .ok (.invokestatic 91, 3) := by decide +kernel
theorem dX7_twiceOfQuotient_80 : decode cX7_twiceOfQuotient 80 = .ok (.lload 7, 2) := by decide +kernel
theorem dX7_twiceOfQuotient_82 : decode cX7_twiceOfQuotient 82 = .ok (.invokestatic 91, 3) := by decide +kernel
theorem dX7_twiceOfQuotient_85 : decode cX7_twiceOfQuotient 85 = .ok (.lstore 11, 2) := by decide +kernel
theorem dX7_twiceOfQuotient_87 : decode cX7_twiceOfQuotient 87 = .ok (.lload 11, 2) := by decide +kernel
theorem dX7_twiceOfQuotient_89 : decode cX7_twiceOfQuotient 89 = .ok (.lload 9, 2) := by decide +kernel
theorem dX7_twiceOfQuotient_91 : decode cX7_twiceOfQuotient 91 = .ok (.invokestatic 91, 3) := by decide +kernel
theorem dX7_twiceOfQuotient_94 : decode cX7_twiceOfQuotient 94 = .ok (.aload_n 1, 1) := by decide +kernel
theorem dX7_twiceOfQuotient_95 : decode cX7_twiceOfQuotient 95 = .ok (.getfield 84, 3) := by decide +kernel
theorem dX7_twiceOfQuotient_98 : decode cX7_twiceOfQuotient 98 = .ok (.iload 4, 2) := by decide +kernel
theorem dX7_twiceOfQuotient_100 : decode cX7_twiceOfQuotient 100 = .ok (.laload, 1) := by decide +kernel
theorem dX7_twiceOfQuotient_101 : decode cX7_twiceOfQuotient 101 = .ok (.invokestatic 97, 3) := by decide +kernel
theorem dX7_twiceOfQuotient_104 : decode cX7_twiceOfQuotient 104 = .ok (.lreturn, 1) := by decide +kernel
theorem dX7_twiceAt_0 : decode cX7_twiceAt 0 = .ok (.aload_n 0, 1) := by decide +kernel
theorem dX7_twiceAt_1 : decode cX7_twiceAt 1 = .ok (.getfield 18, 3) := by decide +kernel
theorem dX7_twiceAt_4 : decode cX7_twiceAt 4 = .ok (.aload_n 1, 1) := by decide +kernel
theorem dX7_twiceAt_5 : decode cX7_twiceAt 5 = .ok (.getfield 64, 3) := by decide +kernel
theorem dX7_twiceAt_8 : decode cX7_twiceAt 8 = .ok (.iload_n 2, 1) := by decide +kernel
theorem dX7_twiceAt_9 : decode cX7_twiceAt 9 = .ok (.iaload, 1) := by decide +kernel
theorem dX7_twiceAt_10 : decode cX7_twiceAt 10 = .ok (.laload, 1) := by decide +kernel
theorem dX7_twiceAt_11 : decode cX7_twiceAt 11 = .ok (.lstore_n 3, 1) := by decide +kernel
theorem dX7_twiceAt_12 : decode cX7_twiceAt 12 = .ok (.aload_n 0, 1) := by decide +kernel
theorem dX7_twiceAt_13 : decode cX7_twiceAt 13 = .ok (.getfield 18, 3) := by decide +kernel
theorem dX7_twiceAt_16 : decode cX7_twiceAt 16 = .ok (.aload_n 1, 1) := by decide +kernel
theorem dX7_twiceAt_17 : decode cX7_twiceAt 17 = .ok (.getfield 67, 3) := by decide +kernel
theorem dX7_twiceAt_20 : decode cX7_twiceAt 20 = .ok (.iload_n 2, 1) := by decide +kernel
theorem dX7_twiceAt_21 : decode cX7_twiceAt 21 = .ok (.iaload, 1) := by decide +kernel
theorem dX7_twiceAt_22 : decode cX7_twiceAt 22 = .ok (.laload, 1) := by decide +kernel
theorem dX7_twiceAt_23 : decode cX7_twiceAt 23 = .ok (.lstore 5, 2) := by decide +kernel
theorem dX7_twiceAt_25 : decode cX7_twiceAt 25 = .ok (.aload_n 1, 1) := by decide +kernel
theorem dX7_twiceAt_26 : decode cX7_twiceAt 26 = .ok (.getfield 70, 3) := by decide +kernel
theorem dX7_twiceAt_29 : decode cX7_twiceAt 29 = .ok (.iload_n 2, 1) := by decide +kernel
theorem dX7_twiceAt_30 : decode cX7_twiceAt 30 = .ok (.iaload, 1) := by decide +kernel
theorem dX7_twiceAt_31 : decode cX7_twiceAt 31 = .ok (.lookupswitch 82 #[(6, 49), (7, 56), (8, 63), (9, 70), (31, 77)], 49) := by decide +kernel
theorem dX7_twiceAt_80 : decode cX7_twiceAt 80 = .ok (.lload_n 3, 1) := by decide +kernel
theorem dX7_twiceAt_81 : decode cX7_twiceAt 81 = .ok (.lload 5, 2) := by decide +kernel
theorem dX7_twiceAt_83 : decode cX7_twiceAt 83 = .ok (.invokestatic 87, 3) := by decide +kernel
theorem dX7_twiceAt_86 : decode cX7_twiceAt 86 = .ok (.lreturn, 1) := by decide +kernel
theorem dX7_twiceAt_87 : decode cX7_twiceAt 87 = .ok (.lload_n 3, 1) := by decide +kernel
theorem dX7_twiceAt_88 : decode cX7_twiceAt 88 = .ok (.lload 5, 2) := by decide +kernel
theorem dX7_twiceAt_90 : decode cX7_twiceAt 90 = .ok (.invokestatic 91, 3) := by decide +kernel
theorem dX7_twiceAt_93 : decode cX7_twiceAt 93 = .ok (.lreturn, 1) := by decide +kernel
theorem dX7_twiceAt_94 : decode cX7_twiceAt 94 = .ok (.aload_n 0, 1) := by decide +kernel
theorem dX7_twiceAt_95 : decode cX7_twiceAt 95 = .ok (.aload_n 1, 1) := by decide +kernel
theorem dX7_twiceAt_96 : decode cX7_twiceAt 96 = .ok (.iload_n 2, 1) := by decide +kernel
theorem dX7_twiceAt_97 : decode cX7_twiceAt 97 = .ok (.invokevirtual 104, 3) := by decide +kernel
theorem dX7_twiceAt_100 : decode cX7_twiceAt 100 = .ok (.lreturn, 1) := by decide +kernel
theorem dX7_twiceAt_101 : decode cX7_twiceAt 101 = .ok (.aload_n 0, 1) := by decide +kernel
theorem dX7_twiceAt_102 : decode cX7_twiceAt 102 = .ok (.aload_n 1, 1) := by decide +kernel
theorem dX7_twiceAt_103 : decode cX7_twiceAt 103 = .ok (.iload_n 2, 1) := by decide +kernel
theorem dX7_twiceAt_104 : decode cX7_twiceAt 104 = .ok (.invokevirtual 107, 3) := by decide +kernel
theorem dX7_twiceAt_107 : decode cX7_twiceAt 107 = .ok (.lreturn, 1) := by decide +kernel
theorem dX7_twiceAt_108 : decode cX7_twiceAt 108 = .ok (.lload_n 3, 1) := by decide +kernel
theorem dX7_twiceAt_109 : decode cX7_twiceAt 109 = .ok (.invokestatic 100, 3) := by decide +kernel
theorem dX7_twiceAt_112 : decode cX7_twiceAt 112 = .ok (.lreturn, 1) := by decide +kernel
theorem dX7_twiceAt_113 : decode cX7_twiceAt 113 = .ok (.lload_n 3, 1) := by decide +kernel
theorem dX7_twiceAt_114 : decode cX7_twiceAt 114 = .ok (.lreturn, 1) := by decide +kernel
theorem dX7_addShare_0 : decode cX7_addShare 0 = .ok (.aload_n 0, 1) := by decide +kernel
theorem dX7_addShare_1 : decode cX7_addShare 1 = .ok (.iload_n 1, 1) := by decide +kernel
theorem dX7_addShare_2 : decode cX7_addShare 2 = .ok (.aload_n 0, 1) := by decide +kernel
theorem dX7_addShare_3 : decode cX7_addShare 3 = .ok (.iload_n 1, 1) := by decide +kernel
theorem dX7_addShare_4 : decode cX7_addShare 4 = .ok (.laload, 1) := by decide +kernel
theorem dX7_addShare_5 : decode cX7_addShare 5 = .ok (.lload_n 2, 1) := by decide +kernel
theorem dX7_addShare_6 : decode cX7_addShare 6 = .ok (.invokestatic 87, 3) := by decide +kernel
theorem dX7_addShare_9 : decode cX7_addShare 9 = .ok (.lastore, 1) := by decide +kernel
theorem dX7_addShare_10 : decode cX7_addShare 10 = .ok (.aload_n 0, 1) := by decide +kernel
theorem dX7_addShare_11 : decode cX7_addShare 11 = .ok (.iload_n 1, 1) := by decide +kernel
theorem dX7_addShare_12 : decode cX7_addShare 12 = .ok (.laload, 1) := by decide +kernel
theorem dX7_addShare_13 : decode cX7_addShare 13 = .ok (.lconst 0, 1) := by decide +kernel
theorem dX7_addShare_14 : decode cX7_addShare 14 = .ok (.lcmp, 1) := by decide +kernel
theorem dX7_addShare_15 : decode cX7_addShare 15 = .ok (.ifCond .eq 7, 3) := by decide +kernel
theorem dX7_addShare_18 : decode cX7_addShare 18 = .ok (.iconst 1, 1) := by decide +kernel
theorem dX7_addShare_19 : decode cX7_addShare 19 = .ok (.goto 4, 3) := by decide +kernel
theorem dX7_addShare_22 : decode cX7_addShare 22 = .ok (.iconst 0, 1) := by decide +kernel
theorem dX7_addShare_23 : decode cX7_addShare 23 = .ok (.ireturn, 1) := by decide +kernel
theorem dX7_handBack_0 : decode cX7_handBack 0 = .ok (.aload_n 2, 1) := by decide +kernel
theorem dX7_handBack_1 : decode cX7_handBack 1 = .ok (.iload_n 1, 1) := by decide +kernel
theorem dX7_handBack_2 : decode cX7_handBack 2 = .ok (.laload, 1) := by decide +kernel
theorem dX7_handBack_3 : decode cX7_handBack 3 = .ok (.lstore_n 3, 1) := by decide +kernel
theorem dX7_handBack_4 : decode cX7_handBack 4 = .ok (.aload_n 0, 1) := by decide +kernel
theorem dX7_handBack_5 : decode cX7_handBack 5 = .ok (.getfield 64, 3) := by decide +kernel
theorem dX7_handBack_8 : decode cX7_handBack 8 = .ok (.iload_n 1, 1) := by decide +kernel
theorem dX7_handBack_9 : decode cX7_handBack 9 = .ok (.iaload, 1) := by decide +kernel
theorem dX7_handBack_10 : decode cX7_handBack 10 = .ok (.istore 5, 2) := by decide +kernel
theorem dX7_handBack_12 : decode cX7_handBack 12 = .ok (.aload_n 0, 1) := by decide +kernel
theorem dX7_handBack_13 : decode cX7_handBack 13 = .ok (.getfield 67, 3) := by decide +kernel
theorem dX7_handBack_16 : decode cX7_handBack 16 = .ok (.iload_n 1, 1) := by decide +kernel
theorem dX7_handBack_17 : decode cX7_handBack 17 = .ok (.iaload, 1) := by decide +kernel
theorem dX7_handBack_18 : decode cX7_handBack 18 = .ok (.istore 6, 2) := by decide +kernel
theorem dX7_handBack_20 : decode cX7_handBack 20 = .ok (.aload_n 0, 1) := by decide +kernel
theorem dX7_handBack_21 : decode cX7_handBack 21 = .ok (.getfield 70, 3) := by decide +kernel
theorem dX7_handBack_24 : decode cX7_handBack 24 = .ok (.iload_n 1, 1) := by decide +kernel
theorem dX7_handBack_25 : decode cX7_handBack 25 = .ok (.iaload, 1) := by decide +kernel
theorem dX7_handBack_26 : decode cX7_handBack 26 = .ok (.lookupswitch 219 #[(6, 50), (7, 76), (8, 105), (9, 151), (31, 208)], 50) := by decide +kernel
theorem dX7_handBack_76 : decode cX7_handBack 76 = .ok (.aload_n 2, 1) := by decide +kernel
theorem dX7_handBack_77 : decode cX7_handBack 77 = .ok (.iload 5, 2) := by decide +kernel
theorem dX7_handBack_79 : decode cX7_handBack 79 = .ok (.lload_n 3, 1) := by decide +kernel
theorem dX7_handBack_80 : decode cX7_handBack 80 = .ok (.invokestatic 110, 3) := by decide +kernel
theorem dX7_handBack_83 : decode cX7_handBack 83 = .ok (.ifCond .eq 17, 3) := by decide +kernel
theorem dX7_handBack_86 : decode cX7_handBack 86 = .ok (.aload_n 2, 1) := by decide +kernel
theorem dX7_handBack_87 : decode cX7_handBack 87 = .ok (.iload 6, 2) := by decide +kernel
theorem dX7_handBack_89 : decode cX7_handBack 89 = .ok (.lload_n 3, 1) := by decide +kernel
theorem dX7_handBack_90 : decode cX7_handBack 90 = .ok (.invokestatic 110, 3) := by decide +kernel
theorem dX7_handBack_93 : decode cX7_handBack 93 = .ok (.ifCond .eq 7, 3) := by decide +kernel
theorem dX7_handBack_96 : decode cX7_handBack 96 = .ok (.iconst 1, 1) := by decide +kernel
theorem dX7_handBack_97 : decode cX7_handBack 97 = .ok (.goto 4, 3) := by decide +kernel
theorem dX7_handBack_100 : decode cX7_handBack 100 = .ok (.iconst 0, 1) := by decide +kernel
theorem dX7_handBack_101 : decode cX7_handBack 101 = .ok (.ireturn, 1) := by decide +kernel
theorem dX7_handBack_102 : decode cX7_handBack 102 = .ok (.aload_n 2, 1) := by decide +kernel
theorem dX7_handBack_103 : decode cX7_handBack 103 = .ok (.iload 5, 2) := by decide +kernel
theorem dX7_handBack_105 : decode cX7_handBack 105 = .ok (.lload_n 3, 1) := by decide +kernel
theorem dX7_handBack_106 : decode cX7_handBack 106 = .ok (.invokestatic 110, 3) := by decide +kernel
theorem dX7_handBack_109 : decode cX7_handBack 109 = .ok (.ifCond .eq 20, 3) := by decide +kernel
theorem dX7_handBack_112 : decode cX7_handBack 112 = .ok (.aload_n 2, 1) := by decide +kernel
theorem dX7_handBack_113 : decode cX7_handBack 113 = .ok (.iload 6, 2) := by decide +kernel
theorem dX7_handBack_115 : decode cX7_handBack 115 = .ok (.lload_n 3, 1) := by decide +kernel
theorem dX7_handBack_116 : decode cX7_handBack 116 = .ok (.invokestatic 100, 3) := by decide +kernel
theorem dX7_handBack_119 : decode cX7_handBack 119 = .ok (.invokestatic 110, 3) := by decide +kernel
theorem dX7_handBack_122 : decode cX7_handBack 122 = .ok (.ifCond .eq 7, 3) := by decide +kernel
theorem dX7_handBack_125 : decode cX7_handBack 125 = .ok (.iconst 1, 1) := by decide +kernel
theorem dX7_handBack_126 : decode cX7_handBack 126 = .ok (.goto 4, 3) := by decide +kernel
theorem dX7_handBack_129 : decode cX7_handBack 129 = .ok (.iconst 0, 1) := by decide +kernel
theorem dX7_handBack_130 : decode cX7_handBack 130 = .ok (.ireturn, 1) := by decide +kernel
theorem dX7_handBack_131 : decode cX7_handBack 131 = .ok (.aload_n 2, 1) := by decide +kernel
theorem dX7_handBack_132 : decode cX7_handBack 132 = .ok (.iload 5, 2) := by decide +kernel
theorem dX7_handBack_134 : decode cX7_handBack 134 = .ok (.lload_n 3, 1) := by decide +kernel
theorem dX7_handBack_135 : decode cX7_handBack 135 = .ok (.aload_n 0, 1) := by decide +kernel
theorem dX7_handBack_136 : decode cX7_handBack 136 = .ok (.getfield 84, 3) := by decide +kernel
theorem dX7_handBack_139 : decode cX7_handBack 139 = .ok (.iload 6, 2) := by decide +kernel
theorem dX7_handBack_141 : decode cX7_handBack 141 = .ok (.laload, 1) := by decide +kernel
theorem dX7_handBack_142 : decode cX7_handBack 142 = .ok (.invokestatic 94, 3) := by decide +kernel
theorem dX7_handBack_145 : decode cX7_handBack 145 = .ok (.invokestatic 110, 3) := by decide +kernel
theorem dX7_handBack_148 : decode cX7_handBack 148 = .ok (.ifCond .eq 27, 3) := by decide +kernel
theorem dX7_handBack_151 : decode cX7_handBack 151 = .ok (.aload_n 2, 1) := by decide +kernel
theorem dX7_handBack_152 : decode cX7_handBack 152 = .ok (.iload 6, 2) := by decide +kernel
theorem dX7_handBack_154 : decode cX7_handBack 154 = .ok (.aload_n 0, 1) := by decide +kernel
theorem dX7_handBack_155 : decode cX7_handBack 155 = .ok (.getfield 84, 3) := by decide +kernel
theorem dX7_handBack_158 : decode cX7_handBack 158 = .ok (.iload 5, 2) := by decide +kernel
theorem dX7_handBack_160 : decode cX7_handBack 160 = .ok (.laload, 1) := by decide +kernel
theorem dX7_handBack_161 : decode cX7_handBack 161 = .ok (.lload_n 3, 1) := by decide +kernel
theorem dX7_handBack_162 : decode cX7_handBack 162 = .ok (.invokestatic 94, 3) := by decide +kernel
theorem dX7_handBack_165 : decode cX7_handBack 165 = .ok (.invokestatic 110, 3) := by decide +kernel
theorem dX7_handBack_168 : decode cX7_handBack 168 = .ok (.ifCond .eq 7, 3) := by decide +kernel
theorem dX7_handBack_171 : decode cX7_handBack 171 = .ok (.iconst 1, 1) := by decide +kernel
theorem dX7_handBack_172 : decode cX7_handBack 172 = .ok (.goto 4, 3) := by decide +kernel
theorem dX7_handBack_175 : decode cX7_handBack 175 = .ok (.iconst 0, 1) := by decide +kernel
theorem dX7_handBack_176 : decode cX7_handBack 176 = .ok (.ireturn, 1) := by decide +kernel
theorem dX7_handBack_177 : decode cX7_handBack 177 = .ok (.lload_n 3, 1) := by decide +kernel
theorem dX7_handBack_178 : decode cX7_handBack 178 = .ok (.aload_n 0, 1) := by decide +kernel
theorem dX7_handBack_179 : decode cX7_handBack 179 = .ok (.getfield 84, 3) := by decide +kernel
theorem dX7_handBack_182 : decode cX7_handBack 182 = .ok (.iload 6, 2) := by decide +kernel
theorem dX7_handBack_184 : decode cX7_handBack 184 = .ok (.laload, 1) := by decide +kernel
theorem dX7_handBack_185 : decode cX7_handBack 185 = .ok (.invokestatic 97, 3) := by decide +kernel
theorem dX7_handBack_188 : decode cX7_handBack 188 = .ok (.lstore 7, 2) := by decide +kernel
theorem dX7_handBack_190 : decode cX7_handBack 190 = .ok (.aload_n 0, 1) := by decide +kernel
theorem dX7_handBack_191 : decode cX7_handBack 191 = .ok (.getfield 84, 3) := by decide +kernel
theorem dX7_handBack_194 : decode cX7_handBack 194 = .ok (.iload_n 1, 1) := by decide +kernel
theorem dX7_handBack_195 : decode cX7_handBack 195 = .ok (.laload, 1) := by decide +kernel
theorem dX7_handBack_196 : decode cX7_handBack 196 = .ok (.lload 7, 2) := by decide +kernel
theorem dX7_handBack_198 : decode cX7_handBack 198 = .ok (.invokestatic 94, 3) := by decide +kernel
theorem dX7_handBack_201 : decode cX7_handBack 201 = .ok (.invokestatic 100, 3) := by decide +kernel
theorem dX7_handBack_204 : decode cX7_handBack 204 = .ok (.lstore 9, 2) := by decide +kernel
theorem dX7_handBack_206 : decode cX7_handBack 206 = .ok (.aload_n 2, 1) := by decide +kernel
theorem dX7_handBack_207 : decode cX7_handBack 207 = .ok (.iload 5, 2) := by decide +kernel
theorem dX7_handBack_209 : decode cX7_handBack 209 = .ok (.lload 7, 2) := by decide +kernel
theorem dX7_handBack_211 : decode cX7_handBack 211 = .ok (.invokestatic 110, 3) := by decide +kernel
theorem dX7_handBack_214 : decode cX7_handBack 214 = .ok (.ifCond .eq 18, 3) := by decide +kernel
theorem dX7_handBack_217 : decode cX7_handBack 217 = .ok (.aload_n 2, 1) := by decide +kernel
theorem dX7_handBack_218 : decode cX7_handBack 218 = .ok (.iload 6, 2) := by decide +kernel
theorem dX7_handBack_220 : decode cX7_handBack 220 = .ok (.lload 9, 2) := by decide +kernel
theorem dX7_handBack_222 : decode cX7_handBack 222 = .ok (.invokestatic 110, 3) := by decide +kernel
theorem dX7_handBack_225 : decode cX7_handBack 225 = .ok (.ifCond .eq 7, 3) := by decide +kernel
theorem dX7_handBack_228 : decode cX7_handBack 228 = .ok (.iconst 1, 1) := by decide +kernel
theorem dX7_handBack_229 : decode cX7_handBack 229 = .ok (.goto 4, 3) := by decide +kernel
theorem dX7_handBack_232 : decode cX7_handBack 232 = .ok (.iconst 0, 1) := by decide +kernel
theorem dX7_handBack_233 : decode cX7_handBack 233 = .ok (.ireturn, 1) := by decide +kernel
theorem dX7_handBack_234 : decode cX7_handBack 234 = .ok (.aload_n 2, 1) := by decide +kernel
theorem dX7_handBack_235 : decode cX7_handBack 235 = .ok (.iload 5, 2) := by decide +kernel
theorem dX7_handBack_237 : decode cX7_handBack 237 = .ok (.lload_n 3, 1) := by decide +kernel
theorem dX7_handBack_238 : decode cX7_handBack 238 = .ok (.invokestatic 100, 3) := by decide +kernel
theorem dX7_handBack_241 : decode cX7_handBack 241 = .ok (.invokestatic 110, 3) := by decide +kernel
theorem dX7_handBack_244 : decode cX7_handBack 244 = .ok (.ireturn, 1) := by decide +kernel
theorem dX7_handBack_245 : decode cX7_handBack 245 = .ok (.aload_n 2, 1) := by decide +kernel
theorem dX7_handBack_246 : decode cX7_handBack 246 = .ok (.iload 5, 2) := by decide +kernel
theorem dX7_handBack_248 : decode cX7_handBack 248 = .ok (.lload_n 3, 1) := by decide +kernel
theorem dX7_handBack_249 : decode cX7_handBack 249 = .ok (.invokestatic 110, 3) := by decide +kernel
theorem dX7_handBack_252 : decode cX7_handBack 252 = .ok (.ireturn, 1) := by decide +kernel
theorem dX7_slopeForward_0 : decode cX7_slopeForward 0 = .ok (.aload_n 1, 1) := by decide +kernel
theorem dX7_slopeForward_1 : decode cX7_slopeForward 1 = .ok (.iload_n 2, 1) := by decide +kernel
theorem dX7_slopeForward_2 : decode cX7_slopeForward 2 = .ok (.invokevirtual 29, 3) := by decide +kernel
theorem dX7_slopeForward_5 : decode cX7_slopeForward 5 = .ok (.istore 4, 2) := by decide +kernel
theorem dX7_slopeForward_7 : decode cX7_slopeForward 7 = .ok (.aload_n 0, 1) := by decide +kernel
theorem dX7_slopeForward_8 : decode cX7_slopeForward 8 = .ok (.aload_n 1, 1) := by decide +kernel
theorem dX7_slopeForward_9 : decode cX7_slopeForward 9 = .ok (.iload 4, 2) := by decide +kernel
theorem dX7_slopeForward_11 : decode cX7_slopeForward 11 = .ok (.invokevirtual 33, 3) := by decide +kernel
theorem dX7_slopeForward_14 : decode cX7_slopeForward 14 = .ok (.aload_n 0, 1) := by decide +kernel
theorem dX7_slopeForward_15 : decode cX7_slopeForward 15 = .ok (.aload_n 1, 1) := by decide +kernel
theorem dX7_slopeForward_16 : decode cX7_slopeForward 16 = .ok (.iload 4, 2) := by decide +kernel
theorem dX7_slopeForward_18 : decode cX7_slopeForward 18 = .ok (.iload_n 3, 1) := by decide +kernel
theorem dX7_slopeForward_19 : decode cX7_slopeForward 19 = .ok (.aload_n 0, 1) := by decide +kernel
theorem dX7_slopeForward_20 : decode cX7_slopeForward 20 = .ok (.getfield 9, 3) := by decide +kernel
theorem dX7_slopeForward_23 : decode cX7_slopeForward 23 = .ok (.invokevirtual 37, 3) := by decide +kernel
theorem dX7_slopeForward_26 : decode cX7_slopeForward 26 = .ok (.aload_n 0, 1) := by decide +kernel
theorem dX7_slopeForward_27 : decode cX7_slopeForward 27 = .ok (.getfield 9, 3) := by decide +kernel
theorem dX7_slopeForward_30 : decode cX7_slopeForward 30 = .ok (.iload 4, 2) := by decide +kernel
theorem dX7_slopeForward_32 : decode cX7_slopeForward 32 = .ok (.laload, 1) := by decide +kernel
theorem dX7_slopeForward_33 : decode cX7_slopeForward 33 = .ok (.lreturn, 1) := by decide +kernel
theorem dX7_slopeTwice_0 : decode cX7_slopeTwice 0 = .ok (.aload_n 1, 1) := by decide +kernel
theorem dX7_slopeTwice_1 : decode cX7_slopeTwice 1 = .ok (.iload_n 2, 1) := by decide +kernel
theorem dX7_slopeTwice_2 : decode cX7_slopeTwice 2 = .ok (.invokevirtual 29, 3) := by decide +kernel
theorem dX7_slopeTwice_5 : decode cX7_slopeTwice 5 = .ok (.istore 5, 2) := by decide +kernel
theorem dX7_slopeTwice_7 : decode cX7_slopeTwice 7 = .ok (.aload_n 0, 1) := by decide +kernel
theorem dX7_slopeTwice_8 : decode cX7_slopeTwice 8 = .ok (.aload_n 1, 1) := by decide +kernel
theorem dX7_slopeTwice_9 : decode cX7_slopeTwice 9 = .ok (.iload 5, 2) := by decide +kernel
theorem dX7_slopeTwice_11 : decode cX7_slopeTwice 11 = .ok (.invokevirtual 33, 3) := by decide +kernel
theorem dX7_slopeTwice_14 : decode cX7_slopeTwice 14 = .ok (.aload_n 0, 1) := by decide +kernel
theorem dX7_slopeTwice_15 : decode cX7_slopeTwice 15 = .ok (.aload_n 1, 1) := by decide +kernel
theorem dX7_slopeTwice_16 : decode cX7_slopeTwice 16 = .ok (.iload 5, 2) := by decide +kernel
theorem dX7_slopeTwice_18 : decode cX7_slopeTwice 18 = .ok (.iload_n 3, 1) := by decide +kernel
theorem dX7_slopeTwice_19 : decode cX7_slopeTwice 19 = .ok (.aload_n 0, 1) := by decide +kernel
theorem dX7_slopeTwice_20 : decode cX7_slopeTwice 20 = .ok (.getfield 9, 3) := by decide +kernel
theorem dX7_slopeTwice_23 : decode cX7_slopeTwice 23 = .ok (.invokevirtual 37, 3) := by decide +kernel
theorem dX7_slopeTwice_26 : decode cX7_slopeTwice 26 = .ok (.aload_n 0, 1) := by decide +kernel
theorem dX7_slopeTwice_27 : decode cX7_slopeTwice 27 = .ok (.aload_n 1, 1) := by decide +kernel
theorem dX7_slopeTwice_28 : decode cX7_slopeTwice 28 = .ok (.iload 5, 2) := by decide +kernel
theorem dX7_slopeTwice_30 : decode cX7_slopeTwice 30 = .ok (.iload 4, 2) := by decide +kernel
theorem dX7_slopeTwice_32 : decode cX7_slopeTwice 32 = .ok (.aload_n 0, 1) := by decide +kernel
theorem dX7_slopeTwice_33 : decode cX7_slopeTwice 33 = .ok (.getfield 15, 3) := by decide +kernel
theorem dX7_slopeTwice_36 : decode cX7_slopeTwice 36 = .ok (.invokevirtual 37, 3) := by decide +kernel
theorem dX7_slopeTwice_39 : decode cX7_slopeTwice 39 = .ok (.iconst 0, 1) := by decide +kernel
theorem dX7_slopeTwice_40 : decode cX7_slopeTwice 40 = .ok (.istore 6, 2) := by decide +kernel
theorem dX7_slopeTwice_42 : decode cX7_slopeTwice 42 = .ok (.iload 6, 2) := by decide +kernel
theorem dX7_slopeTwice_44 : decode cX7_slopeTwice 44 = .ok (.iload 5, 2) := by decide +kernel
theorem dX7_slopeTwice_46 : decode cX7_slopeTwice 46 = .ok (.if_icmp .gt 66, 3) := by decide +kernel
theorem dX7_slopeTwice_49 : decode cX7_slopeTwice 49 = .ok (.iload 6, 2) := by decide +kernel
theorem dX7_slopeTwice_51 : decode cX7_slopeTwice 51 = .ok (.aload_n 1, 1) := by decide +kernel
theorem dX7_slopeTwice_52 : decode cX7_slopeTwice 52 = .ok (.getfield 41, 3) := by decide +kernel
theorem dX7_slopeTwice_55 : decode cX7_slopeTwice 55 = .ok (.if_icmp .ge 14, 3) := by decide +kernel
theorem dX7_slopeTwice_58 : decode cX7_slopeTwice 58 = .ok (.aload_n 0, 1) := by decide +kernel
theorem dX7_slopeTwice_59 : decode cX7_slopeTwice 59 = .ok (.getfield 18, 3) := by decide +kernel
theorem dX7_slopeTwice_62 : decode cX7_slopeTwice 62 = .ok (.iload 6, 2) := by decide +kernel
theorem dX7_slopeTwice_64 : decode cX7_slopeTwice 64 = .ok (.lconst 1, 1) := by decide +kernel
theorem dX7_slopeTwice_65 : decode cX7_slopeTwice 65 = .ok (.lastore, 1) := by decide +kernel
theorem dX7_slopeTwice_66 : decode cX7_slopeTwice 66 = .ok (.goto 40, 3) := by decide +kernel
theorem dX7_slopeTwice_69 : decode cX7_slopeTwice 69 = .ok (.aload_n 0, 1) := by decide +kernel
theorem dX7_slopeTwice_70 : decode cX7_slopeTwice 70 = .ok (.getfield 25, 3) := by decide +kernel
theorem dX7_slopeTwice_73 : decode cX7_slopeTwice 73 = .ok (.iload 6, 2) := by decide +kernel
theorem dX7_slopeTwice_75 : decode cX7_slopeTwice 75 = .ok (.baload, 1) := by decide +kernel
theorem dX7_slopeTwice_76 : decode cX7_slopeTwice 76 = .ok (.ifCond .eq 30, 3) := by decide +kernel
theorem dX7_slopeTwice_79 : decode cX7_slopeTwice 79 = .ok (.aload_n 0, 1) := by decide +kernel
theorem dX7_slopeTwice_80 : decode cX7_slopeTwice 80 = .ok (.getfield 18, 3) := by decide +kernel
theorem dX7_slopeTwice_83 : decode cX7_slopeTwice 83 = .ok (.iload 6, 2) := by decide +kernel
theorem dX7_slopeTwice_85 : decode cX7_slopeTwice 85 = .ok (.aload_n 0, 1) := by decide +kernel
theorem dX7_slopeTwice_86 : decode cX7_slopeTwice 86 = .ok (.iload 6, 2) := by decide +kernel
theorem dX7_slopeTwice_88 : decode cX7_slopeTwice 88 = .ok (.invokevirtual 47, 3) := by decide +kernel
theorem dX7_slopeTwice_91 : decode cX7_slopeTwice 91 = .ok (.ifCond .eq 13, 3) := by decide +kernel
theorem dX7_slopeTwice_94 : decode cX7_slopeTwice 94 = .ok (.aload_n 0, 1) := by decide +kernel
theorem dX7_slopeTwice_95 : decode cX7_slopeTwice 95 = .ok (.aload_n 1, 1) := by decide +kernel
theorem dX7_slopeTwice_96 : decode cX7_slopeTwice 96 = .ok (.iload 6, 2) := by decide +kernel
theorem dX7_slopeTwice_98 : decode cX7_slopeTwice 98 = .ok (.invokevirtual 51, 3) := by decide +kernel
theorem dX7_slopeTwice_101 : decode cX7_slopeTwice 101 = .ok (.goto 4, 3) := by decide +kernel
theorem dX7_slopeTwice_104 : decode cX7_slopeTwice 104 = .ok (.lconst 0, 1) := by decide +kernel
theorem dX7_slopeTwice_105 : decode cX7_slopeTwice 105 = .ok (.lastore, 1) := by decide +kernel
theorem dX7_slopeTwice_106 : decode cX7_slopeTwice 106 = .ok (.iinc 6 1, 3) := by decide +kernel
theorem dX7_slopeTwice_109 : decode cX7_slopeTwice 109 = .ok (.goto (-67), 3) := by decide +kernel
theorem dX7_slopeTwice_112 : decode cX7_slopeTwice 112 = .ok (.aload_n 0, 1) := by decide +kernel
theorem dX7_slopeTwice_113 : decode cX7_slopeTwice 113 = .ok (.getfield 18, 3) := by decide +kernel
theorem dX7_slopeTwice_116 : decode cX7_slopeTwice 116 = .ok (.iload 5, 2) := by decide +kernel
theorem dX7_slopeTwice_118 : decode cX7_slopeTwice 118 = .ok (.laload, 1) := by decide +kernel
theorem dX7_slopeTwice_119 : decode cX7_slopeTwice 119 = .ok (.lreturn, 1) := by decide +kernel
theorem dX7_slopeBackward_0 : decode cX7_slopeBackward 0 = .ok (.aload_n 1, 1) := by decide +kernel
theorem dX7_slopeBackward_1 : decode cX7_slopeBackward 1 = .ok (.iload_n 2, 1) := by decide +kernel
theorem dX7_slopeBackward_2 : decode cX7_slopeBackward 2 = .ok (.invokevirtual 29, 3) := by decide +kernel
theorem dX7_slopeBackward_5 : decode cX7_slopeBackward 5 = .ok (.istore 4, 2) := by decide +kernel
theorem dX7_slopeBackward_7 : decode cX7_slopeBackward 7 = .ok (.aload_n 0, 1) := by decide +kernel
theorem dX7_slopeBackward_8 : decode cX7_slopeBackward 8 = .ok (.getfield 9, 3) := by decide +kernel
theorem dX7_slopeBackward_11 : decode cX7_slopeBackward 11 = .ok (.astore 5, 2) := by decide +kernel
theorem dX7_slopeBackward_13 : decode cX7_slopeBackward 13 = .ok (.iconst 0, 1) := by decide +kernel
theorem dX7_slopeBackward_14 : decode cX7_slopeBackward 14 = .ok (.istore 6, 2) := by decide +kernel
theorem dX7_slopeBackward_16 : decode cX7_slopeBackward 16 = .ok (.iload 6, 2) := by decide +kernel
theorem dX7_slopeBackward_18 : decode cX7_slopeBackward 18 = .ok (.iload 4, 2) := by decide +kernel
theorem dX7_slopeBackward_20 : decode cX7_slopeBackward 20 = .ok (.if_icmp .gt 28, 3) := by decide +kernel
theorem dX7_slopeBackward_23 : decode cX7_slopeBackward 23 = .ok (.aload 5, 2) := by decide +kernel
theorem dX7_slopeBackward_25 : decode cX7_slopeBackward 25 = .ok (.iload 6, 2) := by decide +kernel
theorem dX7_slopeBackward_27 : decode cX7_slopeBackward 27 = .ok (.iload 6, 2) := by decide +kernel
theorem dX7_slopeBackward_29 : decode cX7_slopeBackward 29 = .ok (.iload 4, 2) := by decide +kernel
theorem dX7_slopeBackward_31 : decode cX7_slopeBackward 31 = .ok (.if_icmp .ne 9, 3) := by decide +kernel
theorem dX7_slopeBackward_34 : decode cX7_slopeBackward 34 = .ok (.ldc2_w 55, 3) := by decide +kernel
theorem dX7_slopeBackward_37 : decode cX7_slopeBackward 37 = .ok (.goto 4, 3) := by decide +kernel
theorem dX7_slopeBackward_40 : decode cX7_slopeBackward 40 = .ok (.lconst 1, 1) := by decide +kernel
theorem dX7_slopeBackward_41 : decode cX7_slopeBackward 41 = .ok (.lastore, 1) := by decide +kernel
theorem dX7_slopeBackward_42 : decode cX7_slopeBackward 42 = .ok (.iinc 6 1, 3) := by decide +kernel
theorem dX7_slopeBackward_45 : decode cX7_slopeBackward 45 = .ok (.goto (-29), 3) := by decide +kernel
theorem dX7_slopeBackward_48 : decode cX7_slopeBackward 48 = .ok (.iload 4, 2) := by decide +kernel
theorem dX7_slopeBackward_50 : decode cX7_slopeBackward 50 = .ok (.istore 6, 2) := by decide +kernel
theorem dX7_slopeBackward_52 : decode cX7_slopeBackward 52 = .ok (.iload 6, 2) := by decide +kernel
theorem dX7_slopeBackward_54 : decode cX7_slopeBackward 54 = .ok (.aload_n 1, 1) := by decide +kernel
theorem dX7_slopeBackward_55 : decode cX7_slopeBackward 55 = .ok (.getfield 41, 3) := by decide +kernel
theorem dX7_slopeBackward_58 : decode cX7_slopeBackward 58 = .ok (.if_icmp .lt 32, 3) := by decide +kernel
theorem dX7_slopeBackward_61 : decode cX7_slopeBackward 61 = .ok (.aload 5, 2) := by decide +kernel
theorem dX7_slopeBackward_63 : decode cX7_slopeBackward 63 = .ok (.iload 6, 2) := by decide +kernel
theorem dX7_slopeBackward_65 : decode cX7_slopeBackward 65 = .ok (.laload, 1) := by decide +kernel
theorem dX7_slopeBackward_66 : decode cX7_slopeBackward 66 = .ok (.lconst 1, 1) := by decide +kernel
theorem dX7_slopeBackward_67 : decode cX7_slopeBackward 67 = .ok (.lcmp, 1) := by decide +kernel
theorem dX7_slopeBackward_68 : decode cX7_slopeBackward 68 = .ok (.ifCond .eq 16, 3) := by decide +kernel
theorem dX7_slopeBackward_71 : decode cX7_slopeBackward 71 = .ok (.aload_n 1, 1) := by decide +kernel
theorem dX7_slopeBackward_72 : decode cX7_slopeBackward 72 = .ok (.iload 6, 2) := by decide +kernel
theorem dX7_slopeBackward_74 : decode cX7_slopeBackward 74 = .ok (.aload 5, 2) := by decide +kernel
theorem dX7_slopeBackward_76 : decode cX7_slopeBackward 76 = .ok (.invokestatic 57, 3) := by decide +kernel
theorem dX7_slopeBackward_79 : decode cX7_slopeBackward 79 = .ok (.ifCond .ne 5, 3) := by decide +kernel
theorem dX7_slopeBackward_82 : decode cX7_slopeBackward 82 = .ok (.lconst 0, 1) := by decide +kernel
theorem dX7_slopeBackward_83 : decode cX7_slopeBackward 83 = .ok (.lreturn, 1) := by decide +kernel
theorem dX7_slopeBackward_84 : decode cX7_slopeBackward 84 = .ok (.iinc 6 (-1), 3) := by decide +kernel
theorem dX7_slopeBackward_87 : decode cX7_slopeBackward 87 = .ok (.goto (-35), 3) := by decide +kernel
theorem dX7_slopeBackward_90 : decode cX7_slopeBackward 90 = .ok (.iload_n 3, 1) := by decide +kernel
theorem dX7_slopeBackward_91 : decode cX7_slopeBackward 91 = .ok (.iload 4, 2) := by decide +kernel
theorem dX7_slopeBackward_93 : decode cX7_slopeBackward 93 = .ok (.if_icmp .gt 10, 3) := by decide +kernel
theorem dX7_slopeBackward_96 : decode cX7_slopeBackward 96 = .ok (.aload 5, 2) := by decide +kernel
theorem dX7_slopeBackward_98 : decode cX7_slopeBackward 98 = .ok (.iload_n 3, 1) := by decide +kernel
theorem dX7_slopeBackward_99 : decode cX7_slopeBackward 99 = .ok (.laload, 1) := by decide +kernel
theorem dX7_slopeBackward_100 : decode cX7_slopeBackward 100 = .ok (.goto 4, 3) := by decide +kernel
theorem dX7_slopeBackward_103 : decode cX7_slopeBackward 103 = .ok (.lconst 1, 1) := by decide +kernel
theorem dX7_slopeBackward_104 : decode cX7_slopeBackward 104 = .ok (.lreturn, 1) := by decide +kernel
theorem dX7_moverBits_0 : decode cX7_moverBits 0 = .ok (.aload_n 1, 1) := by decide +kernel
theorem dX7_moverBits_1 : decode cX7_moverBits 1 = .ok (.iload_n 2, 1) := by decide +kernel
theorem dX7_moverBits_2 : decode cX7_moverBits 2 = .ok (.invokevirtual 29, 3) := by decide +kernel
theorem dX7_moverBits_5 : decode cX7_moverBits 5 = .ok (.istore_n 3, 1) := by decide +kernel
theorem dX7_moverBits_6 : decode cX7_moverBits 6 = .ok (.iconst 0, 1) := by decide +kernel
theorem dX7_moverBits_7 : decode cX7_moverBits 7 = .ok (.istore 4, 2) := by decide +kernel
theorem dX7_moverBits_9 : decode cX7_moverBits 9 = .ok (.iload 4, 2) := by decide +kernel
theorem dX7_moverBits_11 : decode cX7_moverBits 11 = .ok (.iload_n 3, 1) := by decide +kernel
theorem dX7_moverBits_12 : decode cX7_moverBits 12 = .ok (.if_icmp .gt 77, 3) := by decide +kernel
theorem dX7_moverBits_15 : decode cX7_moverBits 15 = .ok (.iload 4, 2) := by decide +kernel
theorem dX7_moverBits_17 : decode cX7_moverBits 17 = .ok (.aload_n 1, 1) := by decide +kernel
theorem dX7_moverBits_18 : decode cX7_moverBits 18 = .ok (.getfield 41, 3) := by decide +kernel
theorem dX7_moverBits_21 : decode cX7_moverBits 21 = .ok (.if_icmp .ge 30, 3) := by decide +kernel
theorem dX7_moverBits_24 : decode cX7_moverBits 24 = .ok (.aload_n 0, 1) := by decide +kernel
theorem dX7_moverBits_25 : decode cX7_moverBits 25 = .ok (.getfield 21, 3) := by decide +kernel
theorem dX7_moverBits_28 : decode cX7_moverBits 28 = .ok (.iload 4, 2) := by decide +kernel
theorem dX7_moverBits_30 : decode cX7_moverBits 30 = .ok (.iload 4, 2) := by decide +kernel
theorem dX7_moverBits_32 : decode cX7_moverBits 32 = .ok (.aload_n 1, 1) := by decide +kernel
theorem dX7_moverBits_33 : decode cX7_moverBits 33 = .ok (.getfield 61, 3) := by decide +kernel
theorem dX7_moverBits_36 : decode cX7_moverBits 36 = .ok (.if_icmp .ge 10, 3) := by decide +kernel
theorem dX7_moverBits_39 : decode cX7_moverBits 39 = .ok (.iconst 1, 1) := by decide +kernel
theorem dX7_moverBits_40 : decode cX7_moverBits 40 = .ok (.iload 4, 2) := by decide +kernel
theorem dX7_moverBits_42 : decode cX7_moverBits 42 = .ok (.ishl, 1) := by decide +kernel
theorem dX7_moverBits_43 : decode cX7_moverBits 43 = .ok (.goto 4, 3) := by decide +kernel
theorem dX7_moverBits_46 : decode cX7_moverBits 46 = .ok (.iconst 0, 1) := by decide +kernel
theorem dX7_moverBits_47 : decode cX7_moverBits 47 = .ok (.iastore, 1) := by decide +kernel
theorem dX7_moverBits_48 : decode cX7_moverBits 48 = .ok (.goto 35, 3) := by decide +kernel
theorem dX7_moverBits_51 : decode cX7_moverBits 51 = .ok (.aload_n 0, 1) := by decide +kernel
theorem dX7_moverBits_52 : decode cX7_moverBits 52 = .ok (.getfield 21, 3) := by decide +kernel
theorem dX7_moverBits_55 : decode cX7_moverBits 55 = .ok (.iload 4, 2) := by decide +kernel
theorem dX7_moverBits_57 : decode cX7_moverBits 57 = .ok (.aload_n 0, 1) := by decide +kernel
theorem dX7_moverBits_58 : decode cX7_moverBits 58 = .ok (.getfield 21, 3) := by decide +kernel
theorem dX7_moverBits_61 : decode cX7_moverBits 61 = .ok (.aload_n 1, 1) := by decide +kernel
theorem dX7_moverBits_62 : decode cX7_moverBits 62 = .ok (.getfield 64, 3) := by decide +kernel
theorem dX7_moverBits_65 : decode cX7_moverBits 65 = .ok (.iload 4, 2) := by decide +kernel
theorem dX7_moverBits_67 : decode cX7_moverBits 67 = .ok (.iaload, 1) := by decide +kernel
theorem dX7_moverBits_68 : decode cX7_moverBits 68 = .ok (.iaload, 1) := by decide +kernel
theorem dX7_moverBits_69 : decode cX7_moverBits 69 = .ok (.aload_n 0, 1) := by decide +kernel
theorem dX7_moverBits_70 : decode cX7_moverBits 70 = .ok (.getfield 21, 3) := by decide +kernel
theorem dX7_moverBits_73 : decode cX7_moverBits 73 = .ok (.aload_n 1, 1) := by decide +kernel
theorem dX7_moverBits_74 : decode cX7_moverBits 74 = .ok (.getfield 67, 3) := by decide +kernel
theorem dX7_moverBits_77 : decode cX7_moverBits 77 = .ok (.iload 4, 2) := by decide +kernel
theorem dX7_moverBits_79 : decode cX7_moverBits 79 = .ok (.iaload, 1) := by decide +kernel
theorem dX7_moverBits_80 : decode cX7_moverBits 80 = .ok (.iaload, 1) := by decide +kernel
theorem dX7_moverBits_81 : decode cX7_moverBits 81 = .ok (.ior, 1) := by decide +kernel
theorem dX7_moverBits_82 : decode cX7_moverBits 82 = .ok (.iastore, 1) := by decide +kernel
theorem dX7_moverBits_83 : decode cX7_moverBits 83 = .ok (.iinc 4 1, 3) := by decide +kernel
theorem dX7_moverBits_86 : decode cX7_moverBits 86 = .ok (.goto (-77), 3) := by decide +kernel
theorem dX7_moverBits_89 : decode cX7_moverBits 89 = .ok (.aload_n 0, 1) := by decide +kernel
theorem dX7_moverBits_90 : decode cX7_moverBits 90 = .ok (.getfield 21, 3) := by decide +kernel
theorem dX7_moverBits_93 : decode cX7_moverBits 93 = .ok (.iload_n 3, 1) := by decide +kernel
theorem dX7_moverBits_94 : decode cX7_moverBits 94 = .ok (.iaload, 1) := by decide +kernel
theorem dX7_moverBits_95 : decode cX7_moverBits 95 = .ok (.ireturn, 1) := by decide +kernel
theorem dX7_countWays_0 : decode cX7_countWays 0 = .ok (.aload_n 1, 1) := by decide +kernel
theorem dX7_countWays_1 : decode cX7_countWays 1 = .ok (.iload_n 2, 1) := by decide +kernel
theorem dX7_countWays_2 : decode cX7_countWays 2 = .ok (.invokevirtual 29, 3) := by decide +kernel
theorem dX7_countWays_5 : decode cX7_countWays 5 = .ok (.istore 4, 2) := by decide +kernel
theorem dX7_countWays_7 : decode cX7_countWays 7 = .ok (.iconst 0, 1) := by decide +kernel
theorem dX7_countWays_8 : decode cX7_countWays 8 = .ok (.istore 5, 2) := by decide +kernel
theorem dX7_countWays_10 : decode cX7_countWays 10 = .ok (.iload 5, 2) := by decide +kernel
theorem dX7_countWays_12 : decode cX7_countWays 12 = .ok (.iload 4, 2) := by decide +kernel
theorem dX7_countWays_14 : decode cX7_countWays 14 = .ok (.if_icmp .gt 122, 3) := by decide +kernel
theorem dX7_countWays_17 : decode cX7_countWays 17 = .ok (.iload 5, 2) := by decide +kernel
theorem dX7_countWays_19 : decode cX7_countWays 19 = .ok (.aload_n 1, 1) := by decide +kernel
theorem dX7_countWays_20 : decode cX7_countWays 20 = .ok (.getfield 41, 3) := by decide +kernel
theorem dX7_countWays_23 : decode cX7_countWays 23 = .ok (.if_icmp .ge 24, 3) := by decide +kernel
theorem dX7_countWays_26 : decode cX7_countWays 26 = .ok (.aload_n 0, 1) := by decide +kernel
theorem dX7_countWays_27 : decode cX7_countWays 27 = .ok (.getfield 21, 3) := by decide +kernel
theorem dX7_countWays_30 : decode cX7_countWays 30 = .ok (.iload 5, 2) := by decide +kernel
theorem dX7_countWays_32 : decode cX7_countWays 32 = .ok (.iload 5, 2) := by decide +kernel
theorem dX7_countWays_34 : decode cX7_countWays 34 = .ok (.iload_n 3, 1) := by decide +kernel
theorem dX7_countWays_35 : decode cX7_countWays 35 = .ok (.if_icmp .ne 7, 3) := by decide +kernel
theorem dX7_countWays_38 : decode cX7_countWays 38 = .ok (.iconst 1, 1) := by decide +kernel
theorem dX7_countWays_39 : decode cX7_countWays 39 = .ok (.goto 4, 3) := by decide +kernel
theorem dX7_countWays_42 : decode cX7_countWays 42 = .ok (.iconst 0, 1) := by decide +kernel
theorem dX7_countWays_43 : decode cX7_countWays 43 = .ok (.iastore, 1) := by decide +kernel
theorem dX7_countWays_44 : decode cX7_countWays 44 = .ok (.goto 86, 3) := by decide +kernel
theorem dX7_countWays_47 : decode cX7_countWays 47 = .ok (.aload_n 1, 1) := by decide +kernel
theorem dX7_countWays_48 : decode cX7_countWays 48 = .ok (.getfield 70, 3) := by decide +kernel
theorem dX7_countWays_51 : decode cX7_countWays 51 = .ok (.iload 5, 2) := by decide +kernel
theorem dX7_countWays_53 : decode cX7_countWays 53 = .ok (.iaload, 1) := by decide +kernel
theorem dX7_countWays_54 : decode cX7_countWays 54 = .ok (.bipush 30, 2) := by decide +kernel
theorem dX7_countWays_56 : decode cX7_countWays 56 = .ok (.if_icmp .eq 15, 3) := by decide +kernel
theorem dX7_countWays_59 : decode cX7_countWays 59 = .ok (.aload_n 1, 1) := by decide +kernel
theorem dX7_countWays_60 : decode cX7_countWays 60 = .ok (.getfield 70, 3) := by decide +kernel
theorem dX7_countWays_63 : decode cX7_countWays 63 = .ok (.iload 5, 2) := by decide +kernel
theorem dX7_countWays_65 : decode cX7_countWays 65 = .ok (.iaload, 1) := by decide +kernel
theorem dX7_countWays_66 : decode cX7_countWays 66 = .ok (.bipush 31, 2) := by decide +kernel
theorem dX7_countWays_68 : decode cX7_countWays 68 = .ok (.if_icmp .ne 25, 3) := by decide +kernel
theorem dX7_countWays_71 : decode cX7_countWays 71 = .ok (.aload_n 0, 1) := by decide +kernel
theorem dX7_countWays_72 : decode cX7_countWays 72 = .ok (.getfield 21, 3) := by decide +kernel
theorem dX7_countWays_75 : decode cX7_countWays 75 = .ok (.iload 5, 2) := by decide +kernel
theorem dX7_countWays_77 : decode cX7_countWays 77 = .ok (.aload_n 0, 1) := by decide +kernel
theorem dX7_countWays_78 : decode cX7_countWays 78 = .ok (.getfield 21, 3) := by decide +kernel
theorem dX7_countWays_81 : decode cX7_countWays 81 = .ok (.aload_n 1, 1) := by decide +kernel
theorem dX7_countWays_82 : decode cX7_countWays 82 = .ok (.getfield 64, 3) := by decide +kernel
theorem dX7_countWays_85 : decode cX7_countWays 85 = .ok (.iload 5, 2) := by decide +kernel
theorem dX7_countWays_87 : decode cX7_countWays 87 = .ok (.iaload, 1) := by decide +kernel
theorem dX7_countWays_88 : decode cX7_countWays 88 = .ok (.iaload, 1) := by decide +kernel
theorem dX7_countWays_89 : decode cX7_countWays 89 = .ok (.iastore, 1) := by decide +kernel
theorem dX7_countWays_90 : decode cX7_countWays 90 = .ok (.goto 40, 3) := by decide +kernel
theorem dX7_countWays_93 : decode cX7_countWays 93 = .ok (.aload_n 0, 1) := by decide +kernel
theorem dX7_countWays_94 : decode cX7_countWays 94 = .ok (.getfield 21, 3) := by decide +kernel
theorem dX7_countWays_97 : decode cX7_countWays 97 = .ok (.iload 5, 2) := by decide +kernel
theorem dX7_countWays_99 : decode cX7_countWays 99 = .ok (.ldc 73, 2) := by decide +kernel
theorem dX7_countWays_101 : decode cX7_countWays 101 = .ok (.aload_n 0, 1) := by decide +kernel
theorem dX7_countWays_102 : decode cX7_countWays 102 = .ok (.getfield 21, 3) := by decide +kernel
theorem dX7_countWays_105 : decode cX7_countWays 105 = .ok (.aload_n 1, 1) := by decide +kernel
theorem dX7_countWays_106 : decode cX7_countWays 106 = .ok (.getfield 64, 3) := by decide +kernel
theorem dX7_countWays_109 : decode cX7_countWays 109 = .ok (.iload 5, 2) := by decide +kernel
theorem dX7_countWays_111 : decode cX7_countWays 111 = .ok (.iaload, 1) := by decide +kernel
theorem dX7_countWays_112 : decode cX7_countWays 112 = .ok (.iaload, 1) := by decide +kernel
theorem dX7_countWays_113 : decode cX7_countWays 113 = .ok (.aload_n 0, 1) := by decide +kernel
theorem dX7_countWays_114 : decode cX7_countWays 114 = .ok (.getfield 21, 3) := by decide +kernel
theorem dX7_countWays_117 : decode cX7_countWays 117 = .ok (.aload_n 1, 1) := by decide +kernel
theorem dX7_countWays_118 : decode cX7_countWays 118 = .ok (.getfield 67, 3) := by decide +kernel
theorem dX7_countWays_121 : decode cX7_countWays 121 = .ok (.iload 5, 2) := by decide +kernel
theorem dX7_countWays_123 : decode cX7_countWays 123 = .ok (.iaload, 1) := by decide +kernel
theorem dX7_countWays_124 : decode cX7_countWays 124 = .ok (.iaload, 1) := by decide +kernel
theorem dX7_countWays_125 : decode cX7_countWays 125 = .ok (.iadd, 1) := by decide +kernel
theorem dX7_countWays_126 : decode cX7_countWays 126 = .ok (.invokestatic 74, 3) := by decide +kernel
theorem dX7_countWays_129 : decode cX7_countWays 129 = .ok (.iastore, 1) := by decide +kernel
theorem dX7_countWays_130 : decode cX7_countWays 130 = .ok (.iinc 5 1, 3) := by decide +kernel
theorem dX7_countWays_133 : decode cX7_countWays 133 = .ok (.goto (-123), 3) := by decide +kernel
theorem dX7_countWays_136 : decode cX7_countWays 136 = .ok (.aload_n 0, 1) := by decide +kernel
theorem dX7_countWays_137 : decode cX7_countWays 137 = .ok (.getfield 21, 3) := by decide +kernel
theorem dX7_countWays_140 : decode cX7_countWays 140 = .ok (.iload 4, 2) := by decide +kernel
theorem dX7_countWays_142 : decode cX7_countWays 142 = .ok (.iaload, 1) := by decide +kernel
theorem dX7_countWays_143 : decode cX7_countWays 143 = .ok (.ireturn, 1) := by decide +kernel
def v_s_markHanging : List Cond := .code yX7_markHanging cX7_markHanging 4 none :: ([.fieldLink RX7 41 "SlopeRunner$Tape" "firstStep" "I", .fieldLink RX7 25 "SlopeRunner$Slopes" "hangs" "[Z", .fieldLink RX7 64 "SlopeRunner$Tape" "left" "[I", .fieldLink RX7 67 "SlopeRunner$Tape" "right" "[I"] ++ (wsX80 ++ wsX70))
set_option maxHeartbeats 4000000 in
set_option maxRecDepth 100000 in
theorem s_markHanging (l : Launch) (D : va_G) (y : Nat → ClassId) (sz : Nat) (ad : Nat → Nat) (σ : OS) (z : Int32) (hz0 : 0 ≤ z.toInt) (hz1 : z.toInt ≤ 1358) (hfs0 : 0 ≤ (σ.1 138).toInt)  (hB133 : bI (σ.2.2.1 133) 0 1358) (hB134 : bI (σ.2.2.1 134) 0 1358) : Met l yX7_markHanging v_s_markHanging ({ frames := 0, cells := 0, slots := 0, locals := 0 } : Room) (va_Pc [.ref (ad 170), .ref (ad 130), .int z] (xPre D (xT y) (slw y ad σ) sz)) (va_Qv (fun (u : (Nat → Int32)) => True) (fun (u : (Nat → Int32)) => xB D (xT y) (va_A (slw y ad σ) sz) (slw y ad (tI σ 175 u))) (va_A (slw y ad σ) sz)) 0 0 (va_A (slw y ad σ) sz) := by
  refine x_metv (cc := cX7_markHanging) (maxL := 4) (by decide) rfl (Nat.le_of_ble_eq_true rfl) ?_
  intro p e s m below meth c A H locs Q hx hb hml hown hts hr hlocks hmn hA hP hK hD hS ls hl hQ
  have hl : lv_has ls 4 [(0, .ref (ad 170)), (1, .ref (ad 130)), (2, .int z)] := hl
  have fl41 := hts (.fieldLink RX7 41 "SlopeRunner$Tape" "firstStep" "I") (List.mem_of_getElem? (i := 1) rfl)
  have inX8 : ∀ w ∈ wsX80, w ∈ v_s_markHanging := (fun w h => List.mem_cons_of_mem _ (List.mem_append_right _ (List.mem_append_left _ h)))
  have fl25 := hts (.fieldLink RX7 25 "SlopeRunner$Slopes" "hangs" "[Z") (List.mem_of_getElem? (i := 2) rfl)
  have inX7 : ∀ w ∈ wsX70, w ∈ v_s_markHanging := (fun w h => List.mem_cons_of_mem _ (List.mem_append_right _ (List.mem_append_right _ h)))
  have kk_0 : (0 : Int32).toInt = 0 := rfl
  have kk_m1 : ((-1) : Int32).toInt = -1 := rfl
  have fl64 := hts (.fieldLink RX7 64 "SlopeRunner$Tape" "left" "[I") (List.mem_of_getElem? (i := 3) rfl)
  have fl67 := hts (.fieldLink RX7 67 "SlopeRunner$Tape" "right" "[I") (List.mem_of_getElem? (i := 4) rfl)
  have kk_1 : (1 : Int32).toInt = 1 := rfl
  refine lv_iconst (v := 0) hx hb dX7_markHanging_0 (by decide) ?_
  refine lv_istore_n (lv' := [(3, .int 0), (0, .ref (ad 170)), (1, .ref (ad 130)), (2, .int z)]) hx hb dX7_markHanging_1 rfl hl (by decide) rfl (fun ls hl => ?_)
  have l00 : (0 : Int32).toInt = 0 := rfl
  have hP : va_P D vwCl (slw y ad (tI σ 175 (σ.2.2.1 175))) H := hP
  have hD : va_D A (slw y ad (tI σ 175 (σ.2.2.1 175))) := hD
  have loop : ∀ (fu : Nat) (i9 : Int32) (fh : Nat → Int32) (H : Heap) (locs : List Loc) (ls : Array Slot), (0 ≤ i9.toInt) → (i9.toInt ≤ z.toInt + 1) → (z.toInt + 1 - i9.toInt < (fu : Int)) → va_P D vwCl (slw y ad (tI σ 175 fh)) H → va_D A (slw y ad (tI σ 175 fh)) → va_S A s.heap H locs → lv_has ls 4 [(3, .int i9), (2, .int z), (1, .ref (ad 130)), (0, .ref (ad 170))] → W p l e ({ frames := 0, cells := 0, slots := 0, locals := 0 } : Room) s m ([.ref (ad 170), .ref (ad 130), .int z] : List Value).toArray below meth c H locs 0 0 Q (F0 m 2 ls []) := by
    intro fu
    induction fu with
    | zero =>
      intro i9 fh H locs ls hi0 hi1 hm
      exact absurd hm (by omega)
    | succ fu ih_loop =>
      intro i9 fh H locs ls hi0 hi1 hm hP hD hS hl
      refine lv_iload_n hx hb dX7_markHanging_2 rfl (lv_at hl 0 rfl) ?_
      refine lv_iload_n hx hb dX7_markHanging_3 rfl (lv_at hl 1 rfl) ?_
      refine lv_icmp_gt (tgt := 29) hx hb dX7_markHanging_4 (by decide) (fun c_1 => ?_) (fun c_1 => ?_)
      · have kc_1 : i9.toInt > z.toInt := by have h9 := c_1; simp only [ge_iff_le, gt_iff_lt, x_lt, x_le, x_eq, ne_eq, Int32.not_lt, Int32.not_le] at h9; omega
        refine lv_iload_n hx hb dX7_markHanging_29 rfl (lv_at hl 1 rfl) ?_
        refine lv_istore_n (lv' := [(3, .int z), (2, .int z), (1, .ref (ad 130)), (0, .ref (ad 170))]) hx hb dX7_markHanging_30 rfl hl (by decide) rfl (fun ls hl => ?_)
        have loop2 : ∀ (fu : Nat) (j : Int32) (fg : Nat → Int32) (H : Heap) (locs : List Loc) (ls : Array Slot), (-1 ≤ j.toInt) → (j.toInt ≤ z.toInt) → (j.toInt + 1 < (fu : Int)) → va_P D vwCl (slw y ad (tI σ 175 fg)) H → va_D A (slw y ad (tI σ 175 fg)) → va_S A s.heap H locs → lv_has ls 4 [(3, .int j), (2, .int z), (1, .ref (ad 130)), (0, .ref (ad 170))] → W p l e ({ frames := 0, cells := 0, slots := 0, locals := 0 } : Room) s m ([.ref (ad 170), .ref (ad 130), .int z] : List Value).toArray below meth c H locs 0 0 Q (F0 m 31 ls []) := by
          intro fu
          induction fu with
          | zero =>
            intro j fg H locs ls hj0 hj1 hm
            exact absurd hm (by omega)
          | succ fu ih_loop2 =>
            intro j fg H locs ls hj0 hj1 hm hP hD hS hl
            refine lv_iload_n hx hb dX7_markHanging_31 rfl (lv_at hl 0 rfl) ?_
            refine lv_aload_n hx hb dX7_markHanging_32 rfl (lv_at hl 2 rfl) ?_
            refine va_get (D := D) (ci := 7) (v := .int (σ.1 138)) (C := RX8) (T := TX8) (N := 13) hx hb hts inX8 hown hK hP 1 slw_o1 rfl 7 (by decide) fl41 (fun _ h9 => h9) rfl dX7_markHanging_33 ?_
            refine lv_icmp_lt (tgt := 78) hx hb dX7_markHanging_36 (by decide) (fun c_2 => ?_) (fun c_2 => ?_)
            · have kc_2 : j.toInt < (σ.1 138).toInt := by have h9 := c_2; simp only [ge_iff_le, gt_iff_lt, x_lt, x_le, x_eq, ne_eq, Int32.not_lt, Int32.not_le] at h9; omega
              exact x_vretW (u := fg) hx hb hr hQ trivial hP hD hK hS dX7_markHanging_78 hlocks
            · have kc_2 : j.toInt ≥ (σ.1 138).toInt := by have h9 := c_2; simp only [ge_iff_le, gt_iff_lt, x_lt, x_le, x_eq, ne_eq, Int32.not_lt, Int32.not_le] at h9; omega
              refine lv_aload_n hx hb dX7_markHanging_39 rfl (lv_at hl 3 rfl) ?_
              refine va_get (D := D) (ci := 6) (v := .ref (ad 175)) (C := RX7) (T := TX7) (N := 5) hx hb hts inX7 hown hK hP 0 slw_o0 rfl 4 (by decide) fl25 (fun _ h9 => h9) rfl dX7_markHanging_40 ?_
              refine lv_iload_n hx hb dX7_markHanging_43 rfl (lv_at hl 0 rfl) ?_
              refine va_zald hx hb hK hP 6 4 slw_a6 rfl (x_in (by omega) (by omega)) dX7_markHanging_44 ?_
              refine lv_topi (fun i_3 ei_3 => ?_)
              have ei_3 : i_3 = fg (Int32.toNatClampNeg j) := ei_3
              refine lv_if_eq (tgt := 72) hx hb dX7_markHanging_45 (by decide) (fun c_4 => ?_) (fun c_4 => ?_)
              · have kc_4 : i_3.toInt = 0 := by have h9 := c_4; simp only [ge_iff_le, gt_iff_lt, x_lt, x_le, x_eq, ne_eq, Int32.not_lt, Int32.not_le] at h9; simp only [Int32.reduceToInt] at h9; omega
                obtain ⟨i_5, ei_5⟩ : ∃ z9 : Int32, z9 = j + (-1) := ⟨_, rfl⟩
                have vi_5 : i_5.toInt = j.toInt + (-1) := by have h9 := x_add ei_5 (by omega) (by omega); omega
                refine lv_iinc (v := i_5) (lv' := [(3, .int i_5), (2, .int z), (1, .ref (ad 130)), (0, .ref (ad 170))]) hx hb dX7_markHanging_72 hl (k := 0) rfl (by rw [ei_5]; rfl) (by decide) rfl (fun ls hl => ?_)
                refine lv_goto (tgt := 31) hx hb dX7_markHanging_75 (by decide) ?_
                exact ih_loop2 i_5 fg H locs ls (by omega) (by omega) (by omega) hP hD hS (lv_sub hl [0, 1, 2, 3] rfl)
              · have kc_4 : i_3.toInt ≠ 0 := by have h9 := c_4; simp only [ge_iff_le, gt_iff_lt, x_lt, x_le, x_eq, ne_eq, Int32.not_lt, Int32.not_le] at h9; simp only [Int32.reduceToInt] at h9; omega
                refine lv_aload_n hx hb dX7_markHanging_48 rfl (lv_at hl 3 rfl) ?_
                refine va_get (D := D) (ci := 6) (v := .ref (ad 175)) (C := RX7) (T := TX7) (N := 5) hx hb hts inX7 hown hK hP 0 slw_o0 rfl 4 (by decide) fl25 (fun _ h9 => h9) rfl dX7_markHanging_49 ?_
                refine lv_aload_n hx hb dX7_markHanging_52 rfl (lv_at hl 2 rfl) ?_
                refine va_get (D := D) (ci := 7) (v := .ref (ad 133)) (C := RX8) (T := TX8) (N := 13) hx hb hts inX8 hown hK hP 1 slw_o1 rfl 2 (by decide) fl64 (fun _ h9 => h9) rfl dX7_markHanging_53 ?_
                refine lv_iload_n hx hb dX7_markHanging_56 rfl (lv_at hl 0 rfl) ?_
                refine va_iald hx hb hK hP 9 2 slw_a9 rfl (x_in (by omega) (by omega)) dX7_markHanging_57 ?_
                refine lv_topi (fun i_6 ei_6 => ?_)
                have ei_6 : i_6 = (σ.2.2.1 133) (Int32.toNatClampNeg j) := ei_6
                have bi_6 := b_at hB133 ei_6
                refine lv_iconst (v := 1) hx hb dX7_markHanging_58 (by decide) ?_
                refine va_zast hx hb hK hP hD hS 6 4 slw_a6 rfl (x_in (by omega) (by omega)) dX7_markHanging_59 (fun H locs hP hD hS => ?_)
                obtain ⟨f_7, ef_7⟩ : ∃ z9 : Nat → Int32, z9 = (upd fg (Int32.toNatClampNeg i_6) (vp_nar .boolean 1)) := ⟨_, rfl⟩
                have hP : va_P D vwCl (slw y ad (tI (tI σ 175 fg) 175 f_7)) H := by rw [ef_7]; exact x_trP hP slw_s6
                have hD : va_D A (slw y ad (tI (tI σ 175 fg) 175 f_7)) := by rw [ef_7]; exact x_trD hD slw_s6
                refine lv_aload_n hx hb dX7_markHanging_60 rfl (lv_at hl 3 rfl) ?_
                refine va_get (D := D) (ci := 6) (v := .ref (ad 175)) (C := RX7) (T := TX7) (N := 5) hx hb hts inX7 hown hK hP 0 slw_o0 rfl 4 (by decide) fl25 (fun _ h9 => h9) rfl dX7_markHanging_61 ?_
                refine lv_aload_n hx hb dX7_markHanging_64 rfl (lv_at hl 2 rfl) ?_
                refine va_get (D := D) (ci := 7) (v := .ref (ad 134)) (C := RX8) (T := TX8) (N := 13) hx hb hts inX8 hown hK hP 1 slw_o1 rfl 3 (by decide) fl67 (fun _ h9 => h9) rfl dX7_markHanging_65 ?_
                refine lv_iload_n hx hb dX7_markHanging_68 rfl (lv_at hl 0 rfl) ?_
                refine va_iald hx hb hK hP 10 2 slw_a10 rfl (x_in (by omega) (by omega)) dX7_markHanging_69 ?_
                refine lv_topi (fun i_8 ei_8 => ?_)
                have ei_8 : i_8 = (σ.2.2.1 134) (Int32.toNatClampNeg j) := ei_8
                have bi_8 := b_at hB134 ei_8
                refine lv_iconst (v := 1) hx hb dX7_markHanging_70 (by decide) ?_
                refine va_zast hx hb hK hP hD hS 6 4 slw_a6 rfl (x_in (by omega) (by omega)) dX7_markHanging_71 (fun H locs hP hD hS => ?_)
                obtain ⟨f_9, ef_9⟩ : ∃ z9 : Nat → Int32, z9 = (upd f_7 (Int32.toNatClampNeg i_8) (vp_nar .boolean 1)) := ⟨_, rfl⟩
                have hP : va_P D vwCl (slw y ad (tI (tI (tI σ 175 fg) 175 f_7) 175 f_9)) H := by rw [ef_9]; exact x_trP hP slw_s6
                have hD : va_D A (slw y ad (tI (tI (tI σ 175 fg) 175 f_7) 175 f_9)) := by rw [ef_9]; exact x_trD hD slw_s6
                obtain ⟨i_10, ei_10⟩ : ∃ z9 : Int32, z9 = j + (-1) := ⟨_, rfl⟩
                have vi_10 : i_10.toInt = j.toInt + (-1) := by have h9 := x_add ei_10 (by omega) (by omega); omega
                refine lv_iinc (v := i_10) (lv' := [(3, .int i_10), (2, .int z), (1, .ref (ad 130)), (0, .ref (ad 170))]) hx hb dX7_markHanging_72 hl (k := 0) rfl (by rw [ei_10]; rfl) (by decide) rfl (fun ls hl => ?_)
                refine lv_goto (tgt := 31) hx hb dX7_markHanging_75 (by decide) ?_
                have hP : va_P D vwCl (slw y ad (tI σ 175 f_9)) H := hP
                have hD : va_D A (slw y ad (tI σ 175 f_9)) := hD
                exact ih_loop2 i_10 f_9 H locs ls (by omega) (by omega) (by omega) hP hD hS (lv_sub hl [0, 1, 2, 3] rfl)
        exact loop2 1360 z fh H locs ls (by omega) (by omega) (by omega) hP hD hS (lv_sub hl [0, 1, 2, 3] rfl)
      · have kc_1 : i9.toInt ≤ z.toInt := by have h9 := c_1; simp only [ge_iff_le, gt_iff_lt, x_lt, x_le, x_eq, ne_eq, Int32.not_lt, Int32.not_le] at h9; omega
        refine lv_aload_n hx hb dX7_markHanging_7 rfl (lv_at hl 3 rfl) ?_
        refine va_get (D := D) (ci := 6) (v := .ref (ad 175)) (C := RX7) (T := TX7) (N := 5) hx hb hts inX7 hown hK hP 0 slw_o0 rfl 4 (by decide) fl25 (fun _ h9 => h9) rfl dX7_markHanging_8 ?_
        refine lv_iload_n hx hb dX7_markHanging_11 rfl (lv_at hl 0 rfl) ?_
        refine lv_iload_n hx hb dX7_markHanging_12 rfl (lv_at hl 0 rfl) ?_
        refine lv_iload_n hx hb dX7_markHanging_13 rfl (lv_at hl 1 rfl) ?_
        refine lv_icmp_ne (tgt := 21) hx hb dX7_markHanging_14 (by decide) (fun c_11 => ?_) (fun c_11 => ?_)
        · have kc_11 : i9.toInt ≠ z.toInt := by have h9 := c_11; simp only [ge_iff_le, gt_iff_lt, x_lt, x_le, x_eq, ne_eq, Int32.not_lt, Int32.not_le] at h9; omega
          refine lv_iconst (v := 0) hx hb dX7_markHanging_21 (by decide) ?_
          refine va_zast hx hb hK hP hD hS 6 4 slw_a6 rfl (x_in (by omega) (by omega)) dX7_markHanging_22 (fun H locs hP hD hS => ?_)
          obtain ⟨f_12, ef_12⟩ : ∃ z9 : Nat → Int32, z9 = (upd fh (Int32.toNatClampNeg i9) (vp_nar .boolean 0)) := ⟨_, rfl⟩
          have hP : va_P D vwCl (slw y ad (tI (tI σ 175 fh) 175 f_12)) H := by rw [ef_12]; exact x_trP hP slw_s6
          have hD : va_D A (slw y ad (tI (tI σ 175 fh) 175 f_12)) := by rw [ef_12]; exact x_trD hD slw_s6
          obtain ⟨i_13, ei_13⟩ : ∃ z9 : Int32, z9 = i9 + 1 := ⟨_, rfl⟩
          have vi_13 : i_13.toInt = i9.toInt + 1 := by have h9 := x_add ei_13 (by omega) (by omega); omega
          refine lv_iinc (v := i_13) (lv' := [(3, .int i_13), (2, .int z), (1, .ref (ad 130)), (0, .ref (ad 170))]) hx hb dX7_markHanging_23 hl (k := 0) rfl (by rw [ei_13]; rfl) (by decide) rfl (fun ls hl => ?_)
          refine lv_goto (tgt := 2) hx hb dX7_markHanging_26 (by decide) ?_
          have hP : va_P D vwCl (slw y ad (tI σ 175 f_12)) H := hP
          have hD : va_D A (slw y ad (tI σ 175 f_12)) := hD
          exact ih_loop i_13 f_12 H locs ls (by omega) (by omega) (by omega) hP hD hS (lv_sub hl [0, 1, 2, 3] rfl)
        · have kc_11 : i9.toInt = z.toInt := by have h9 := c_11; simp only [ge_iff_le, gt_iff_lt, x_lt, x_le, x_eq, ne_eq, Int32.not_lt, Int32.not_le] at h9; omega
          refine lv_iconst (v := 1) hx hb dX7_markHanging_17 (by decide) ?_
          refine lv_goto (tgt := 22) hx hb dX7_markHanging_18 (by decide) ?_
          refine va_zast hx hb hK hP hD hS 6 4 slw_a6 rfl (x_in (by omega) (by omega)) dX7_markHanging_22 (fun H locs hP hD hS => ?_)
          obtain ⟨f_14, ef_14⟩ : ∃ z9 : Nat → Int32, z9 = (upd fh (Int32.toNatClampNeg i9) (vp_nar .boolean 1)) := ⟨_, rfl⟩
          have hP : va_P D vwCl (slw y ad (tI (tI σ 175 fh) 175 f_14)) H := by rw [ef_14]; exact x_trP hP slw_s6
          have hD : va_D A (slw y ad (tI (tI σ 175 fh) 175 f_14)) := by rw [ef_14]; exact x_trD hD slw_s6
          obtain ⟨i_15, ei_15⟩ : ∃ z9 : Int32, z9 = i9 + 1 := ⟨_, rfl⟩
          have vi_15 : i_15.toInt = i9.toInt + 1 := by have h9 := x_add ei_15 (by omega) (by omega); omega
          refine lv_iinc (v := i_15) (lv' := [(3, .int i_15), (2, .int z), (1, .ref (ad 130)), (0, .ref (ad 170))]) hx hb dX7_markHanging_23 hl (k := 0) rfl (by rw [ei_15]; rfl) (by decide) rfl (fun ls hl => ?_)
          refine lv_goto (tgt := 2) hx hb dX7_markHanging_26 (by decide) ?_
          have hP : va_P D vwCl (slw y ad (tI σ 175 f_14)) H := hP
          have hD : va_D A (slw y ad (tI σ 175 f_14)) := hD
          exact ih_loop i_15 f_14 H locs ls (by omega) (by omega) (by omega) hP hD hS (lv_sub hl [0, 1, 2, 3] rfl)
  exact loop 1360 0 (σ.2.2.1 175) H locs ls (by decide) (by omega) (by omega) hP hD hS (lv_sub hl [0, 3, 2, 1] rfl)

def v_s_slopeAt1 : List Cond := .code yX7_slopeAt cX7_slopeAt 13 (some .long) :: ([.fieldLink RX7 84 "SlopeRunner$Tape" "value" "[J", .fieldLink RX7 64 "SlopeRunner$Tape" "left" "[I", .fieldLink RX7 67 "SlopeRunner$Tape" "right" "[I", .fieldLink RX7 70 "SlopeRunner$Tape" "kind" "[I"] ++ ((va_wsS RX7 87 yX0_plus v_k_plus) ++ ((va_wsS RX7 91 yX0_minus v_k_minus) ++ ((va_wsS RX7 94 yX0_times v_k_times) ++ ((va_wsS RX7 97 yX0_over v_k_over) ++ ((va_wsS RX7 100 yX0_turned v_k_turned) ++ wsX80))))))
theorem g_s_slopeAt1_0 : GoodIn v_s_slopeAt1 (va_wsS RX7 87 yX0_plus v_k_plus) := goodIn_sub (fun w h => List.mem_cons_of_mem _ (List.mem_append_right _ (List.mem_append_left _ h))) (by decide +kernel)
theorem g_s_slopeAt1_1 : GoodIn v_s_slopeAt1 (va_wsS RX7 91 yX0_minus v_k_minus) := goodIn_sub (fun w h => List.mem_cons_of_mem _ (List.mem_append_right _ (List.mem_append_right _ (List.mem_append_left _ h)))) (by decide +kernel)
theorem g_s_slopeAt1_2 : GoodIn v_s_slopeAt1 (va_wsS RX7 94 yX0_times v_k_times) := goodIn_sub (fun w h => List.mem_cons_of_mem _ (List.mem_append_right _ (List.mem_append_right _ (List.mem_append_right _ (List.mem_append_left _ h))))) (by decide +kernel)
theorem g_s_slopeAt1_3 : GoodIn v_s_slopeAt1 (va_wsS RX7 97 yX0_over v_k_over) := goodIn_sub (fun w h => List.mem_cons_of_mem _ (List.mem_append_right _ (List.mem_append_right _ (List.mem_append_right _ (List.mem_append_right _ (List.mem_append_left _ h)))))) (by decide +kernel)
theorem g_s_slopeAt1_4 : GoodIn v_s_slopeAt1 (va_wsS RX7 100 yX0_turned v_k_turned) := goodIn_sub (fun w h => List.mem_cons_of_mem _ (List.mem_append_right _ (List.mem_append_right _ (List.mem_append_right _ (List.mem_append_right _ (List.mem_append_right _ (List.mem_append_left _ h))))))) (by decide +kernel)
set_option maxHeartbeats 4000000 in
set_option maxRecDepth 100000 in
theorem s_slopeAt1 (l : Launch) (D : va_G) (y : Nat → ClassId) (sz : Nat) (ad : Nat → Nat) (σ : OS) (k : Int32) (hk0 : 0 ≤ k.toInt) (hk1 : k.toInt ≤ 1358)  (hB133 : bI (σ.2.2.1 133) 0 1358) (hB134 : bI (σ.2.2.1 134) 0 1358) : Met l yX7_slopeAt v_s_slopeAt1 ({ frames := 3, cells := 0, slots := 0, locals := 92 } : Room) (va_Pc [.ref (ad 130), .int k, .ref (ad 171)] (xPre D (xT y) (slw y ad σ) sz)) (va_Ql (fun (r : Int64) (_ : Unit) => True) (fun (u : Unit) => xB D (xT y) (va_A (slw y ad σ) sz) (slw y ad σ)) (va_A (slw y ad σ) sz)) 0 0 (va_A (slw y ad σ) sz) := by
  refine x_metl (cc := cX7_slopeAt) (maxL := 13) (by decide) rfl (Nat.le_of_ble_eq_true rfl) ?_
  intro p e s m below meth c A H locs Q hx hb hml hown hts hr hlocks hmn hA hP hK hD hS ls hl hQ
  have hl : lv_has ls 13 [(0, .ref (ad 130)), (1, .int k), (2, .ref (ad 171))] := hl
  have fl84 := hts (.fieldLink RX7 84 "SlopeRunner$Tape" "value" "[J") (List.mem_of_getElem? (i := 1) rfl)
  have inX8 : ∀ w ∈ wsX80, w ∈ v_s_slopeAt1 := (fun w h => List.mem_cons_of_mem _ (List.mem_append_right _ (List.mem_append_right _ (List.mem_append_right _ (List.mem_append_right _ (List.mem_append_right _ (List.mem_append_right _ h)))))))
  have fl64 := hts (.fieldLink RX7 64 "SlopeRunner$Tape" "left" "[I") (List.mem_of_getElem? (i := 2) rfl)
  have fl67 := hts (.fieldLink RX7 67 "SlopeRunner$Tape" "right" "[I") (List.mem_of_getElem? (i := 3) rfl)
  have fl70 := hts (.fieldLink RX7 70 "SlopeRunner$Tape" "kind" "[I") (List.mem_of_getElem? (i := 4) rfl)
  refine lv_aload_n hx hb dX7_slopeAt_0 rfl (lv_at hl 0 rfl) ?_
  refine va_get (D := D) (ci := 7) (v := .ref (ad 131)) (C := RX8) (T := TX8) (N := 13) hx hb hts inX8 hown hK hP 1 slw_o1 rfl 0 (by decide) fl84 (fun _ h9 => h9) rfl dX7_slopeAt_1 ?_
  refine lv_aload_n hx hb dX7_slopeAt_4 rfl (lv_at hl 0 rfl) ?_
  refine va_get (D := D) (ci := 7) (v := .ref (ad 133)) (C := RX8) (T := TX8) (N := 13) hx hb hts inX8 hown hK hP 1 slw_o1 rfl 2 (by decide) fl64 (fun _ h9 => h9) rfl dX7_slopeAt_5 ?_
  refine lv_iload_n hx hb dX7_slopeAt_8 rfl (lv_at hl 1 rfl) ?_
  refine va_iald hx hb hK hP 9 2 slw_a9 rfl (x_in (by omega) (by omega)) dX7_slopeAt_9 ?_
  refine lv_topi (fun i_1 ei_1 => ?_)
  have ei_1 : i_1 = (σ.2.2.1 133) (Int32.toNatClampNeg k) := ei_1
  have bi_1 := b_at hB133 ei_1
  refine va_lald hx hb hK hP 7 3 slw_a7 rfl (x_in (by omega) (by omega)) dX7_slopeAt_10 ?_
  refine lv_topl (fun j_2 ej_2 => ?_)
  have ej_2 : j_2 = (σ.2.2.2 131) (Int32.toNatClampNeg i_1) := ej_2
  refine lv_lstore_n (lv' := [(3, .long j_2), (0, .ref (ad 130)), (1, .int k), (2, .ref (ad 171))]) hx hb dX7_slopeAt_11 rfl hl (by decide) rfl (fun ls hl => ?_)
  refine lv_aload_n hx hb dX7_slopeAt_12 rfl (lv_at hl 1 rfl) ?_
  refine va_get (D := D) (ci := 7) (v := .ref (ad 131)) (C := RX8) (T := TX8) (N := 13) hx hb hts inX8 hown hK hP 1 slw_o1 rfl 0 (by decide) fl84 (fun _ h9 => h9) rfl dX7_slopeAt_13 ?_
  refine lv_aload_n hx hb dX7_slopeAt_16 rfl (lv_at hl 1 rfl) ?_
  refine va_get (D := D) (ci := 7) (v := .ref (ad 134)) (C := RX8) (T := TX8) (N := 13) hx hb hts inX8 hown hK hP 1 slw_o1 rfl 3 (by decide) fl67 (fun _ h9 => h9) rfl dX7_slopeAt_17 ?_
  refine lv_iload_n hx hb dX7_slopeAt_20 rfl (lv_at hl 2 rfl) ?_
  refine va_iald hx hb hK hP 10 2 slw_a10 rfl (x_in (by omega) (by omega)) dX7_slopeAt_21 ?_
  refine lv_topi (fun i_3 ei_3 => ?_)
  have ei_3 : i_3 = (σ.2.2.1 134) (Int32.toNatClampNeg k) := ei_3
  have bi_3 := b_at hB134 ei_3
  refine va_lald hx hb hK hP 7 3 slw_a7 rfl (x_in (by omega) (by omega)) dX7_slopeAt_22 ?_
  refine lv_topl (fun j_4 ej_4 => ?_)
  have ej_4 : j_4 = (σ.2.2.2 131) (Int32.toNatClampNeg i_3) := ej_4
  refine lv_lstore (lv' := [(5, .long j_4), (3, .long j_2), (0, .ref (ad 130)), (1, .int k), (2, .ref (ad 171))]) hx hb dX7_slopeAt_23 hl (by decide) rfl (fun ls hl => ?_)
  refine lv_aload_n hx hb dX7_slopeAt_25 rfl (lv_at hl 4 rfl) ?_
  refine lv_aload_n hx hb dX7_slopeAt_26 rfl (lv_at hl 2 rfl) ?_
  refine va_get (D := D) (ci := 7) (v := .ref (ad 133)) (C := RX8) (T := TX8) (N := 13) hx hb hts inX8 hown hK hP 1 slw_o1 rfl 2 (by decide) fl64 (fun _ h9 => h9) rfl dX7_slopeAt_27 ?_
  refine lv_iload_n hx hb dX7_slopeAt_30 rfl (lv_at hl 3 rfl) ?_
  refine va_iald hx hb hK hP 9 2 slw_a9 rfl (x_in (by omega) (by omega)) dX7_slopeAt_31 ?_
  refine lv_topi (fun i_5 ei_5 => ?_)
  have ei_5 : i_5 = (σ.2.2.1 133) (Int32.toNatClampNeg k) := ei_5
  have bi_5 := b_at hB133 ei_5
  refine va_lald hx hb hK hP 2 3 slw_a2 rfl (x_in (by omega) (by omega)) dX7_slopeAt_32 ?_
  refine lv_topl (fun j_6 ej_6 => ?_)
  have ej_6 : j_6 = (σ.2.2.2 171) (Int32.toNatClampNeg i_5) := ej_6
  refine lv_lstore (lv' := [(7, .long j_6), (5, .long j_4), (3, .long j_2), (0, .ref (ad 130)), (1, .int k), (2, .ref (ad 171))]) hx hb dX7_slopeAt_33 hl (by decide) rfl (fun ls hl => ?_)
  refine lv_aload_n hx hb dX7_slopeAt_35 rfl (lv_at hl 5 rfl) ?_
  refine lv_aload_n hx hb dX7_slopeAt_36 rfl (lv_at hl 3 rfl) ?_
  refine va_get (D := D) (ci := 7) (v := .ref (ad 134)) (C := RX8) (T := TX8) (N := 13) hx hb hts inX8 hown hK hP 1 slw_o1 rfl 3 (by decide) fl67 (fun _ h9 => h9) rfl dX7_slopeAt_37 ?_
  refine lv_iload_n hx hb dX7_slopeAt_40 rfl (lv_at hl 4 rfl) ?_
  refine va_iald hx hb hK hP 10 2 slw_a10 rfl (x_in (by omega) (by omega)) dX7_slopeAt_41 ?_
  refine lv_topi (fun i_7 ei_7 => ?_)
  have ei_7 : i_7 = (σ.2.2.1 134) (Int32.toNatClampNeg k) := ei_7
  have bi_7 := b_at hB134 ei_7
  refine va_lald hx hb hK hP 2 3 slw_a2 rfl (x_in (by omega) (by omega)) dX7_slopeAt_42 ?_
  refine lv_topl (fun j_8 ej_8 => ?_)
  have ej_8 : j_8 = (σ.2.2.2 171) (Int32.toNatClampNeg i_7) := ej_8
  refine lv_lstore (lv' := [(9, .long j_8), (7, .long j_6), (5, .long j_4), (3, .long j_2), (0, .ref (ad 130)), (1, .int k), (2, .ref (ad 171))]) hx hb dX7_slopeAt_43 hl (by decide) rfl (fun ls hl => ?_)
  refine lv_aload_n hx hb dX7_slopeAt_45 rfl (lv_at hl 4 rfl) ?_
  refine va_get (D := D) (ci := 7) (v := .ref (ad 132)) (C := RX8) (T := TX8) (N := 13) hx hb hts inX8 hown hK hP 1 slw_o1 rfl 1 (by decide) fl70 (fun _ h9 => h9) rfl dX7_slopeAt_46 ?_
  refine lv_iload_n hx hb dX7_slopeAt_49 rfl (lv_at hl 5 rfl) ?_
  refine va_iald hx hb hK hP 8 2 slw_a8 rfl (x_in (by omega) (by omega)) dX7_slopeAt_50 ?_
  refine lv_topi (fun i_9 ei_9 => ?_)
  have ei_9 : i_9 = (σ.2.2.1 132) (Int32.toNatClampNeg k) := ei_9
  rcases (show i_9 = 6 ∨ i_9 = 7 ∨ i_9 = 8 ∨ i_9 = 9 ∨ i_9 = 31 ∨ (¬ i_9 = 6 ∧ ¬ i_9 = 7 ∧ ¬ i_9 = 8 ∧ ¬ i_9 = 9 ∧ ¬ i_9 = 31) by simp only [x_eq, Int32.reduceToInt]; omega) with rfl | rfl | rfl | rfl | rfl | ⟨g_10_0, g_10_1, g_10_2, g_10_3, g_10_4⟩
  · refine lv_lookup (tgt := 100) (off := 49) hx hb dX7_slopeAt_51 (by decide) (by decide) (by decide) ?_
    refine lv_lload hx hb dX7_slopeAt_100 (lv_at hl 1 rfl) ?_
    refine lv_lload hx hb dX7_slopeAt_102 (lv_at hl 0 rfl) ?_
    refine x_calllN (va_runS (As := [.long j_6, .long j_8]) (rest := []) ⟨hx, hb, hml, hown, hts⟩ (k_plus l D y H.size j_6 j_8) (va_cwS 2 hts g_s_slopeAt1_0 rfl rfl rfl (by decide +kernel) ⟨Nat.le_of_ble_eq_true rfl, Nat.le_of_ble_eq_true rfl⟩) (x_preS hK (x_nilP D H) (x_nilD A)) rfl rfl hl.1 rfl (lv_room (Nat.le_of_ble_eq_true rfl)) dX7_slopeAt_104 ⟨Nat.le_of_ble_eq_true rfl, Nat.le_of_ble_eq_true rfl⟩) hP hD hS hA (fun r_11 u H locs hw hP hD hS => ?_)
    try dsimp only at hw
    exact x_lretW (v := r_11) (u := ()) hx hb hr hQ trivial hP hD hK hS dX7_slopeAt_107 hlocks
  · refine lv_lookup (tgt := 108) (off := 57) hx hb dX7_slopeAt_51 (by decide) (by decide) (by decide) ?_
    refine lv_lload hx hb dX7_slopeAt_108 (lv_at hl 1 rfl) ?_
    refine lv_lload hx hb dX7_slopeAt_110 (lv_at hl 0 rfl) ?_
    refine x_calllN (va_runS (As := [.long j_6, .long j_8]) (rest := []) ⟨hx, hb, hml, hown, hts⟩ (k_minus l D y H.size j_6 j_8) (va_cwS 2 hts g_s_slopeAt1_1 rfl rfl rfl (by decide +kernel) ⟨Nat.le_of_ble_eq_true rfl, Nat.le_of_ble_eq_true rfl⟩) (x_preS hK (x_nilP D H) (x_nilD A)) rfl rfl hl.1 rfl (lv_room (Nat.le_of_ble_eq_true rfl)) dX7_slopeAt_112 ⟨Nat.le_of_ble_eq_true rfl, Nat.le_of_ble_eq_true rfl⟩) hP hD hS hA (fun r_12 u H locs hw hP hD hS => ?_)
    try dsimp only at hw
    exact x_lretW (v := r_12) (u := ()) hx hb hr hQ trivial hP hD hK hS dX7_slopeAt_115 hlocks
  · refine lv_lookup (tgt := 116) (off := 65) hx hb dX7_slopeAt_51 (by decide) (by decide) (by decide) ?_
    refine lv_lload hx hb dX7_slopeAt_116 (lv_at hl 1 rfl) ?_
    refine lv_lload hx hb dX7_slopeAt_118 (lv_at hl 2 rfl) ?_
    refine x_calllN (va_runS (As := [.long j_6, .long j_4]) (rest := []) ⟨hx, hb, hml, hown, hts⟩ (k_times l D y H.size j_6 j_4) (va_cwS 2 hts g_s_slopeAt1_2 rfl rfl rfl (by decide +kernel) ⟨Nat.le_of_ble_eq_true rfl, Nat.le_of_ble_eq_true rfl⟩) (x_preS hK (x_nilP D H) (x_nilD A)) rfl rfl hl.1 rfl (lv_room (Nat.le_of_ble_eq_true rfl)) dX7_slopeAt_120 ⟨Nat.le_of_ble_eq_true rfl, Nat.le_of_ble_eq_true rfl⟩) hP hD hS hA (fun r_13 u H locs hw hP hD hS => ?_)
    try dsimp only at hw
    refine lv_lload_n hx hb dX7_slopeAt_123 rfl (lv_at hl 3 rfl) ?_
    refine lv_lload hx hb dX7_slopeAt_124 (lv_at hl 0 rfl) ?_
    refine x_calllN (va_runS (As := [.long j_2, .long j_8]) (rest := [.long r_13]) ⟨hx, hb, hml, hown, hts⟩ (k_times l D y H.size j_2 j_8) (va_cwS 2 hts g_s_slopeAt1_2 rfl rfl rfl (by decide +kernel) ⟨Nat.le_of_ble_eq_true rfl, Nat.le_of_ble_eq_true rfl⟩) (x_preS hK (x_nilP D H) (x_nilD A)) rfl rfl hl.1 rfl (lv_room (Nat.le_of_ble_eq_true rfl)) dX7_slopeAt_126 ⟨Nat.le_of_ble_eq_true rfl, Nat.le_of_ble_eq_true rfl⟩) hP hD hS hA (fun r_14 u H locs hw hP hD hS => ?_)
    try dsimp only at hw
    refine x_calllN (va_runS (As := [.long r_13, .long r_14]) (rest := []) ⟨hx, hb, hml, hown, hts⟩ (k_plus l D y H.size r_13 r_14) (va_cwS 2 hts g_s_slopeAt1_0 rfl rfl rfl (by decide +kernel) ⟨Nat.le_of_ble_eq_true rfl, Nat.le_of_ble_eq_true rfl⟩) (x_preS hK (x_nilP D H) (x_nilD A)) rfl rfl hl.1 rfl (lv_room (Nat.le_of_ble_eq_true rfl)) dX7_slopeAt_129 ⟨Nat.le_of_ble_eq_true rfl, Nat.le_of_ble_eq_true rfl⟩) hP hD hS hA (fun r_15 u H locs hw hP hD hS => ?_)
    try dsimp only at hw
    exact x_lretW (v := r_15) (u := ()) hx hb hr hQ trivial hP hD hK hS dX7_slopeAt_132 hlocks
  · refine lv_lookup (tgt := 133) (off := 82) hx hb dX7_slopeAt_51 (by decide) (by decide) (by decide) ?_
    refine lv_lload hx hb dX7_slopeAt_133 (lv_at hl 1 rfl) ?_
    refine lv_aload_n hx hb dX7_slopeAt_135 rfl (lv_at hl 4 rfl) ?_
    refine va_get (D := D) (ci := 7) (v := .ref (ad 131)) (C := RX8) (T := TX8) (N := 13) hx hb hts inX8 hown hK hP 1 slw_o1 rfl 0 (by decide) fl84 (fun _ h9 => h9) rfl dX7_slopeAt_136 ?_
    refine lv_iload_n hx hb dX7_slopeAt_139 rfl (lv_at hl 5 rfl) ?_
    refine va_lald hx hb hK hP 7 3 slw_a7 rfl (x_in (by omega) (by omega)) dX7_slopeAt_140 ?_
    refine lv_topl (fun j_16 ej_16 => ?_)
    have ej_16 : j_16 = (σ.2.2.2 131) (Int32.toNatClampNeg k) := ej_16
    refine lv_lload hx hb dX7_slopeAt_141 (lv_at hl 0 rfl) ?_
    refine x_calllN (va_runS (As := [.long j_16, .long j_8]) (rest := [.long j_6]) ⟨hx, hb, hml, hown, hts⟩ (k_times l D y H.size j_16 j_8) (va_cwS 2 hts g_s_slopeAt1_2 rfl rfl rfl (by decide +kernel) ⟨Nat.le_of_ble_eq_true rfl, Nat.le_of_ble_eq_true rfl⟩) (x_preS hK (x_nilP D H) (x_nilD A)) rfl rfl hl.1 rfl (lv_room (Nat.le_of_ble_eq_true rfl)) dX7_slopeAt_143 ⟨Nat.le_of_ble_eq_true rfl, Nat.le_of_ble_eq_true rfl⟩) hP hD hS hA (fun r_17 u H locs hw hP hD hS => ?_)
    try dsimp only at hw
    refine x_calllN (va_runS (As := [.long j_6, .long r_17]) (rest := []) ⟨hx, hb, hml, hown, hts⟩ (k_minus l D y H.size j_6 r_17) (va_cwS 2 hts g_s_slopeAt1_1 rfl rfl rfl (by decide +kernel) ⟨Nat.le_of_ble_eq_true rfl, Nat.le_of_ble_eq_true rfl⟩) (x_preS hK (x_nilP D H) (x_nilD A)) rfl rfl hl.1 rfl (lv_room (Nat.le_of_ble_eq_true rfl)) dX7_slopeAt_146 ⟨Nat.le_of_ble_eq_true rfl, Nat.le_of_ble_eq_true rfl⟩) hP hD hS hA (fun r_18 u H locs hw hP hD hS => ?_)
    try dsimp only at hw
    refine lv_lstore (lv' := [(11, .long r_18), (9, .long j_8), (7, .long j_6), (5, .long j_4), (3, .long j_2), (0, .ref (ad 130)), (1, .int k), (2, .ref (ad 171))]) hx hb dX7_slopeAt_149 hl (by decide) rfl (fun ls hl => ?_)
    refine lv_lload hx hb dX7_slopeAt_151 (lv_at hl 0 rfl) ?_
    refine lv_lload hx hb dX7_slopeAt_153 (lv_at hl 3 rfl) ?_
    refine x_calllN (va_runS (As := [.long r_18, .long j_4]) (rest := []) ⟨hx, hb, hml, hown, hts⟩ (k_over l D y H.size r_18 j_4) (va_cwS 2 hts g_s_slopeAt1_3 rfl rfl rfl (by decide +kernel) ⟨Nat.le_of_ble_eq_true rfl, Nat.le_of_ble_eq_true rfl⟩) (x_preS hK (x_nilP D H) (x_nilD A)) rfl rfl hl.1 rfl (lv_room (Nat.le_of_ble_eq_true rfl)) dX7_slopeAt_155 ⟨Nat.le_of_ble_eq_true rfl, Nat.le_of_ble_eq_true rfl⟩) hP hD hS hA (fun r_19 u H locs hw hP hD hS => ?_)
    try dsimp only at hw
    exact x_lretW (v := r_19) (u := ()) hx hb hr hQ trivial hP hD hK hS dX7_slopeAt_158 hlocks
  · refine lv_lookup (tgt := 159) (off := 108) hx hb dX7_slopeAt_51 (by decide) (by decide) (by decide) ?_
    refine lv_lload hx hb dX7_slopeAt_159 (lv_at hl 1 rfl) ?_
    refine x_calllN (va_runS (As := [.long j_6]) (rest := []) ⟨hx, hb, hml, hown, hts⟩ (k_turned l D y H.size j_6) (va_cwS 1 hts g_s_slopeAt1_4 rfl rfl rfl (by decide +kernel) ⟨Nat.le_of_ble_eq_true rfl, Nat.le_of_ble_eq_true rfl⟩) (x_preS hK (x_nilP D H) (x_nilD A)) rfl rfl hl.1 rfl (lv_room (Nat.le_of_ble_eq_true rfl)) dX7_slopeAt_161 ⟨Nat.le_of_ble_eq_true rfl, Nat.le_of_ble_eq_true rfl⟩) hP hD hS hA (fun r_20 u H locs hw hP hD hS => ?_)
    try dsimp only at hw
    exact x_lretW (v := r_20) (u := ()) hx hb hr hQ trivial hP hD hK hS dX7_slopeAt_164 hlocks
  · refine lv_lookup (tgt := 165) (off := 114) hx hb dX7_slopeAt_51 (by decide) ((lv_osw g_10_0 rfl).trans ((lv_osw g_10_1 rfl).trans ((lv_osw g_10_2 rfl).trans ((lv_osw g_10_3 rfl).trans ((lv_osw g_10_4 rfl).trans rfl))))) (by decide) ?_
    refine lv_lload hx hb dX7_slopeAt_165 (lv_at hl 1 rfl) ?_
    exact x_lretW (v := j_6) (u := ()) hx hb hr hQ trivial hP hD hK hS dX7_slopeAt_167 hlocks

def v_s_fillSlopes1 : List Cond := .code yX7_fillSlopes cX7_fillSlopes 6 none :: ([.fieldLink RX7 41 "SlopeRunner$Tape" "firstStep" "I", .fieldLink RX7 25 "SlopeRunner$Slopes" "hangs" "[Z", .constantLong RX7 55 1073741825] ++ ((wsS RX7 80 yX7_slopeAt v_s_slopeAt1) ++ (wsX80 ++ wsX70)))
theorem g_s_fillSlopes1_0 : GoodIn v_s_fillSlopes1 (wsS RX7 80 yX7_slopeAt v_s_slopeAt1) := goodIn_sub (fun w h => List.mem_cons_of_mem _ (List.mem_append_right _ (List.mem_append_left _ h))) (by decide +kernel)
set_option maxHeartbeats 4000000 in
set_option maxRecDepth 100000 in
theorem s_fillSlopes1 (l : Launch) (D : va_G) (y : Nat → ClassId) (sz : Nat) (ad : Nat → Nat) (σ : OS) (z : Int32) (hz0 : 0 ≤ z.toInt) (hz1 : z.toInt ≤ 1358) (q : Int32)  (hB133 : bI (σ.2.2.1 133) 0 1358) (hB134 : bI (σ.2.2.1 134) 0 1358) : Met l yX7_fillSlopes v_s_fillSlopes1 ({ frames := 4, cells := 0, slots := 0, locals := 124 } : Room) (va_Pc [.ref (ad 170), .ref (ad 130), .int z, .int q, .ref (ad 171)] (xPre D (xT y) (slw y ad σ) sz)) (va_Qv (fun (u : (Nat → Int64)) => True) (fun (u : (Nat → Int64)) => xB D (xT y) (va_A (slw y ad σ) sz) (slw y ad (tJ σ 171 u))) (va_A (slw y ad σ) sz)) 0 0 (va_A (slw y ad σ) sz) := by
  refine x_metv (cc := cX7_fillSlopes) (maxL := 6) (by decide) rfl (Nat.le_of_ble_eq_true rfl) ?_
  intro p e s m below meth c A H locs Q hx hb hml hown hts hr hlocks hmn hA hP hK hD hS ls hl hQ
  have hl : lv_has ls 6 [(0, .ref (ad 170)), (1, .ref (ad 130)), (2, .int z), (3, .int q), (4, .ref (ad 171))] := hl
  have fl41 := hts (.fieldLink RX7 41 "SlopeRunner$Tape" "firstStep" "I") (List.mem_of_getElem? (i := 1) rfl)
  have inX8 : ∀ w ∈ wsX80, w ∈ v_s_fillSlopes1 := (fun w h => List.mem_cons_of_mem _ (List.mem_append_right _ (List.mem_append_right _ (List.mem_append_left _ h))))
  have fl25 := hts (.fieldLink RX7 25 "SlopeRunner$Slopes" "hangs" "[Z") (List.mem_of_getElem? (i := 2) rfl)
  have inX7 : ∀ w ∈ wsX70, w ∈ v_s_fillSlopes1 := (fun w h => List.mem_cons_of_mem _ (List.mem_append_right _ (List.mem_append_right _ (List.mem_append_right _ h))))
  have kk_0 : (0 : Int32).toInt = 0 := rfl
  have kk_1 : (1 : Int32).toInt = 1 := rfl
  refine lv_iconst (v := 0) hx hb dX7_fillSlopes_0 (by decide) ?_
  refine lv_istore (lv' := [(5, .int 0), (0, .ref (ad 170)), (1, .ref (ad 130)), (2, .int z), (3, .int q), (4, .ref (ad 171))]) hx hb dX7_fillSlopes_1 hl (by decide) rfl (fun ls hl => ?_)
  have l00 : (0 : Int32).toInt = 0 := rfl
  have hP : va_P D vwCl (slw y ad (tJ σ 171 (σ.2.2.2 171))) H := hP
  have hD : va_D A (slw y ad (tJ σ 171 (σ.2.2.2 171))) := hD
  have loop : ∀ (fu : Nat) (i9 : Int32) (fh : Nat → Int64) (H : Heap) (locs : List Loc) (ls : Array Slot), (0 ≤ i9.toInt) → (i9.toInt ≤ z.toInt + 1) → (z.toInt + 1 - i9.toInt < (fu : Int)) → va_P D vwCl (slw y ad (tJ σ 171 fh)) H → va_D A (slw y ad (tJ σ 171 fh)) → va_S A s.heap H locs → lv_has ls 6 [(5, .int i9), (4, .ref (ad 171)), (3, .int q), (2, .int z), (1, .ref (ad 130)), (0, .ref (ad 170))] → W p l e ({ frames := 4, cells := 0, slots := 0, locals := 124 } : Room) s m ([.ref (ad 170), .ref (ad 130), .int z, .int q, .ref (ad 171)] : List Value).toArray below meth c H locs 0 0 Q (F0 m 3 ls []) := by
    intro fu
    induction fu with
    | zero =>
      intro i9 fh H locs ls hi0 hi1 hm
      exact absurd hm (by omega)
    | succ fu ih_loop =>
      intro i9 fh H locs ls hi0 hi1 hm hP hD hS hl
      refine lv_iload hx hb dX7_fillSlopes_3 (lv_at hl 0 rfl) ?_
      refine lv_iload_n hx hb dX7_fillSlopes_5 rfl (lv_at hl 3 rfl) ?_
      refine lv_icmp_gt (tgt := 68) hx hb dX7_fillSlopes_6 (by decide) (fun c_1 => ?_) (fun c_1 => ?_)
      · have kc_1 : i9.toInt > z.toInt := by have h9 := c_1; simp only [ge_iff_le, gt_iff_lt, x_lt, x_le, x_eq, ne_eq, Int32.not_lt, Int32.not_le] at h9; omega
        exact x_vretW (u := fh) hx hb hr hQ trivial hP hD hK hS dX7_fillSlopes_68 hlocks
      · have kc_1 : i9.toInt ≤ z.toInt := by have h9 := c_1; simp only [ge_iff_le, gt_iff_lt, x_lt, x_le, x_eq, ne_eq, Int32.not_lt, Int32.not_le] at h9; omega
        refine lv_iload hx hb dX7_fillSlopes_9 (lv_at hl 0 rfl) ?_
        refine lv_aload_n hx hb dX7_fillSlopes_11 rfl (lv_at hl 4 rfl) ?_
        refine va_get (D := D) (ci := 7) (v := .int (σ.1 138)) (C := RX8) (T := TX8) (N := 13) hx hb hts inX8 hown hK hP 1 slw_o1 rfl 7 (by decide) fl41 (fun _ h9 => h9) rfl dX7_fillSlopes_12 ?_
        refine lv_icmp_ge (tgt := 39) hx hb dX7_fillSlopes_15 (by decide) (fun c_2 => ?_) (fun c_2 => ?_)
        · have kc_2 : i9.toInt ≥ (σ.1 138).toInt := by have h9 := c_2; simp only [ge_iff_le, gt_iff_lt, x_lt, x_le, x_eq, ne_eq, Int32.not_lt, Int32.not_le] at h9; omega
          refine lv_aload_n hx hb dX7_fillSlopes_39 rfl (lv_at hl 5 rfl) ?_
          refine va_get (D := D) (ci := 6) (v := .ref (ad 175)) (C := RX7) (T := TX7) (N := 5) hx hb hts inX7 hown hK hP 0 slw_o0 rfl 4 (by decide) fl25 (fun _ h9 => h9) rfl dX7_fillSlopes_40 ?_
          refine lv_iload hx hb dX7_fillSlopes_43 (lv_at hl 0 rfl) ?_
          refine va_zald hx hb hK hP 6 4 slw_a6 rfl (x_in (by omega) (by omega)) dX7_fillSlopes_45 ?_
          refine lv_topi (fun i_3 ei_3 => ?_)
          have ei_3 : i_3 = (σ.2.2.1 175) (Int32.toNatClampNeg i9) := ei_3
          refine lv_if_eq (tgt := 62) hx hb dX7_fillSlopes_46 (by decide) (fun c_4 => ?_) (fun c_4 => ?_)
          · have kc_4 : i_3.toInt = 0 := by have h9 := c_4; simp only [ge_iff_le, gt_iff_lt, x_lt, x_le, x_eq, ne_eq, Int32.not_lt, Int32.not_le] at h9; simp only [Int32.reduceToInt] at h9; omega
            obtain ⟨i_5, ei_5⟩ : ∃ z9 : Int32, z9 = i9 + 1 := ⟨_, rfl⟩
            have vi_5 : i_5.toInt = i9.toInt + 1 := by have h9 := x_add ei_5 (by omega) (by omega); omega
            refine lv_iinc (v := i_5) (lv' := [(5, .int i_5), (4, .ref (ad 171)), (3, .int q), (2, .int z), (1, .ref (ad 130)), (0, .ref (ad 170))]) hx hb dX7_fillSlopes_62 hl (k := 0) rfl (by rw [ei_5]; rfl) (by decide) rfl (fun ls hl => ?_)
            refine lv_goto (tgt := 3) hx hb dX7_fillSlopes_65 (by decide) ?_
            exact ih_loop i_5 fh H locs ls (by omega) (by omega) (by omega) hP hD hS (lv_sub hl [0, 1, 2, 3, 4, 5] rfl)
          · have kc_4 : i_3.toInt ≠ 0 := by have h9 := c_4; simp only [ge_iff_le, gt_iff_lt, x_lt, x_le, x_eq, ne_eq, Int32.not_lt, Int32.not_le] at h9; simp only [Int32.reduceToInt] at h9; omega
            refine lv_aload hx hb dX7_fillSlopes_49 (lv_at hl 1 rfl) ?_
            refine lv_iload hx hb dX7_fillSlopes_51 (lv_at hl 0 rfl) ?_
            refine lv_aload_n hx hb dX7_fillSlopes_53 rfl (lv_at hl 4 rfl) ?_
            refine lv_iload hx hb dX7_fillSlopes_54 (lv_at hl 0 rfl) ?_
            refine lv_aload hx hb dX7_fillSlopes_56 (lv_at hl 1 rfl) ?_
            refine x_calllW (va_runS (As := [.ref (ad 130), .int i9, .ref (ad 171)]) (rest := [.int i9, .ref (ad 171)]) ⟨hx, hb, hml, hown, hts⟩ (s_slopeAt1 l D y H.size ad (tJ σ 171 fh) i9 (by first | omega | decide) (by first | omega | decide) hB133 hB134) (cwS 3 hts g_s_fillSlopes1_0 rfl rfl rfl (by decide +kernel) ⟨Nat.le_of_ble_eq_true rfl, Nat.le_of_ble_eq_true rfl⟩) (x_preS hK hP hD) rfl rfl hl.1 rfl (lv_room (Nat.le_of_ble_eq_true rfl)) dX7_fillSlopes_58 ⟨Nat.le_of_ble_eq_true rfl, Nat.le_of_ble_eq_true rfl⟩) hP hD hS hA (fun r_6 u H locs hw hP hD hS => ?_)
            try dsimp only at hw
            have hP : va_P D vwCl (slw y ad (tJ σ 171 fh)) H := hP
            have hD : va_D A (slw y ad (tJ σ 171 fh)) := hD
            refine va_last hx hb hK hP hD hS 2 3 slw_a2 rfl (x_in (by omega) (by omega)) dX7_fillSlopes_61 (fun H locs hP hD hS => ?_)
            obtain ⟨f_7, ef_7⟩ : ∃ z9 : Nat → Int64, z9 = (vp_updL fh (Int32.toNatClampNeg i9) r_6) := ⟨_, rfl⟩
            have hP : va_P D vwCl (slw y ad (tJ (tJ σ 171 fh) 171 f_7)) H := by rw [ef_7]; exact x_trP hP slw_s2
            have hD : va_D A (slw y ad (tJ (tJ σ 171 fh) 171 f_7)) := by rw [ef_7]; exact x_trD hD slw_s2
            obtain ⟨i_8, ei_8⟩ : ∃ z9 : Int32, z9 = i9 + 1 := ⟨_, rfl⟩
            have vi_8 : i_8.toInt = i9.toInt + 1 := by have h9 := x_add ei_8 (by omega) (by omega); omega
            refine lv_iinc (v := i_8) (lv' := [(5, .int i_8), (4, .ref (ad 171)), (3, .int q), (2, .int z), (1, .ref (ad 130)), (0, .ref (ad 170))]) hx hb dX7_fillSlopes_62 hl (k := 0) rfl (by rw [ei_8]; rfl) (by decide) rfl (fun ls hl => ?_)
            refine lv_goto (tgt := 3) hx hb dX7_fillSlopes_65 (by decide) ?_
            have hP : va_P D vwCl (slw y ad (tJ σ 171 f_7)) H := hP
            have hD : va_D A (slw y ad (tJ σ 171 f_7)) := hD
            exact ih_loop i_8 f_7 H locs ls (by omega) (by omega) (by omega) hP hD hS (lv_sub hl [0, 1, 2, 3, 4, 5] rfl)
        · have kc_2 : i9.toInt < (σ.1 138).toInt := by have h9 := c_2; simp only [ge_iff_le, gt_iff_lt, x_lt, x_le, x_eq, ne_eq, Int32.not_lt, Int32.not_le] at h9; omega
          refine lv_aload hx hb dX7_fillSlopes_18 (lv_at hl 1 rfl) ?_
          refine lv_iload hx hb dX7_fillSlopes_20 (lv_at hl 0 rfl) ?_
          refine lv_iload hx hb dX7_fillSlopes_22 (lv_at hl 0 rfl) ?_
          refine lv_iload_n hx hb dX7_fillSlopes_24 rfl (lv_at hl 2 rfl) ?_
          refine lv_icmp_ne (tgt := 34) hx hb dX7_fillSlopes_25 (by decide) (fun c_9 => ?_) (fun c_9 => ?_)
          · have kc_9 : i9.toInt ≠ q.toInt := by have h9 := c_9; simp only [ge_iff_le, gt_iff_lt, x_lt, x_le, x_eq, ne_eq, Int32.not_lt, Int32.not_le] at h9; omega
            refine lv_lconst (v := 1) hx hb dX7_fillSlopes_34 (by decide) ?_
            refine va_last hx hb hK hP hD hS 2 3 slw_a2 rfl (x_in (by omega) (by omega)) dX7_fillSlopes_35 (fun H locs hP hD hS => ?_)
            obtain ⟨f_10, ef_10⟩ : ∃ z9 : Nat → Int64, z9 = (vp_updL fh (Int32.toNatClampNeg i9) 1) := ⟨_, rfl⟩
            have hP : va_P D vwCl (slw y ad (tJ (tJ σ 171 fh) 171 f_10)) H := by rw [ef_10]; exact x_trP hP slw_s2
            have hD : va_D A (slw y ad (tJ (tJ σ 171 fh) 171 f_10)) := by rw [ef_10]; exact x_trD hD slw_s2
            refine lv_goto (tgt := 62) hx hb dX7_fillSlopes_36 (by decide) ?_
            obtain ⟨i_11, ei_11⟩ : ∃ z9 : Int32, z9 = i9 + 1 := ⟨_, rfl⟩
            have vi_11 : i_11.toInt = i9.toInt + 1 := by have h9 := x_add ei_11 (by omega) (by omega); omega
            refine lv_iinc (v := i_11) (lv' := [(5, .int i_11), (4, .ref (ad 171)), (3, .int q), (2, .int z), (1, .ref (ad 130)), (0, .ref (ad 170))]) hx hb dX7_fillSlopes_62 hl (k := 0) rfl (by rw [ei_11]; rfl) (by decide) rfl (fun ls hl => ?_)
            refine lv_goto (tgt := 3) hx hb dX7_fillSlopes_65 (by decide) ?_
            have hP : va_P D vwCl (slw y ad (tJ σ 171 f_10)) H := hP
            have hD : va_D A (slw y ad (tJ σ 171 f_10)) := hD
            exact ih_loop i_11 f_10 H locs ls (by omega) (by omega) (by omega) hP hD hS (lv_sub hl [0, 1, 2, 3, 4, 5] rfl)
          · have kc_9 : i9.toInt = q.toInt := by have h9 := c_9; simp only [ge_iff_le, gt_iff_lt, x_lt, x_le, x_eq, ne_eq, Int32.not_lt, Int32.not_le] at h9; omega
            refine lv_ldc2 (v := 1073741825) hx hb hown (hts (.constantLong RX7 55 1073741825) (List.mem_of_getElem? (i := 3) rfl)) dX7_fillSlopes_28 ?_
            refine lv_goto (tgt := 35) hx hb dX7_fillSlopes_31 (by decide) ?_
            refine va_last hx hb hK hP hD hS 2 3 slw_a2 rfl (x_in (by omega) (by omega)) dX7_fillSlopes_35 (fun H locs hP hD hS => ?_)
            obtain ⟨f_12, ef_12⟩ : ∃ z9 : Nat → Int64, z9 = (vp_updL fh (Int32.toNatClampNeg i9) 1073741825) := ⟨_, rfl⟩
            have hP : va_P D vwCl (slw y ad (tJ (tJ σ 171 fh) 171 f_12)) H := by rw [ef_12]; exact x_trP hP slw_s2
            have hD : va_D A (slw y ad (tJ (tJ σ 171 fh) 171 f_12)) := by rw [ef_12]; exact x_trD hD slw_s2
            refine lv_goto (tgt := 62) hx hb dX7_fillSlopes_36 (by decide) ?_
            obtain ⟨i_13, ei_13⟩ : ∃ z9 : Int32, z9 = i9 + 1 := ⟨_, rfl⟩
            have vi_13 : i_13.toInt = i9.toInt + 1 := by have h9 := x_add ei_13 (by omega) (by omega); omega
            refine lv_iinc (v := i_13) (lv' := [(5, .int i_13), (4, .ref (ad 171)), (3, .int q), (2, .int z), (1, .ref (ad 130)), (0, .ref (ad 170))]) hx hb dX7_fillSlopes_62 hl (k := 0) rfl (by rw [ei_13]; rfl) (by decide) rfl (fun ls hl => ?_)
            refine lv_goto (tgt := 3) hx hb dX7_fillSlopes_65 (by decide) ?_
            have hP : va_P D vwCl (slw y ad (tJ σ 171 f_12)) H := hP
            have hD : va_D A (slw y ad (tJ σ 171 f_12)) := hD
            exact ih_loop i_13 f_12 H locs ls (by omega) (by omega) (by omega) hP hD hS (lv_sub hl [0, 1, 2, 3, 4, 5] rfl)
  exact loop 1360 0 (σ.2.2.2 171) H locs ls (by decide) (by omega) (by omega) hP hD hS (lv_sub hl [0, 5, 4, 3, 2, 1] rfl)

def v_s_slopeAt2 : List Cond := .code yX7_slopeAt cX7_slopeAt 13 (some .long) :: ([.fieldLink RX7 84 "SlopeRunner$Tape" "value" "[J", .fieldLink RX7 64 "SlopeRunner$Tape" "left" "[I", .fieldLink RX7 67 "SlopeRunner$Tape" "right" "[I", .fieldLink RX7 70 "SlopeRunner$Tape" "kind" "[I"] ++ ((va_wsS RX7 87 yX0_plus v_k_plus) ++ ((va_wsS RX7 91 yX0_minus v_k_minus) ++ ((va_wsS RX7 94 yX0_times v_k_times) ++ ((va_wsS RX7 97 yX0_over v_k_over) ++ ((va_wsS RX7 100 yX0_turned v_k_turned) ++ wsX80))))))
theorem g_s_slopeAt2_0 : GoodIn v_s_slopeAt2 (va_wsS RX7 87 yX0_plus v_k_plus) := goodIn_sub (fun w h => List.mem_cons_of_mem _ (List.mem_append_right _ (List.mem_append_left _ h))) (by decide +kernel)
theorem g_s_slopeAt2_1 : GoodIn v_s_slopeAt2 (va_wsS RX7 91 yX0_minus v_k_minus) := goodIn_sub (fun w h => List.mem_cons_of_mem _ (List.mem_append_right _ (List.mem_append_right _ (List.mem_append_left _ h)))) (by decide +kernel)
theorem g_s_slopeAt2_2 : GoodIn v_s_slopeAt2 (va_wsS RX7 94 yX0_times v_k_times) := goodIn_sub (fun w h => List.mem_cons_of_mem _ (List.mem_append_right _ (List.mem_append_right _ (List.mem_append_right _ (List.mem_append_left _ h))))) (by decide +kernel)
theorem g_s_slopeAt2_3 : GoodIn v_s_slopeAt2 (va_wsS RX7 97 yX0_over v_k_over) := goodIn_sub (fun w h => List.mem_cons_of_mem _ (List.mem_append_right _ (List.mem_append_right _ (List.mem_append_right _ (List.mem_append_right _ (List.mem_append_left _ h)))))) (by decide +kernel)
theorem g_s_slopeAt2_4 : GoodIn v_s_slopeAt2 (va_wsS RX7 100 yX0_turned v_k_turned) := goodIn_sub (fun w h => List.mem_cons_of_mem _ (List.mem_append_right _ (List.mem_append_right _ (List.mem_append_right _ (List.mem_append_right _ (List.mem_append_right _ (List.mem_append_left _ h))))))) (by decide +kernel)
set_option maxHeartbeats 4000000 in
set_option maxRecDepth 100000 in
theorem s_slopeAt2 (l : Launch) (D : va_G) (y : Nat → ClassId) (sz : Nat) (ad : Nat → Nat) (σ : OS) (k : Int32) (hk0 : 0 ≤ k.toInt) (hk1 : k.toInt ≤ 1358)  (hB133 : bI (σ.2.2.1 133) 0 1358) (hB134 : bI (σ.2.2.1 134) 0 1358) : Met l yX7_slopeAt v_s_slopeAt2 ({ frames := 3, cells := 0, slots := 0, locals := 92 } : Room) (va_Pc [.ref (ad 130), .int k, .ref (ad 172)] (xPre D (xT y) (slw y ad σ) sz)) (va_Ql (fun (r : Int64) (_ : Unit) => True) (fun (u : Unit) => xB D (xT y) (va_A (slw y ad σ) sz) (slw y ad σ)) (va_A (slw y ad σ) sz)) 0 0 (va_A (slw y ad σ) sz) := by
  refine x_metl (cc := cX7_slopeAt) (maxL := 13) (by decide) rfl (Nat.le_of_ble_eq_true rfl) ?_
  intro p e s m below meth c A H locs Q hx hb hml hown hts hr hlocks hmn hA hP hK hD hS ls hl hQ
  have hl : lv_has ls 13 [(0, .ref (ad 130)), (1, .int k), (2, .ref (ad 172))] := hl
  have fl84 := hts (.fieldLink RX7 84 "SlopeRunner$Tape" "value" "[J") (List.mem_of_getElem? (i := 1) rfl)
  have inX8 : ∀ w ∈ wsX80, w ∈ v_s_slopeAt2 := (fun w h => List.mem_cons_of_mem _ (List.mem_append_right _ (List.mem_append_right _ (List.mem_append_right _ (List.mem_append_right _ (List.mem_append_right _ (List.mem_append_right _ h)))))))
  have fl64 := hts (.fieldLink RX7 64 "SlopeRunner$Tape" "left" "[I") (List.mem_of_getElem? (i := 2) rfl)
  have fl67 := hts (.fieldLink RX7 67 "SlopeRunner$Tape" "right" "[I") (List.mem_of_getElem? (i := 3) rfl)
  have fl70 := hts (.fieldLink RX7 70 "SlopeRunner$Tape" "kind" "[I") (List.mem_of_getElem? (i := 4) rfl)
  refine lv_aload_n hx hb dX7_slopeAt_0 rfl (lv_at hl 0 rfl) ?_
  refine va_get (D := D) (ci := 7) (v := .ref (ad 131)) (C := RX8) (T := TX8) (N := 13) hx hb hts inX8 hown hK hP 1 slw_o1 rfl 0 (by decide) fl84 (fun _ h9 => h9) rfl dX7_slopeAt_1 ?_
  refine lv_aload_n hx hb dX7_slopeAt_4 rfl (lv_at hl 0 rfl) ?_
  refine va_get (D := D) (ci := 7) (v := .ref (ad 133)) (C := RX8) (T := TX8) (N := 13) hx hb hts inX8 hown hK hP 1 slw_o1 rfl 2 (by decide) fl64 (fun _ h9 => h9) rfl dX7_slopeAt_5 ?_
  refine lv_iload_n hx hb dX7_slopeAt_8 rfl (lv_at hl 1 rfl) ?_
  refine va_iald hx hb hK hP 9 2 slw_a9 rfl (x_in (by omega) (by omega)) dX7_slopeAt_9 ?_
  refine lv_topi (fun i_1 ei_1 => ?_)
  have ei_1 : i_1 = (σ.2.2.1 133) (Int32.toNatClampNeg k) := ei_1
  have bi_1 := b_at hB133 ei_1
  refine va_lald hx hb hK hP 7 3 slw_a7 rfl (x_in (by omega) (by omega)) dX7_slopeAt_10 ?_
  refine lv_topl (fun j_2 ej_2 => ?_)
  have ej_2 : j_2 = (σ.2.2.2 131) (Int32.toNatClampNeg i_1) := ej_2
  refine lv_lstore_n (lv' := [(3, .long j_2), (0, .ref (ad 130)), (1, .int k), (2, .ref (ad 172))]) hx hb dX7_slopeAt_11 rfl hl (by decide) rfl (fun ls hl => ?_)
  refine lv_aload_n hx hb dX7_slopeAt_12 rfl (lv_at hl 1 rfl) ?_
  refine va_get (D := D) (ci := 7) (v := .ref (ad 131)) (C := RX8) (T := TX8) (N := 13) hx hb hts inX8 hown hK hP 1 slw_o1 rfl 0 (by decide) fl84 (fun _ h9 => h9) rfl dX7_slopeAt_13 ?_
  refine lv_aload_n hx hb dX7_slopeAt_16 rfl (lv_at hl 1 rfl) ?_
  refine va_get (D := D) (ci := 7) (v := .ref (ad 134)) (C := RX8) (T := TX8) (N := 13) hx hb hts inX8 hown hK hP 1 slw_o1 rfl 3 (by decide) fl67 (fun _ h9 => h9) rfl dX7_slopeAt_17 ?_
  refine lv_iload_n hx hb dX7_slopeAt_20 rfl (lv_at hl 2 rfl) ?_
  refine va_iald hx hb hK hP 10 2 slw_a10 rfl (x_in (by omega) (by omega)) dX7_slopeAt_21 ?_
  refine lv_topi (fun i_3 ei_3 => ?_)
  have ei_3 : i_3 = (σ.2.2.1 134) (Int32.toNatClampNeg k) := ei_3
  have bi_3 := b_at hB134 ei_3
  refine va_lald hx hb hK hP 7 3 slw_a7 rfl (x_in (by omega) (by omega)) dX7_slopeAt_22 ?_
  refine lv_topl (fun j_4 ej_4 => ?_)
  have ej_4 : j_4 = (σ.2.2.2 131) (Int32.toNatClampNeg i_3) := ej_4
  refine lv_lstore (lv' := [(5, .long j_4), (3, .long j_2), (0, .ref (ad 130)), (1, .int k), (2, .ref (ad 172))]) hx hb dX7_slopeAt_23 hl (by decide) rfl (fun ls hl => ?_)
  refine lv_aload_n hx hb dX7_slopeAt_25 rfl (lv_at hl 4 rfl) ?_
  refine lv_aload_n hx hb dX7_slopeAt_26 rfl (lv_at hl 2 rfl) ?_
  refine va_get (D := D) (ci := 7) (v := .ref (ad 133)) (C := RX8) (T := TX8) (N := 13) hx hb hts inX8 hown hK hP 1 slw_o1 rfl 2 (by decide) fl64 (fun _ h9 => h9) rfl dX7_slopeAt_27 ?_
  refine lv_iload_n hx hb dX7_slopeAt_30 rfl (lv_at hl 3 rfl) ?_
  refine va_iald hx hb hK hP 9 2 slw_a9 rfl (x_in (by omega) (by omega)) dX7_slopeAt_31 ?_
  refine lv_topi (fun i_5 ei_5 => ?_)
  have ei_5 : i_5 = (σ.2.2.1 133) (Int32.toNatClampNeg k) := ei_5
  have bi_5 := b_at hB133 ei_5
  refine va_lald hx hb hK hP 3 3 slw_a3 rfl (x_in (by omega) (by omega)) dX7_slopeAt_32 ?_
  refine lv_topl (fun j_6 ej_6 => ?_)
  have ej_6 : j_6 = (σ.2.2.2 172) (Int32.toNatClampNeg i_5) := ej_6
  refine lv_lstore (lv' := [(7, .long j_6), (5, .long j_4), (3, .long j_2), (0, .ref (ad 130)), (1, .int k), (2, .ref (ad 172))]) hx hb dX7_slopeAt_33 hl (by decide) rfl (fun ls hl => ?_)
  refine lv_aload_n hx hb dX7_slopeAt_35 rfl (lv_at hl 5 rfl) ?_
  refine lv_aload_n hx hb dX7_slopeAt_36 rfl (lv_at hl 3 rfl) ?_
  refine va_get (D := D) (ci := 7) (v := .ref (ad 134)) (C := RX8) (T := TX8) (N := 13) hx hb hts inX8 hown hK hP 1 slw_o1 rfl 3 (by decide) fl67 (fun _ h9 => h9) rfl dX7_slopeAt_37 ?_
  refine lv_iload_n hx hb dX7_slopeAt_40 rfl (lv_at hl 4 rfl) ?_
  refine va_iald hx hb hK hP 10 2 slw_a10 rfl (x_in (by omega) (by omega)) dX7_slopeAt_41 ?_
  refine lv_topi (fun i_7 ei_7 => ?_)
  have ei_7 : i_7 = (σ.2.2.1 134) (Int32.toNatClampNeg k) := ei_7
  have bi_7 := b_at hB134 ei_7
  refine va_lald hx hb hK hP 3 3 slw_a3 rfl (x_in (by omega) (by omega)) dX7_slopeAt_42 ?_
  refine lv_topl (fun j_8 ej_8 => ?_)
  have ej_8 : j_8 = (σ.2.2.2 172) (Int32.toNatClampNeg i_7) := ej_8
  refine lv_lstore (lv' := [(9, .long j_8), (7, .long j_6), (5, .long j_4), (3, .long j_2), (0, .ref (ad 130)), (1, .int k), (2, .ref (ad 172))]) hx hb dX7_slopeAt_43 hl (by decide) rfl (fun ls hl => ?_)
  refine lv_aload_n hx hb dX7_slopeAt_45 rfl (lv_at hl 4 rfl) ?_
  refine va_get (D := D) (ci := 7) (v := .ref (ad 132)) (C := RX8) (T := TX8) (N := 13) hx hb hts inX8 hown hK hP 1 slw_o1 rfl 1 (by decide) fl70 (fun _ h9 => h9) rfl dX7_slopeAt_46 ?_
  refine lv_iload_n hx hb dX7_slopeAt_49 rfl (lv_at hl 5 rfl) ?_
  refine va_iald hx hb hK hP 8 2 slw_a8 rfl (x_in (by omega) (by omega)) dX7_slopeAt_50 ?_
  refine lv_topi (fun i_9 ei_9 => ?_)
  have ei_9 : i_9 = (σ.2.2.1 132) (Int32.toNatClampNeg k) := ei_9
  rcases (show i_9 = 6 ∨ i_9 = 7 ∨ i_9 = 8 ∨ i_9 = 9 ∨ i_9 = 31 ∨ (¬ i_9 = 6 ∧ ¬ i_9 = 7 ∧ ¬ i_9 = 8 ∧ ¬ i_9 = 9 ∧ ¬ i_9 = 31) by simp only [x_eq, Int32.reduceToInt]; omega) with rfl | rfl | rfl | rfl | rfl | ⟨g_10_0, g_10_1, g_10_2, g_10_3, g_10_4⟩
  · refine lv_lookup (tgt := 100) (off := 49) hx hb dX7_slopeAt_51 (by decide) (by decide) (by decide) ?_
    refine lv_lload hx hb dX7_slopeAt_100 (lv_at hl 1 rfl) ?_
    refine lv_lload hx hb dX7_slopeAt_102 (lv_at hl 0 rfl) ?_
    refine x_calllN (va_runS (As := [.long j_6, .long j_8]) (rest := []) ⟨hx, hb, hml, hown, hts⟩ (k_plus l D y H.size j_6 j_8) (va_cwS 2 hts g_s_slopeAt2_0 rfl rfl rfl (by decide +kernel) ⟨Nat.le_of_ble_eq_true rfl, Nat.le_of_ble_eq_true rfl⟩) (x_preS hK (x_nilP D H) (x_nilD A)) rfl rfl hl.1 rfl (lv_room (Nat.le_of_ble_eq_true rfl)) dX7_slopeAt_104 ⟨Nat.le_of_ble_eq_true rfl, Nat.le_of_ble_eq_true rfl⟩) hP hD hS hA (fun r_11 u H locs hw hP hD hS => ?_)
    try dsimp only at hw
    exact x_lretW (v := r_11) (u := ()) hx hb hr hQ trivial hP hD hK hS dX7_slopeAt_107 hlocks
  · refine lv_lookup (tgt := 108) (off := 57) hx hb dX7_slopeAt_51 (by decide) (by decide) (by decide) ?_
    refine lv_lload hx hb dX7_slopeAt_108 (lv_at hl 1 rfl) ?_
    refine lv_lload hx hb dX7_slopeAt_110 (lv_at hl 0 rfl) ?_
    refine x_calllN (va_runS (As := [.long j_6, .long j_8]) (rest := []) ⟨hx, hb, hml, hown, hts⟩ (k_minus l D y H.size j_6 j_8) (va_cwS 2 hts g_s_slopeAt2_1 rfl rfl rfl (by decide +kernel) ⟨Nat.le_of_ble_eq_true rfl, Nat.le_of_ble_eq_true rfl⟩) (x_preS hK (x_nilP D H) (x_nilD A)) rfl rfl hl.1 rfl (lv_room (Nat.le_of_ble_eq_true rfl)) dX7_slopeAt_112 ⟨Nat.le_of_ble_eq_true rfl, Nat.le_of_ble_eq_true rfl⟩) hP hD hS hA (fun r_12 u H locs hw hP hD hS => ?_)
    try dsimp only at hw
    exact x_lretW (v := r_12) (u := ()) hx hb hr hQ trivial hP hD hK hS dX7_slopeAt_115 hlocks
  · refine lv_lookup (tgt := 116) (off := 65) hx hb dX7_slopeAt_51 (by decide) (by decide) (by decide) ?_
    refine lv_lload hx hb dX7_slopeAt_116 (lv_at hl 1 rfl) ?_
    refine lv_lload hx hb dX7_slopeAt_118 (lv_at hl 2 rfl) ?_
    refine x_calllN (va_runS (As := [.long j_6, .long j_4]) (rest := []) ⟨hx, hb, hml, hown, hts⟩ (k_times l D y H.size j_6 j_4) (va_cwS 2 hts g_s_slopeAt2_2 rfl rfl rfl (by decide +kernel) ⟨Nat.le_of_ble_eq_true rfl, Nat.le_of_ble_eq_true rfl⟩) (x_preS hK (x_nilP D H) (x_nilD A)) rfl rfl hl.1 rfl (lv_room (Nat.le_of_ble_eq_true rfl)) dX7_slopeAt_120 ⟨Nat.le_of_ble_eq_true rfl, Nat.le_of_ble_eq_true rfl⟩) hP hD hS hA (fun r_13 u H locs hw hP hD hS => ?_)
    try dsimp only at hw
    refine lv_lload_n hx hb dX7_slopeAt_123 rfl (lv_at hl 3 rfl) ?_
    refine lv_lload hx hb dX7_slopeAt_124 (lv_at hl 0 rfl) ?_
    refine x_calllN (va_runS (As := [.long j_2, .long j_8]) (rest := [.long r_13]) ⟨hx, hb, hml, hown, hts⟩ (k_times l D y H.size j_2 j_8) (va_cwS 2 hts g_s_slopeAt2_2 rfl rfl rfl (by decide +kernel) ⟨Nat.le_of_ble_eq_true rfl, Nat.le_of_ble_eq_true rfl⟩) (x_preS hK (x_nilP D H) (x_nilD A)) rfl rfl hl.1 rfl (lv_room (Nat.le_of_ble_eq_true rfl)) dX7_slopeAt_126 ⟨Nat.le_of_ble_eq_true rfl, Nat.le_of_ble_eq_true rfl⟩) hP hD hS hA (fun r_14 u H locs hw hP hD hS => ?_)
    try dsimp only at hw
    refine x_calllN (va_runS (As := [.long r_13, .long r_14]) (rest := []) ⟨hx, hb, hml, hown, hts⟩ (k_plus l D y H.size r_13 r_14) (va_cwS 2 hts g_s_slopeAt2_0 rfl rfl rfl (by decide +kernel) ⟨Nat.le_of_ble_eq_true rfl, Nat.le_of_ble_eq_true rfl⟩) (x_preS hK (x_nilP D H) (x_nilD A)) rfl rfl hl.1 rfl (lv_room (Nat.le_of_ble_eq_true rfl)) dX7_slopeAt_129 ⟨Nat.le_of_ble_eq_true rfl, Nat.le_of_ble_eq_true rfl⟩) hP hD hS hA (fun r_15 u H locs hw hP hD hS => ?_)
    try dsimp only at hw
    exact x_lretW (v := r_15) (u := ()) hx hb hr hQ trivial hP hD hK hS dX7_slopeAt_132 hlocks
  · refine lv_lookup (tgt := 133) (off := 82) hx hb dX7_slopeAt_51 (by decide) (by decide) (by decide) ?_
    refine lv_lload hx hb dX7_slopeAt_133 (lv_at hl 1 rfl) ?_
    refine lv_aload_n hx hb dX7_slopeAt_135 rfl (lv_at hl 4 rfl) ?_
    refine va_get (D := D) (ci := 7) (v := .ref (ad 131)) (C := RX8) (T := TX8) (N := 13) hx hb hts inX8 hown hK hP 1 slw_o1 rfl 0 (by decide) fl84 (fun _ h9 => h9) rfl dX7_slopeAt_136 ?_
    refine lv_iload_n hx hb dX7_slopeAt_139 rfl (lv_at hl 5 rfl) ?_
    refine va_lald hx hb hK hP 7 3 slw_a7 rfl (x_in (by omega) (by omega)) dX7_slopeAt_140 ?_
    refine lv_topl (fun j_16 ej_16 => ?_)
    have ej_16 : j_16 = (σ.2.2.2 131) (Int32.toNatClampNeg k) := ej_16
    refine lv_lload hx hb dX7_slopeAt_141 (lv_at hl 0 rfl) ?_
    refine x_calllN (va_runS (As := [.long j_16, .long j_8]) (rest := [.long j_6]) ⟨hx, hb, hml, hown, hts⟩ (k_times l D y H.size j_16 j_8) (va_cwS 2 hts g_s_slopeAt2_2 rfl rfl rfl (by decide +kernel) ⟨Nat.le_of_ble_eq_true rfl, Nat.le_of_ble_eq_true rfl⟩) (x_preS hK (x_nilP D H) (x_nilD A)) rfl rfl hl.1 rfl (lv_room (Nat.le_of_ble_eq_true rfl)) dX7_slopeAt_143 ⟨Nat.le_of_ble_eq_true rfl, Nat.le_of_ble_eq_true rfl⟩) hP hD hS hA (fun r_17 u H locs hw hP hD hS => ?_)
    try dsimp only at hw
    refine x_calllN (va_runS (As := [.long j_6, .long r_17]) (rest := []) ⟨hx, hb, hml, hown, hts⟩ (k_minus l D y H.size j_6 r_17) (va_cwS 2 hts g_s_slopeAt2_1 rfl rfl rfl (by decide +kernel) ⟨Nat.le_of_ble_eq_true rfl, Nat.le_of_ble_eq_true rfl⟩) (x_preS hK (x_nilP D H) (x_nilD A)) rfl rfl hl.1 rfl (lv_room (Nat.le_of_ble_eq_true rfl)) dX7_slopeAt_146 ⟨Nat.le_of_ble_eq_true rfl, Nat.le_of_ble_eq_true rfl⟩) hP hD hS hA (fun r_18 u H locs hw hP hD hS => ?_)
    try dsimp only at hw
    refine lv_lstore (lv' := [(11, .long r_18), (9, .long j_8), (7, .long j_6), (5, .long j_4), (3, .long j_2), (0, .ref (ad 130)), (1, .int k), (2, .ref (ad 172))]) hx hb dX7_slopeAt_149 hl (by decide) rfl (fun ls hl => ?_)
    refine lv_lload hx hb dX7_slopeAt_151 (lv_at hl 0 rfl) ?_
    refine lv_lload hx hb dX7_slopeAt_153 (lv_at hl 3 rfl) ?_
    refine x_calllN (va_runS (As := [.long r_18, .long j_4]) (rest := []) ⟨hx, hb, hml, hown, hts⟩ (k_over l D y H.size r_18 j_4) (va_cwS 2 hts g_s_slopeAt2_3 rfl rfl rfl (by decide +kernel) ⟨Nat.le_of_ble_eq_true rfl, Nat.le_of_ble_eq_true rfl⟩) (x_preS hK (x_nilP D H) (x_nilD A)) rfl rfl hl.1 rfl (lv_room (Nat.le_of_ble_eq_true rfl)) dX7_slopeAt_155 ⟨Nat.le_of_ble_eq_true rfl, Nat.le_of_ble_eq_true rfl⟩) hP hD hS hA (fun r_19 u H locs hw hP hD hS => ?_)
    try dsimp only at hw
    exact x_lretW (v := r_19) (u := ()) hx hb hr hQ trivial hP hD hK hS dX7_slopeAt_158 hlocks
  · refine lv_lookup (tgt := 159) (off := 108) hx hb dX7_slopeAt_51 (by decide) (by decide) (by decide) ?_
    refine lv_lload hx hb dX7_slopeAt_159 (lv_at hl 1 rfl) ?_
    refine x_calllN (va_runS (As := [.long j_6]) (rest := []) ⟨hx, hb, hml, hown, hts⟩ (k_turned l D y H.size j_6) (va_cwS 1 hts g_s_slopeAt2_4 rfl rfl rfl (by decide +kernel) ⟨Nat.le_of_ble_eq_true rfl, Nat.le_of_ble_eq_true rfl⟩) (x_preS hK (x_nilP D H) (x_nilD A)) rfl rfl hl.1 rfl (lv_room (Nat.le_of_ble_eq_true rfl)) dX7_slopeAt_161 ⟨Nat.le_of_ble_eq_true rfl, Nat.le_of_ble_eq_true rfl⟩) hP hD hS hA (fun r_20 u H locs hw hP hD hS => ?_)
    try dsimp only at hw
    exact x_lretW (v := r_20) (u := ()) hx hb hr hQ trivial hP hD hK hS dX7_slopeAt_164 hlocks
  · refine lv_lookup (tgt := 165) (off := 114) hx hb dX7_slopeAt_51 (by decide) ((lv_osw g_10_0 rfl).trans ((lv_osw g_10_1 rfl).trans ((lv_osw g_10_2 rfl).trans ((lv_osw g_10_3 rfl).trans ((lv_osw g_10_4 rfl).trans rfl))))) (by decide) ?_
    refine lv_lload hx hb dX7_slopeAt_165 (lv_at hl 1 rfl) ?_
    exact x_lretW (v := j_6) (u := ()) hx hb hr hQ trivial hP hD hK hS dX7_slopeAt_167 hlocks

def v_s_fillSlopes2 : List Cond := .code yX7_fillSlopes cX7_fillSlopes 6 none :: ([.fieldLink RX7 41 "SlopeRunner$Tape" "firstStep" "I", .fieldLink RX7 25 "SlopeRunner$Slopes" "hangs" "[Z", .constantLong RX7 55 1073741825] ++ ((wsS RX7 80 yX7_slopeAt v_s_slopeAt2) ++ (wsX80 ++ wsX70)))
theorem g_s_fillSlopes2_0 : GoodIn v_s_fillSlopes2 (wsS RX7 80 yX7_slopeAt v_s_slopeAt2) := goodIn_sub (fun w h => List.mem_cons_of_mem _ (List.mem_append_right _ (List.mem_append_left _ h))) (by decide +kernel)
set_option maxHeartbeats 4000000 in
set_option maxRecDepth 100000 in
theorem s_fillSlopes2 (l : Launch) (D : va_G) (y : Nat → ClassId) (sz : Nat) (ad : Nat → Nat) (σ : OS) (z : Int32) (hz0 : 0 ≤ z.toInt) (hz1 : z.toInt ≤ 1358) (q : Int32)  (hB133 : bI (σ.2.2.1 133) 0 1358) (hB134 : bI (σ.2.2.1 134) 0 1358) : Met l yX7_fillSlopes v_s_fillSlopes2 ({ frames := 4, cells := 0, slots := 0, locals := 124 } : Room) (va_Pc [.ref (ad 170), .ref (ad 130), .int z, .int q, .ref (ad 172)] (xPre D (xT y) (slw y ad σ) sz)) (va_Qv (fun (u : (Nat → Int64)) => True) (fun (u : (Nat → Int64)) => xB D (xT y) (va_A (slw y ad σ) sz) (slw y ad (tJ σ 172 u))) (va_A (slw y ad σ) sz)) 0 0 (va_A (slw y ad σ) sz) := by
  refine x_metv (cc := cX7_fillSlopes) (maxL := 6) (by decide) rfl (Nat.le_of_ble_eq_true rfl) ?_
  intro p e s m below meth c A H locs Q hx hb hml hown hts hr hlocks hmn hA hP hK hD hS ls hl hQ
  have hl : lv_has ls 6 [(0, .ref (ad 170)), (1, .ref (ad 130)), (2, .int z), (3, .int q), (4, .ref (ad 172))] := hl
  have fl41 := hts (.fieldLink RX7 41 "SlopeRunner$Tape" "firstStep" "I") (List.mem_of_getElem? (i := 1) rfl)
  have inX8 : ∀ w ∈ wsX80, w ∈ v_s_fillSlopes2 := (fun w h => List.mem_cons_of_mem _ (List.mem_append_right _ (List.mem_append_right _ (List.mem_append_left _ h))))
  have fl25 := hts (.fieldLink RX7 25 "SlopeRunner$Slopes" "hangs" "[Z") (List.mem_of_getElem? (i := 2) rfl)
  have inX7 : ∀ w ∈ wsX70, w ∈ v_s_fillSlopes2 := (fun w h => List.mem_cons_of_mem _ (List.mem_append_right _ (List.mem_append_right _ (List.mem_append_right _ h))))
  have kk_0 : (0 : Int32).toInt = 0 := rfl
  have kk_1 : (1 : Int32).toInt = 1 := rfl
  refine lv_iconst (v := 0) hx hb dX7_fillSlopes_0 (by decide) ?_
  refine lv_istore (lv' := [(5, .int 0), (0, .ref (ad 170)), (1, .ref (ad 130)), (2, .int z), (3, .int q), (4, .ref (ad 172))]) hx hb dX7_fillSlopes_1 hl (by decide) rfl (fun ls hl => ?_)
  have l00 : (0 : Int32).toInt = 0 := rfl
  have hP : va_P D vwCl (slw y ad (tJ σ 172 (σ.2.2.2 172))) H := hP
  have hD : va_D A (slw y ad (tJ σ 172 (σ.2.2.2 172))) := hD
  have loop : ∀ (fu : Nat) (i9 : Int32) (fh : Nat → Int64) (H : Heap) (locs : List Loc) (ls : Array Slot), (0 ≤ i9.toInt) → (i9.toInt ≤ z.toInt + 1) → (z.toInt + 1 - i9.toInt < (fu : Int)) → va_P D vwCl (slw y ad (tJ σ 172 fh)) H → va_D A (slw y ad (tJ σ 172 fh)) → va_S A s.heap H locs → lv_has ls 6 [(5, .int i9), (4, .ref (ad 172)), (3, .int q), (2, .int z), (1, .ref (ad 130)), (0, .ref (ad 170))] → W p l e ({ frames := 4, cells := 0, slots := 0, locals := 124 } : Room) s m ([.ref (ad 170), .ref (ad 130), .int z, .int q, .ref (ad 172)] : List Value).toArray below meth c H locs 0 0 Q (F0 m 3 ls []) := by
    intro fu
    induction fu with
    | zero =>
      intro i9 fh H locs ls hi0 hi1 hm
      exact absurd hm (by omega)
    | succ fu ih_loop =>
      intro i9 fh H locs ls hi0 hi1 hm hP hD hS hl
      refine lv_iload hx hb dX7_fillSlopes_3 (lv_at hl 0 rfl) ?_
      refine lv_iload_n hx hb dX7_fillSlopes_5 rfl (lv_at hl 3 rfl) ?_
      refine lv_icmp_gt (tgt := 68) hx hb dX7_fillSlopes_6 (by decide) (fun c_1 => ?_) (fun c_1 => ?_)
      · have kc_1 : i9.toInt > z.toInt := by have h9 := c_1; simp only [ge_iff_le, gt_iff_lt, x_lt, x_le, x_eq, ne_eq, Int32.not_lt, Int32.not_le] at h9; omega
        exact x_vretW (u := fh) hx hb hr hQ trivial hP hD hK hS dX7_fillSlopes_68 hlocks
      · have kc_1 : i9.toInt ≤ z.toInt := by have h9 := c_1; simp only [ge_iff_le, gt_iff_lt, x_lt, x_le, x_eq, ne_eq, Int32.not_lt, Int32.not_le] at h9; omega
        refine lv_iload hx hb dX7_fillSlopes_9 (lv_at hl 0 rfl) ?_
        refine lv_aload_n hx hb dX7_fillSlopes_11 rfl (lv_at hl 4 rfl) ?_
        refine va_get (D := D) (ci := 7) (v := .int (σ.1 138)) (C := RX8) (T := TX8) (N := 13) hx hb hts inX8 hown hK hP 1 slw_o1 rfl 7 (by decide) fl41 (fun _ h9 => h9) rfl dX7_fillSlopes_12 ?_
        refine lv_icmp_ge (tgt := 39) hx hb dX7_fillSlopes_15 (by decide) (fun c_2 => ?_) (fun c_2 => ?_)
        · have kc_2 : i9.toInt ≥ (σ.1 138).toInt := by have h9 := c_2; simp only [ge_iff_le, gt_iff_lt, x_lt, x_le, x_eq, ne_eq, Int32.not_lt, Int32.not_le] at h9; omega
          refine lv_aload_n hx hb dX7_fillSlopes_39 rfl (lv_at hl 5 rfl) ?_
          refine va_get (D := D) (ci := 6) (v := .ref (ad 175)) (C := RX7) (T := TX7) (N := 5) hx hb hts inX7 hown hK hP 0 slw_o0 rfl 4 (by decide) fl25 (fun _ h9 => h9) rfl dX7_fillSlopes_40 ?_
          refine lv_iload hx hb dX7_fillSlopes_43 (lv_at hl 0 rfl) ?_
          refine va_zald hx hb hK hP 6 4 slw_a6 rfl (x_in (by omega) (by omega)) dX7_fillSlopes_45 ?_
          refine lv_topi (fun i_3 ei_3 => ?_)
          have ei_3 : i_3 = (σ.2.2.1 175) (Int32.toNatClampNeg i9) := ei_3
          refine lv_if_eq (tgt := 62) hx hb dX7_fillSlopes_46 (by decide) (fun c_4 => ?_) (fun c_4 => ?_)
          · have kc_4 : i_3.toInt = 0 := by have h9 := c_4; simp only [ge_iff_le, gt_iff_lt, x_lt, x_le, x_eq, ne_eq, Int32.not_lt, Int32.not_le] at h9; simp only [Int32.reduceToInt] at h9; omega
            obtain ⟨i_5, ei_5⟩ : ∃ z9 : Int32, z9 = i9 + 1 := ⟨_, rfl⟩
            have vi_5 : i_5.toInt = i9.toInt + 1 := by have h9 := x_add ei_5 (by omega) (by omega); omega
            refine lv_iinc (v := i_5) (lv' := [(5, .int i_5), (4, .ref (ad 172)), (3, .int q), (2, .int z), (1, .ref (ad 130)), (0, .ref (ad 170))]) hx hb dX7_fillSlopes_62 hl (k := 0) rfl (by rw [ei_5]; rfl) (by decide) rfl (fun ls hl => ?_)
            refine lv_goto (tgt := 3) hx hb dX7_fillSlopes_65 (by decide) ?_
            exact ih_loop i_5 fh H locs ls (by omega) (by omega) (by omega) hP hD hS (lv_sub hl [0, 1, 2, 3, 4, 5] rfl)
          · have kc_4 : i_3.toInt ≠ 0 := by have h9 := c_4; simp only [ge_iff_le, gt_iff_lt, x_lt, x_le, x_eq, ne_eq, Int32.not_lt, Int32.not_le] at h9; simp only [Int32.reduceToInt] at h9; omega
            refine lv_aload hx hb dX7_fillSlopes_49 (lv_at hl 1 rfl) ?_
            refine lv_iload hx hb dX7_fillSlopes_51 (lv_at hl 0 rfl) ?_
            refine lv_aload_n hx hb dX7_fillSlopes_53 rfl (lv_at hl 4 rfl) ?_
            refine lv_iload hx hb dX7_fillSlopes_54 (lv_at hl 0 rfl) ?_
            refine lv_aload hx hb dX7_fillSlopes_56 (lv_at hl 1 rfl) ?_
            refine x_calllW (va_runS (As := [.ref (ad 130), .int i9, .ref (ad 172)]) (rest := [.int i9, .ref (ad 172)]) ⟨hx, hb, hml, hown, hts⟩ (s_slopeAt2 l D y H.size ad (tJ σ 172 fh) i9 (by first | omega | decide) (by first | omega | decide) hB133 hB134) (cwS 3 hts g_s_fillSlopes2_0 rfl rfl rfl (by decide +kernel) ⟨Nat.le_of_ble_eq_true rfl, Nat.le_of_ble_eq_true rfl⟩) (x_preS hK hP hD) rfl rfl hl.1 rfl (lv_room (Nat.le_of_ble_eq_true rfl)) dX7_fillSlopes_58 ⟨Nat.le_of_ble_eq_true rfl, Nat.le_of_ble_eq_true rfl⟩) hP hD hS hA (fun r_6 u H locs hw hP hD hS => ?_)
            try dsimp only at hw
            have hP : va_P D vwCl (slw y ad (tJ σ 172 fh)) H := hP
            have hD : va_D A (slw y ad (tJ σ 172 fh)) := hD
            refine va_last hx hb hK hP hD hS 3 3 slw_a3 rfl (x_in (by omega) (by omega)) dX7_fillSlopes_61 (fun H locs hP hD hS => ?_)
            obtain ⟨f_7, ef_7⟩ : ∃ z9 : Nat → Int64, z9 = (vp_updL fh (Int32.toNatClampNeg i9) r_6) := ⟨_, rfl⟩
            have hP : va_P D vwCl (slw y ad (tJ (tJ σ 172 fh) 172 f_7)) H := by rw [ef_7]; exact x_trP hP slw_s3
            have hD : va_D A (slw y ad (tJ (tJ σ 172 fh) 172 f_7)) := by rw [ef_7]; exact x_trD hD slw_s3
            obtain ⟨i_8, ei_8⟩ : ∃ z9 : Int32, z9 = i9 + 1 := ⟨_, rfl⟩
            have vi_8 : i_8.toInt = i9.toInt + 1 := by have h9 := x_add ei_8 (by omega) (by omega); omega
            refine lv_iinc (v := i_8) (lv' := [(5, .int i_8), (4, .ref (ad 172)), (3, .int q), (2, .int z), (1, .ref (ad 130)), (0, .ref (ad 170))]) hx hb dX7_fillSlopes_62 hl (k := 0) rfl (by rw [ei_8]; rfl) (by decide) rfl (fun ls hl => ?_)
            refine lv_goto (tgt := 3) hx hb dX7_fillSlopes_65 (by decide) ?_
            have hP : va_P D vwCl (slw y ad (tJ σ 172 f_7)) H := hP
            have hD : va_D A (slw y ad (tJ σ 172 f_7)) := hD
            exact ih_loop i_8 f_7 H locs ls (by omega) (by omega) (by omega) hP hD hS (lv_sub hl [0, 1, 2, 3, 4, 5] rfl)
        · have kc_2 : i9.toInt < (σ.1 138).toInt := by have h9 := c_2; simp only [ge_iff_le, gt_iff_lt, x_lt, x_le, x_eq, ne_eq, Int32.not_lt, Int32.not_le] at h9; omega
          refine lv_aload hx hb dX7_fillSlopes_18 (lv_at hl 1 rfl) ?_
          refine lv_iload hx hb dX7_fillSlopes_20 (lv_at hl 0 rfl) ?_
          refine lv_iload hx hb dX7_fillSlopes_22 (lv_at hl 0 rfl) ?_
          refine lv_iload_n hx hb dX7_fillSlopes_24 rfl (lv_at hl 2 rfl) ?_
          refine lv_icmp_ne (tgt := 34) hx hb dX7_fillSlopes_25 (by decide) (fun c_9 => ?_) (fun c_9 => ?_)
          · have kc_9 : i9.toInt ≠ q.toInt := by have h9 := c_9; simp only [ge_iff_le, gt_iff_lt, x_lt, x_le, x_eq, ne_eq, Int32.not_lt, Int32.not_le] at h9; omega
            refine lv_lconst (v := 1) hx hb dX7_fillSlopes_34 (by decide) ?_
            refine va_last hx hb hK hP hD hS 3 3 slw_a3 rfl (x_in (by omega) (by omega)) dX7_fillSlopes_35 (fun H locs hP hD hS => ?_)
            obtain ⟨f_10, ef_10⟩ : ∃ z9 : Nat → Int64, z9 = (vp_updL fh (Int32.toNatClampNeg i9) 1) := ⟨_, rfl⟩
            have hP : va_P D vwCl (slw y ad (tJ (tJ σ 172 fh) 172 f_10)) H := by rw [ef_10]; exact x_trP hP slw_s3
            have hD : va_D A (slw y ad (tJ (tJ σ 172 fh) 172 f_10)) := by rw [ef_10]; exact x_trD hD slw_s3
            refine lv_goto (tgt := 62) hx hb dX7_fillSlopes_36 (by decide) ?_
            obtain ⟨i_11, ei_11⟩ : ∃ z9 : Int32, z9 = i9 + 1 := ⟨_, rfl⟩
            have vi_11 : i_11.toInt = i9.toInt + 1 := by have h9 := x_add ei_11 (by omega) (by omega); omega
            refine lv_iinc (v := i_11) (lv' := [(5, .int i_11), (4, .ref (ad 172)), (3, .int q), (2, .int z), (1, .ref (ad 130)), (0, .ref (ad 170))]) hx hb dX7_fillSlopes_62 hl (k := 0) rfl (by rw [ei_11]; rfl) (by decide) rfl (fun ls hl => ?_)
            refine lv_goto (tgt := 3) hx hb dX7_fillSlopes_65 (by decide) ?_
            have hP : va_P D vwCl (slw y ad (tJ σ 172 f_10)) H := hP
            have hD : va_D A (slw y ad (tJ σ 172 f_10)) := hD
            exact ih_loop i_11 f_10 H locs ls (by omega) (by omega) (by omega) hP hD hS (lv_sub hl [0, 1, 2, 3, 4, 5] rfl)
          · have kc_9 : i9.toInt = q.toInt := by have h9 := c_9; simp only [ge_iff_le, gt_iff_lt, x_lt, x_le, x_eq, ne_eq, Int32.not_lt, Int32.not_le] at h9; omega
            refine lv_ldc2 (v := 1073741825) hx hb hown (hts (.constantLong RX7 55 1073741825) (List.mem_of_getElem? (i := 3) rfl)) dX7_fillSlopes_28 ?_
            refine lv_goto (tgt := 35) hx hb dX7_fillSlopes_31 (by decide) ?_
            refine va_last hx hb hK hP hD hS 3 3 slw_a3 rfl (x_in (by omega) (by omega)) dX7_fillSlopes_35 (fun H locs hP hD hS => ?_)
            obtain ⟨f_12, ef_12⟩ : ∃ z9 : Nat → Int64, z9 = (vp_updL fh (Int32.toNatClampNeg i9) 1073741825) := ⟨_, rfl⟩
            have hP : va_P D vwCl (slw y ad (tJ (tJ σ 172 fh) 172 f_12)) H := by rw [ef_12]; exact x_trP hP slw_s3
            have hD : va_D A (slw y ad (tJ (tJ σ 172 fh) 172 f_12)) := by rw [ef_12]; exact x_trD hD slw_s3
            refine lv_goto (tgt := 62) hx hb dX7_fillSlopes_36 (by decide) ?_
            obtain ⟨i_13, ei_13⟩ : ∃ z9 : Int32, z9 = i9 + 1 := ⟨_, rfl⟩
            have vi_13 : i_13.toInt = i9.toInt + 1 := by have h9 := x_add ei_13 (by omega) (by omega); omega
            refine lv_iinc (v := i_13) (lv' := [(5, .int i_13), (4, .ref (ad 172)), (3, .int q), (2, .int z), (1, .ref (ad 130)), (0, .ref (ad 170))]) hx hb dX7_fillSlopes_62 hl (k := 0) rfl (by rw [ei_13]; rfl) (by decide) rfl (fun ls hl => ?_)
            refine lv_goto (tgt := 3) hx hb dX7_fillSlopes_65 (by decide) ?_
            have hP : va_P D vwCl (slw y ad (tJ σ 172 f_12)) H := hP
            have hD : va_D A (slw y ad (tJ σ 172 f_12)) := hD
            exact ih_loop i_13 f_12 H locs ls (by omega) (by omega) (by omega) hP hD hS (lv_sub hl [0, 1, 2, 3, 4, 5] rfl)
  exact loop 1360 0 (σ.2.2.2 172) H locs ls (by decide) (by omega) (by omega) hP hD hS (lv_sub hl [0, 5, 4, 3, 2, 1] rfl)

def v_s_hasBothSlopes : List Cond := .code yX7_hasBothSlopes cX7_hasBothSlopes 2 (some .boolean) :: ([.fieldLink RX7 9 "SlopeRunner$Slopes" "fromOne" "[J", .fieldLink RX7 15 "SlopeRunner$Slopes" "fromOther" "[J"] ++ wsX70)
set_option maxHeartbeats 4000000 in
set_option maxRecDepth 100000 in
theorem s_hasBothSlopes (l : Launch) (D : va_G) (y : Nat → ClassId) (sz : Nat) (ad : Nat → Nat) (σ : OS) (k : Int32) (hk0 : 0 ≤ k.toInt) (hk1 : k.toInt ≤ 1358) : Met l yX7_hasBothSlopes v_s_hasBothSlopes ({ frames := 0, cells := 0, slots := 0, locals := 0 } : Room) (va_Pc [.ref (ad 170), .int k] (xPre D (xT y) (slw y ad σ) sz)) (va_Qi (fun (r : Int32) (_ : Unit) => True) (fun (u : Unit) => xB D (xT y) (va_A (slw y ad σ) sz) (slw y ad σ)) (va_A (slw y ad σ) sz)) 0 0 (va_A (slw y ad σ) sz) := by
  refine x_meti (cc := cX7_hasBothSlopes) (maxL := 2) (by decide) rfl (Nat.le_of_ble_eq_true rfl) ?_
  intro p e s m below meth c A H locs Q hx hb hml hown hts hr hlocks hmn hA hP hK hD hS ls hl hQ
  have hl : lv_has ls 2 [(0, .ref (ad 170)), (1, .int k)] := hl
  have fl9 := hts (.fieldLink RX7 9 "SlopeRunner$Slopes" "fromOne" "[J") (List.mem_of_getElem? (i := 1) rfl)
  have inX7 : ∀ w ∈ wsX70, w ∈ v_s_hasBothSlopes := (fun w h => List.mem_cons_of_mem _ (List.mem_append_right _ h))
  have kk_0 : (0 : Int32).toInt = 0 := rfl
  have fl15 := hts (.fieldLink RX7 15 "SlopeRunner$Slopes" "fromOther" "[J") (List.mem_of_getElem? (i := 2) rfl)
  have kk_1 : (1 : Int32).toInt = 1 := rfl
  refine lv_aload_n hx hb dX7_hasBothSlopes_0 rfl (lv_at hl 0 rfl) ?_
  refine va_get (D := D) (ci := 6) (v := .ref (ad 171)) (C := RX7) (T := TX7) (N := 5) hx hb hts inX7 hown hK hP 0 slw_o0 rfl 0 (by decide) fl9 (fun _ h9 => h9) rfl dX7_hasBothSlopes_1 ?_
  refine lv_iload_n hx hb dX7_hasBothSlopes_4 rfl (lv_at hl 1 rfl) ?_
  refine va_lald hx hb hK hP 2 3 slw_a2 rfl (x_in (by omega) (by omega)) dX7_hasBothSlopes_5 ?_
  refine lv_topl (fun j_1 ej_1 => ?_)
  have ej_1 : j_1 = (σ.2.2.2 171) (Int32.toNatClampNeg k) := ej_1
  refine lv_lconst (v := 0) hx hb dX7_hasBothSlopes_6 (by decide) ?_
  refine W.lcmp hx hb dX7_hasBothSlopes_7 ?_
  refine lv_if_eq (tgt := 26) hx hb dX7_hasBothSlopes_8 (by decide) (fun c_2 => ?_) (fun c_2 => ?_)
  · have kc_2 : j_1.toInt = 0 := by have h9 := x_tri j_1 (0 : Int64); (try simp only [Int64.reduceToInt] at h9); rcases h9 with ⟨g1, g2⟩ | ⟨g1, g2⟩ | ⟨g1, g2⟩ <;> first | omega | (exfalso; rw [g1] at c_2; revert c_2; decide)
    refine lv_iconst (v := 0) hx hb dX7_hasBothSlopes_26 (by decide) ?_
    exact x_zretW (v := 0) (u := ()) hx hb hr hQ rfl trivial hP hD hK hS dX7_hasBothSlopes_27 hlocks
  · have kc_2 : j_1.toInt ≠ 0 := by have h9 := x_tri j_1 (0 : Int64); (try simp only [Int64.reduceToInt] at h9); rcases h9 with ⟨g1, g2⟩ | ⟨g1, g2⟩ | ⟨g1, g2⟩ <;> first | omega | (exfalso; rw [g1] at c_2; revert c_2; decide)
    refine lv_aload_n hx hb dX7_hasBothSlopes_11 rfl (lv_at hl 0 rfl) ?_
    refine va_get (D := D) (ci := 6) (v := .ref (ad 172)) (C := RX7) (T := TX7) (N := 5) hx hb hts inX7 hown hK hP 0 slw_o0 rfl 1 (by decide) fl15 (fun _ h9 => h9) rfl dX7_hasBothSlopes_12 ?_
    refine lv_iload_n hx hb dX7_hasBothSlopes_15 rfl (lv_at hl 1 rfl) ?_
    refine va_lald hx hb hK hP 3 3 slw_a3 rfl (x_in (by omega) (by omega)) dX7_hasBothSlopes_16 ?_
    refine lv_topl (fun j_3 ej_3 => ?_)
    have ej_3 : j_3 = (σ.2.2.2 172) (Int32.toNatClampNeg k) := ej_3
    refine lv_lconst (v := 0) hx hb dX7_hasBothSlopes_17 (by decide) ?_
    refine W.lcmp hx hb dX7_hasBothSlopes_18 ?_
    refine lv_if_eq (tgt := 26) hx hb dX7_hasBothSlopes_19 (by decide) (fun c_4 => ?_) (fun c_4 => ?_)
    · have kc_4 : j_3.toInt = 0 := by have h9 := x_tri j_3 (0 : Int64); (try simp only [Int64.reduceToInt] at h9); rcases h9 with ⟨g1, g2⟩ | ⟨g1, g2⟩ | ⟨g1, g2⟩ <;> first | omega | (exfalso; rw [g1] at c_4; revert c_4; decide)
      refine lv_iconst (v := 0) hx hb dX7_hasBothSlopes_26 (by decide) ?_
      exact x_zretW (v := 0) (u := ()) hx hb hr hQ rfl trivial hP hD hK hS dX7_hasBothSlopes_27 hlocks
    · have kc_4 : j_3.toInt ≠ 0 := by have h9 := x_tri j_3 (0 : Int64); (try simp only [Int64.reduceToInt] at h9); rcases h9 with ⟨g1, g2⟩ | ⟨g1, g2⟩ | ⟨g1, g2⟩ <;> first | omega | (exfalso; rw [g1] at c_4; revert c_4; decide)
      refine lv_iconst (v := 1) hx hb dX7_hasBothSlopes_22 (by decide) ?_
      refine lv_goto (tgt := 27) hx hb dX7_hasBothSlopes_23 (by decide) ?_
      exact x_zretW (v := 1) (u := ()) hx hb hr hQ rfl trivial hP hD hK hS dX7_hasBothSlopes_27 hlocks

def v_s_twiceOfProduct : List Cond := .code yX7_twiceOfProduct cX7_twiceOfProduct 13 (some .long) :: ([.fieldLink RX7 64 "SlopeRunner$Tape" "left" "[I", .fieldLink RX7 67 "SlopeRunner$Tape" "right" "[I", .fieldLink RX7 18 "SlopeRunner$Slopes" "fromBoth" "[J", .fieldLink RX7 84 "SlopeRunner$Tape" "value" "[J", .fieldLink RX7 9 "SlopeRunner$Slopes" "fromOne" "[J", .fieldLink RX7 15 "SlopeRunner$Slopes" "fromOther" "[J"] ++ ((va_wsS RX7 94 yX0_times v_k_times) ++ ((va_wsS RX7 87 yX0_plus v_k_plus) ++ (wsX80 ++ wsX70))))
theorem g_s_twiceOfProduct_0 : GoodIn v_s_twiceOfProduct (va_wsS RX7 94 yX0_times v_k_times) := goodIn_sub (fun w h => List.mem_cons_of_mem _ (List.mem_append_right _ (List.mem_append_left _ h))) (by decide +kernel)
theorem g_s_twiceOfProduct_1 : GoodIn v_s_twiceOfProduct (va_wsS RX7 87 yX0_plus v_k_plus) := goodIn_sub (fun w h => List.mem_cons_of_mem _ (List.mem_append_right _ (List.mem_append_right _ (List.mem_append_left _ h)))) (by decide +kernel)
set_option maxHeartbeats 4000000 in
set_option maxRecDepth 100000 in
theorem s_twiceOfProduct (l : Launch) (D : va_G) (y : Nat → ClassId) (sz : Nat) (ad : Nat → Nat) (σ : OS) (k : Int32) (hk0 : 0 ≤ k.toInt) (hk1 : k.toInt ≤ 1358)  (hB133 : bI (σ.2.2.1 133) 0 1358) (hB134 : bI (σ.2.2.1 134) 0 1358) : Met l yX7_twiceOfProduct v_s_twiceOfProduct ({ frames := 3, cells := 0, slots := 0, locals := 92 } : Room) (va_Pc [.ref (ad 170), .ref (ad 130), .int k] (xPre D (xT y) (slw y ad σ) sz)) (va_Ql (fun (r : Int64) (_ : Unit) => True) (fun (u : Unit) => xB D (xT y) (va_A (slw y ad σ) sz) (slw y ad σ)) (va_A (slw y ad σ) sz)) 0 0 (va_A (slw y ad σ) sz) := by
  refine x_metl (cc := cX7_twiceOfProduct) (maxL := 13) (by decide) rfl (Nat.le_of_ble_eq_true rfl) ?_
  intro p e s m below meth c A H locs Q hx hb hml hown hts hr hlocks hmn hA hP hK hD hS ls hl hQ
  have hl : lv_has ls 13 [(0, .ref (ad 170)), (1, .ref (ad 130)), (2, .int k)] := hl
  have fl64 := hts (.fieldLink RX7 64 "SlopeRunner$Tape" "left" "[I") (List.mem_of_getElem? (i := 1) rfl)
  have inX8 : ∀ w ∈ wsX80, w ∈ v_s_twiceOfProduct := (fun w h => List.mem_cons_of_mem _ (List.mem_append_right _ (List.mem_append_right _ (List.mem_append_right _ (List.mem_append_left _ h)))))
  have fl67 := hts (.fieldLink RX7 67 "SlopeRunner$Tape" "right" "[I") (List.mem_of_getElem? (i := 2) rfl)
  have fl18 := hts (.fieldLink RX7 18 "SlopeRunner$Slopes" "fromBoth" "[J") (List.mem_of_getElem? (i := 3) rfl)
  have inX7 : ∀ w ∈ wsX70, w ∈ v_s_twiceOfProduct := (fun w h => List.mem_cons_of_mem _ (List.mem_append_right _ (List.mem_append_right _ (List.mem_append_right _ (List.mem_append_right _ h)))))
  have fl84 := hts (.fieldLink RX7 84 "SlopeRunner$Tape" "value" "[J") (List.mem_of_getElem? (i := 4) rfl)
  have fl9 := hts (.fieldLink RX7 9 "SlopeRunner$Slopes" "fromOne" "[J") (List.mem_of_getElem? (i := 5) rfl)
  have fl15 := hts (.fieldLink RX7 15 "SlopeRunner$Slopes" "fromOther" "[J") (List.mem_of_getElem? (i := 6) rfl)
  refine lv_aload_n hx hb dX7_twiceOfProduct_0 rfl (lv_at hl 1 rfl) ?_
  refine va_get (D := D) (ci := 7) (v := .ref (ad 133)) (C := RX8) (T := TX8) (N := 13) hx hb hts inX8 hown hK hP 1 slw_o1 rfl 2 (by decide) fl64 (fun _ h9 => h9) rfl dX7_twiceOfProduct_1 ?_
  refine lv_iload_n hx hb dX7_twiceOfProduct_4 rfl (lv_at hl 2 rfl) ?_
  refine va_iald hx hb hK hP 9 2 slw_a9 rfl (x_in (by omega) (by omega)) dX7_twiceOfProduct_5 ?_
  refine lv_topi (fun i_1 ei_1 => ?_)
  have ei_1 : i_1 = (σ.2.2.1 133) (Int32.toNatClampNeg k) := ei_1
  have bi_1 := b_at hB133 ei_1
  refine lv_istore_n (lv' := [(3, .int i_1), (0, .ref (ad 170)), (1, .ref (ad 130)), (2, .int k)]) hx hb dX7_twiceOfProduct_6 rfl hl (by decide) rfl (fun ls hl => ?_)
  refine lv_aload_n hx hb dX7_twiceOfProduct_7 rfl (lv_at hl 2 rfl) ?_
  refine va_get (D := D) (ci := 7) (v := .ref (ad 134)) (C := RX8) (T := TX8) (N := 13) hx hb hts inX8 hown hK hP 1 slw_o1 rfl 3 (by decide) fl67 (fun _ h9 => h9) rfl dX7_twiceOfProduct_8 ?_
  refine lv_iload_n hx hb dX7_twiceOfProduct_11 rfl (lv_at hl 3 rfl) ?_
  refine va_iald hx hb hK hP 10 2 slw_a10 rfl (x_in (by omega) (by omega)) dX7_twiceOfProduct_12 ?_
  refine lv_topi (fun i_2 ei_2 => ?_)
  have ei_2 : i_2 = (σ.2.2.1 134) (Int32.toNatClampNeg k) := ei_2
  have bi_2 := b_at hB134 ei_2
  refine lv_istore (lv' := [(4, .int i_2), (3, .int i_1), (0, .ref (ad 170)), (1, .ref (ad 130)), (2, .int k)]) hx hb dX7_twiceOfProduct_13 hl (by decide) rfl (fun ls hl => ?_)
  refine lv_aload_n hx hb dX7_twiceOfProduct_15 rfl (lv_at hl 2 rfl) ?_
  refine va_get (D := D) (ci := 6) (v := .ref (ad 173)) (C := RX7) (T := TX7) (N := 5) hx hb hts inX7 hown hK hP 0 slw_o0 rfl 2 (by decide) fl18 (fun _ h9 => h9) rfl dX7_twiceOfProduct_16 ?_
  refine lv_iload_n hx hb dX7_twiceOfProduct_19 rfl (lv_at hl 1 rfl) ?_
  refine va_lald hx hb hK hP 4 3 slw_a4 rfl (x_in (by omega) (by omega)) dX7_twiceOfProduct_20 ?_
  refine lv_topl (fun j_3 ej_3 => ?_)
  have ej_3 : j_3 = (σ.2.2.2 173) (Int32.toNatClampNeg i_1) := ej_3
  refine lv_aload_n hx hb dX7_twiceOfProduct_21 rfl (lv_at hl 3 rfl) ?_
  refine va_get (D := D) (ci := 7) (v := .ref (ad 131)) (C := RX8) (T := TX8) (N := 13) hx hb hts inX8 hown hK hP 1 slw_o1 rfl 0 (by decide) fl84 (fun _ h9 => h9) rfl dX7_twiceOfProduct_22 ?_
  refine lv_iload hx hb dX7_twiceOfProduct_25 (lv_at hl 0 rfl) ?_
  refine va_lald hx hb hK hP 7 3 slw_a7 rfl (x_in (by omega) (by omega)) dX7_twiceOfProduct_27 ?_
  refine lv_topl (fun j_4 ej_4 => ?_)
  have ej_4 : j_4 = (σ.2.2.2 131) (Int32.toNatClampNeg i_2) := ej_4
  refine x_calllN (va_runS (As := [.long j_3, .long j_4]) (rest := []) ⟨hx, hb, hml, hown, hts⟩ (k_times l D y H.size j_3 j_4) (va_cwS 2 hts g_s_twiceOfProduct_0 rfl rfl rfl (by decide +kernel) ⟨Nat.le_of_ble_eq_true rfl, Nat.le_of_ble_eq_true rfl⟩) (x_preS hK (x_nilP D H) (x_nilD A)) rfl rfl hl.1 rfl (lv_room (Nat.le_of_ble_eq_true rfl)) dX7_twiceOfProduct_28 ⟨Nat.le_of_ble_eq_true rfl, Nat.le_of_ble_eq_true rfl⟩) hP hD hS hA (fun r_5 u H locs hw hP hD hS => ?_)
  try dsimp only at hw
  refine lv_lstore (lv' := [(5, .long r_5), (4, .int i_2), (3, .int i_1), (0, .ref (ad 170)), (1, .ref (ad 130)), (2, .int k)]) hx hb dX7_twiceOfProduct_31 hl (by decide) rfl (fun ls hl => ?_)
  refine lv_aload_n hx hb dX7_twiceOfProduct_33 rfl (lv_at hl 3 rfl) ?_
  refine va_get (D := D) (ci := 6) (v := .ref (ad 171)) (C := RX7) (T := TX7) (N := 5) hx hb hts inX7 hown hK hP 0 slw_o0 rfl 0 (by decide) fl9 (fun _ h9 => h9) rfl dX7_twiceOfProduct_34 ?_
  refine lv_iload_n hx hb dX7_twiceOfProduct_37 rfl (lv_at hl 2 rfl) ?_
  refine va_lald hx hb hK hP 2 3 slw_a2 rfl (x_in (by omega) (by omega)) dX7_twiceOfProduct_38 ?_
  refine lv_topl (fun j_6 ej_6 => ?_)
  have ej_6 : j_6 = (σ.2.2.2 171) (Int32.toNatClampNeg i_1) := ej_6
  refine lv_aload_n hx hb dX7_twiceOfProduct_39 rfl (lv_at hl 3 rfl) ?_
  refine va_get (D := D) (ci := 6) (v := .ref (ad 172)) (C := RX7) (T := TX7) (N := 5) hx hb hts inX7 hown hK hP 0 slw_o0 rfl 1 (by decide) fl15 (fun _ h9 => h9) rfl dX7_twiceOfProduct_40 ?_
  refine lv_iload hx hb dX7_twiceOfProduct_43 (lv_at hl 1 rfl) ?_
  refine va_lald hx hb hK hP 3 3 slw_a3 rfl (x_in (by omega) (by omega)) dX7_twiceOfProduct_45 ?_
  refine lv_topl (fun j_7 ej_7 => ?_)
  have ej_7 : j_7 = (σ.2.2.2 172) (Int32.toNatClampNeg i_2) := ej_7
  refine x_calllN (va_runS (As := [.long j_6, .long j_7]) (rest := []) ⟨hx, hb, hml, hown, hts⟩ (k_times l D y H.size j_6 j_7) (va_cwS 2 hts g_s_twiceOfProduct_0 rfl rfl rfl (by decide +kernel) ⟨Nat.le_of_ble_eq_true rfl, Nat.le_of_ble_eq_true rfl⟩) (x_preS hK (x_nilP D H) (x_nilD A)) rfl rfl hl.1 rfl (lv_room (Nat.le_of_ble_eq_true rfl)) dX7_twiceOfProduct_46 ⟨Nat.le_of_ble_eq_true rfl, Nat.le_of_ble_eq_true rfl⟩) hP hD hS hA (fun r_8 u H locs hw hP hD hS => ?_)
  try dsimp only at hw
  refine lv_lstore (lv' := [(7, .long r_8), (5, .long r_5), (4, .int i_2), (3, .int i_1), (0, .ref (ad 170)), (1, .ref (ad 130)), (2, .int k)]) hx hb dX7_twiceOfProduct_49 hl (by decide) rfl (fun ls hl => ?_)
  refine lv_aload_n hx hb dX7_twiceOfProduct_51 rfl (lv_at hl 4 rfl) ?_
  refine va_get (D := D) (ci := 6) (v := .ref (ad 172)) (C := RX7) (T := TX7) (N := 5) hx hb hts inX7 hown hK hP 0 slw_o0 rfl 1 (by decide) fl15 (fun _ h9 => h9) rfl dX7_twiceOfProduct_52 ?_
  refine lv_iload_n hx hb dX7_twiceOfProduct_55 rfl (lv_at hl 3 rfl) ?_
  refine va_lald hx hb hK hP 3 3 slw_a3 rfl (x_in (by omega) (by omega)) dX7_twiceOfProduct_56 ?_
  refine lv_topl (fun j_9 ej_9 => ?_)
  have ej_9 : j_9 = (σ.2.2.2 172) (Int32.toNatClampNeg i_1) := ej_9
  refine lv_aload_n hx hb dX7_twiceOfProduct_57 rfl (lv_at hl 4 rfl) ?_
  refine va_get (D := D) (ci := 6) (v := .ref (ad 171)) (C := RX7) (T := TX7) (N := 5) hx hb hts inX7 hown hK hP 0 slw_o0 rfl 0 (by decide) fl9 (fun _ h9 => h9) rfl dX7_twiceOfProduct_58 ?_
  refine lv_iload hx hb dX7_twiceOfProduct_61 (lv_at hl 2 rfl) ?_
  refine va_lald hx hb hK hP 2 3 slw_a2 rfl (x_in (by omega) (by omega)) dX7_twiceOfProduct_63 ?_
  refine lv_topl (fun j_10 ej_10 => ?_)
  have ej_10 : j_10 = (σ.2.2.2 171) (Int32.toNatClampNeg i_2) := ej_10
  refine x_calllN (va_runS (As := [.long j_9, .long j_10]) (rest := []) ⟨hx, hb, hml, hown, hts⟩ (k_times l D y H.size j_9 j_10) (va_cwS 2 hts g_s_twiceOfProduct_0 rfl rfl rfl (by decide +kernel) ⟨Nat.le_of_ble_eq_true rfl, Nat.le_of_ble_eq_true rfl⟩) (x_preS hK (x_nilP D H) (x_nilD A)) rfl rfl hl.1 rfl (lv_room (Nat.le_of_ble_eq_true rfl)) dX7_twiceOfProduct_64 ⟨Nat.le_of_ble_eq_true rfl, Nat.le_of_ble_eq_true rfl⟩) hP hD hS hA (fun r_11 u H locs hw hP hD hS => ?_)
  try dsimp only at hw
  refine lv_lstore (lv' := [(9, .long r_11), (7, .long r_8), (5, .long r_5), (4, .int i_2), (3, .int i_1), (0, .ref (ad 170)), (1, .ref (ad 130)), (2, .int k)]) hx hb dX7_twiceOfProduct_67 hl (by decide) rfl (fun ls hl => ?_)
  refine lv_aload_n hx hb dX7_twiceOfProduct_69 rfl (lv_at hl 6 rfl) ?_
  refine va_get (D := D) (ci := 7) (v := .ref (ad 131)) (C := RX8) (T := TX8) (N := 13) hx hb hts inX8 hown hK hP 1 slw_o1 rfl 0 (by decide) fl84 (fun _ h9 => h9) rfl dX7_twiceOfProduct_70 ?_
  refine lv_iload_n hx hb dX7_twiceOfProduct_73 rfl (lv_at hl 4 rfl) ?_
  refine va_lald hx hb hK hP 7 3 slw_a7 rfl (x_in (by omega) (by omega)) dX7_twiceOfProduct_74 ?_
  refine lv_topl (fun j_12 ej_12 => ?_)
  have ej_12 : j_12 = (σ.2.2.2 131) (Int32.toNatClampNeg i_1) := ej_12
  refine lv_aload_n hx hb dX7_twiceOfProduct_75 rfl (lv_at hl 5 rfl) ?_
  refine va_get (D := D) (ci := 6) (v := .ref (ad 173)) (C := RX7) (T := TX7) (N := 5) hx hb hts inX7 hown hK hP 0 slw_o0 rfl 2 (by decide) fl18 (fun _ h9 => h9) rfl dX7_twiceOfProduct_76 ?_
  refine lv_iload hx hb dX7_twiceOfProduct_79 (lv_at hl 3 rfl) ?_
  refine va_lald hx hb hK hP 4 3 slw_a4 rfl (x_in (by omega) (by omega)) dX7_twiceOfProduct_81 ?_
  refine lv_topl (fun j_13 ej_13 => ?_)
  have ej_13 : j_13 = (σ.2.2.2 173) (Int32.toNatClampNeg i_2) := ej_13
  refine x_calllN (va_runS (As := [.long j_12, .long j_13]) (rest := []) ⟨hx, hb, hml, hown, hts⟩ (k_times l D y H.size j_12 j_13) (va_cwS 2 hts g_s_twiceOfProduct_0 rfl rfl rfl (by decide +kernel) ⟨Nat.le_of_ble_eq_true rfl, Nat.le_of_ble_eq_true rfl⟩) (x_preS hK (x_nilP D H) (x_nilD A)) rfl rfl hl.1 rfl (lv_room (Nat.le_of_ble_eq_true rfl)) dX7_twiceOfProduct_82 ⟨Nat.le_of_ble_eq_true rfl, Nat.le_of_ble_eq_true rfl⟩) hP hD hS hA (fun r_14 u H locs hw hP hD hS => ?_)
  try dsimp only at hw
  refine lv_lstore (lv' := [(11, .long r_14), (9, .long r_11), (7, .long r_8), (5, .long r_5), (4, .int i_2), (3, .int i_1), (0, .ref (ad 170)), (1, .ref (ad 130)), (2, .int k)]) hx hb dX7_twiceOfProduct_85 hl (by decide) rfl (fun ls hl => ?_)
  refine lv_lload hx hb dX7_twiceOfProduct_87 (lv_at hl 3 rfl) ?_
  refine lv_lload hx hb dX7_twiceOfProduct_89 (lv_at hl 2 rfl) ?_
  refine x_calllN (va_runS (As := [.long r_5, .long r_8]) (rest := []) ⟨hx, hb, hml, hown, hts⟩ (k_plus l D y H.size r_5 r_8) (va_cwS 2 hts g_s_twiceOfProduct_1 rfl rfl rfl (by decide +kernel) ⟨Nat.le_of_ble_eq_true rfl, Nat.le_of_ble_eq_true rfl⟩) (x_preS hK (x_nilP D H) (x_nilD A)) rfl rfl hl.1 rfl (lv_room (Nat.le_of_ble_eq_true rfl)) dX7_twiceOfProduct_91 ⟨Nat.le_of_ble_eq_true rfl, Nat.le_of_ble_eq_true rfl⟩) hP hD hS hA (fun r_15 u H locs hw hP hD hS => ?_)
  try dsimp only at hw
  refine lv_lload hx hb dX7_twiceOfProduct_94 (lv_at hl 1 rfl) ?_
  refine lv_lload hx hb dX7_twiceOfProduct_96 (lv_at hl 0 rfl) ?_
  refine x_calllN (va_runS (As := [.long r_11, .long r_14]) (rest := [.long r_15]) ⟨hx, hb, hml, hown, hts⟩ (k_plus l D y H.size r_11 r_14) (va_cwS 2 hts g_s_twiceOfProduct_1 rfl rfl rfl (by decide +kernel) ⟨Nat.le_of_ble_eq_true rfl, Nat.le_of_ble_eq_true rfl⟩) (x_preS hK (x_nilP D H) (x_nilD A)) rfl rfl hl.1 rfl (lv_room (Nat.le_of_ble_eq_true rfl)) dX7_twiceOfProduct_98 ⟨Nat.le_of_ble_eq_true rfl, Nat.le_of_ble_eq_true rfl⟩) hP hD hS hA (fun r_16 u H locs hw hP hD hS => ?_)
  try dsimp only at hw
  refine x_calllN (va_runS (As := [.long r_15, .long r_16]) (rest := []) ⟨hx, hb, hml, hown, hts⟩ (k_plus l D y H.size r_15 r_16) (va_cwS 2 hts g_s_twiceOfProduct_1 rfl rfl rfl (by decide +kernel) ⟨Nat.le_of_ble_eq_true rfl, Nat.le_of_ble_eq_true rfl⟩) (x_preS hK (x_nilP D H) (x_nilD A)) rfl rfl hl.1 rfl (lv_room (Nat.le_of_ble_eq_true rfl)) dX7_twiceOfProduct_101 ⟨Nat.le_of_ble_eq_true rfl, Nat.le_of_ble_eq_true rfl⟩) hP hD hS hA (fun r_17 u H locs hw hP hD hS => ?_)
  try dsimp only at hw
  exact x_lretW (v := r_17) (u := ()) hx hb hr hQ trivial hP hD hK hS dX7_twiceOfProduct_104 hlocks

def v_s_twiceOfQuotient : List Cond := .code yX7_twiceOfQuotient cX7_twiceOfQuotient 13 (some .long) :: ([.fieldLink RX7 64 "SlopeRunner$Tape" "left" "[I", .fieldLink RX7 67 "SlopeRunner$Tape" "right" "[I", .fieldLink RX7 9 "SlopeRunner$Slopes" "fromOne" "[J", .fieldLink RX7 15 "SlopeRunner$Slopes" "fromOther" "[J", .fieldLink RX7 84 "SlopeRunner$Tape" "value" "[J", .fieldLink RX7 18 "SlopeRunner$Slopes" "fromBoth" "[J"] ++ ((va_wsS RX7 94 yX0_times v_k_times) ++ ((va_wsS RX7 91 yX0_minus v_k_minus) ++ ((va_wsS RX7 97 yX0_over v_k_over) ++ (wsX80 ++ wsX70)))))
theorem g_s_twiceOfQuotient_0 : GoodIn v_s_twiceOfQuotient (va_wsS RX7 94 yX0_times v_k_times) := goodIn_sub (fun w h => List.mem_cons_of_mem _ (List.mem_append_right _ (List.mem_append_left _ h))) (by decide +kernel)
theorem g_s_twiceOfQuotient_1 : GoodIn v_s_twiceOfQuotient (va_wsS RX7 91 yX0_minus v_k_minus) := goodIn_sub (fun w h => List.mem_cons_of_mem _ (List.mem_append_right _ (List.mem_append_right _ (List.mem_append_left _ h)))) (by decide +kernel)
theorem g_s_twiceOfQuotient_2 : GoodIn v_s_twiceOfQuotient (va_wsS RX7 97 yX0_over v_k_over) := goodIn_sub (fun w h => List.mem_cons_of_mem _ (List.mem_append_right _ (List.mem_append_right _ (List.mem_append_right _ (List.mem_append_left _ h))))) (by decide +kernel)
set_option maxHeartbeats 4000000 in
set_option maxRecDepth 100000 in
theorem s_twiceOfQuotient (l : Launch) (D : va_G) (y : Nat → ClassId) (sz : Nat) (ad : Nat → Nat) (σ : OS) (k : Int32) (hk0 : 0 ≤ k.toInt) (hk1 : k.toInt ≤ 1358)  (hB133 : bI (σ.2.2.1 133) 0 1358) (hB134 : bI (σ.2.2.1 134) 0 1358) : Met l yX7_twiceOfQuotient v_s_twiceOfQuotient ({ frames := 3, cells := 0, slots := 0, locals := 92 } : Room) (va_Pc [.ref (ad 170), .ref (ad 130), .int k] (xPre D (xT y) (slw y ad σ) sz)) (va_Ql (fun (r : Int64) (_ : Unit) => True) (fun (u : Unit) => xB D (xT y) (va_A (slw y ad σ) sz) (slw y ad σ)) (va_A (slw y ad σ) sz)) 0 0 (va_A (slw y ad σ) sz) := by
  refine x_metl (cc := cX7_twiceOfQuotient) (maxL := 13) (by decide) rfl (Nat.le_of_ble_eq_true rfl) ?_
  intro p e s m below meth c A H locs Q hx hb hml hown hts hr hlocks hmn hA hP hK hD hS ls hl hQ
  have hl : lv_has ls 13 [(0, .ref (ad 170)), (1, .ref (ad 130)), (2, .int k)] := hl
  have fl64 := hts (.fieldLink RX7 64 "SlopeRunner$Tape" "left" "[I") (List.mem_of_getElem? (i := 1) rfl)
  have inX8 : ∀ w ∈ wsX80, w ∈ v_s_twiceOfQuotient := (fun w h => List.mem_cons_of_mem _ (List.mem_append_right _ (List.mem_append_right _ (List.mem_append_right _ (List.mem_append_right _ (List.mem_append_left _ h))))))
  have fl67 := hts (.fieldLink RX7 67 "SlopeRunner$Tape" "right" "[I") (List.mem_of_getElem? (i := 2) rfl)
  have fl9 := hts (.fieldLink RX7 9 "SlopeRunner$Slopes" "fromOne" "[J") (List.mem_of_getElem? (i := 3) rfl)
  have inX7 : ∀ w ∈ wsX70, w ∈ v_s_twiceOfQuotient := (fun w h => List.mem_cons_of_mem _ (List.mem_append_right _ (List.mem_append_right _ (List.mem_append_right _ (List.mem_append_right _ (List.mem_append_right _ h))))))
  have fl15 := hts (.fieldLink RX7 15 "SlopeRunner$Slopes" "fromOther" "[J") (List.mem_of_getElem? (i := 4) rfl)
  have fl84 := hts (.fieldLink RX7 84 "SlopeRunner$Tape" "value" "[J") (List.mem_of_getElem? (i := 5) rfl)
  have fl18 := hts (.fieldLink RX7 18 "SlopeRunner$Slopes" "fromBoth" "[J") (List.mem_of_getElem? (i := 6) rfl)
  refine lv_aload_n hx hb dX7_twiceOfQuotient_0 rfl (lv_at hl 1 rfl) ?_
  refine va_get (D := D) (ci := 7) (v := .ref (ad 133)) (C := RX8) (T := TX8) (N := 13) hx hb hts inX8 hown hK hP 1 slw_o1 rfl 2 (by decide) fl64 (fun _ h9 => h9) rfl dX7_twiceOfQuotient_1 ?_
  refine lv_iload_n hx hb dX7_twiceOfQuotient_4 rfl (lv_at hl 2 rfl) ?_
  refine va_iald hx hb hK hP 9 2 slw_a9 rfl (x_in (by omega) (by omega)) dX7_twiceOfQuotient_5 ?_
  refine lv_topi (fun i_1 ei_1 => ?_)
  have ei_1 : i_1 = (σ.2.2.1 133) (Int32.toNatClampNeg k) := ei_1
  have bi_1 := b_at hB133 ei_1
  refine lv_istore_n (lv' := [(3, .int i_1), (0, .ref (ad 170)), (1, .ref (ad 130)), (2, .int k)]) hx hb dX7_twiceOfQuotient_6 rfl hl (by decide) rfl (fun ls hl => ?_)
  refine lv_aload_n hx hb dX7_twiceOfQuotient_7 rfl (lv_at hl 2 rfl) ?_
  refine va_get (D := D) (ci := 7) (v := .ref (ad 134)) (C := RX8) (T := TX8) (N := 13) hx hb hts inX8 hown hK hP 1 slw_o1 rfl 3 (by decide) fl67 (fun _ h9 => h9) rfl dX7_twiceOfQuotient_8 ?_
  refine lv_iload_n hx hb dX7_twiceOfQuotient_11 rfl (lv_at hl 3 rfl) ?_
  refine va_iald hx hb hK hP 10 2 slw_a10 rfl (x_in (by omega) (by omega)) dX7_twiceOfQuotient_12 ?_
  refine lv_topi (fun i_2 ei_2 => ?_)
  have ei_2 : i_2 = (σ.2.2.1 134) (Int32.toNatClampNeg k) := ei_2
  have bi_2 := b_at hB134 ei_2
  refine lv_istore (lv' := [(4, .int i_2), (3, .int i_1), (0, .ref (ad 170)), (1, .ref (ad 130)), (2, .int k)]) hx hb dX7_twiceOfQuotient_13 hl (by decide) rfl (fun ls hl => ?_)
  refine lv_aload_n hx hb dX7_twiceOfQuotient_15 rfl (lv_at hl 2 rfl) ?_
  refine va_get (D := D) (ci := 6) (v := .ref (ad 171)) (C := RX7) (T := TX7) (N := 5) hx hb hts inX7 hown hK hP 0 slw_o0 rfl 0 (by decide) fl9 (fun _ h9 => h9) rfl dX7_twiceOfQuotient_16 ?_
  refine lv_iload_n hx hb dX7_twiceOfQuotient_19 rfl (lv_at hl 4 rfl) ?_
  refine va_lald hx hb hK hP 2 3 slw_a2 rfl (x_in (by omega) (by omega)) dX7_twiceOfQuotient_20 ?_
  refine lv_topl (fun j_3 ej_3 => ?_)
  have ej_3 : j_3 = (σ.2.2.2 171) (Int32.toNatClampNeg k) := ej_3
  refine lv_aload_n hx hb dX7_twiceOfQuotient_21 rfl (lv_at hl 2 rfl) ?_
  refine va_get (D := D) (ci := 6) (v := .ref (ad 172)) (C := RX7) (T := TX7) (N := 5) hx hb hts inX7 hown hK hP 0 slw_o0 rfl 1 (by decide) fl15 (fun _ h9 => h9) rfl dX7_twiceOfQuotient_22 ?_
  refine lv_iload hx hb dX7_twiceOfQuotient_25 (lv_at hl 0 rfl) ?_
  refine va_lald hx hb hK hP 3 3 slw_a3 rfl (x_in (by omega) (by omega)) dX7_twiceOfQuotient_27 ?_
  refine lv_topl (fun j_4 ej_4 => ?_)
  have ej_4 : j_4 = (σ.2.2.2 172) (Int32.toNatClampNeg i_2) := ej_4
  refine x_calllN (va_runS (As := [.long j_3, .long j_4]) (rest := []) ⟨hx, hb, hml, hown, hts⟩ (k_times l D y H.size j_3 j_4) (va_cwS 2 hts g_s_twiceOfQuotient_0 rfl rfl rfl (by decide +kernel) ⟨Nat.le_of_ble_eq_true rfl, Nat.le_of_ble_eq_true rfl⟩) (x_preS hK (x_nilP D H) (x_nilD A)) rfl rfl hl.1 rfl (lv_room (Nat.le_of_ble_eq_true rfl)) dX7_twiceOfQuotient_28 ⟨Nat.le_of_ble_eq_true rfl, Nat.le_of_ble_eq_true rfl⟩) hP hD hS hA (fun r_5 u H locs hw hP hD hS => ?_)
  try dsimp only at hw
  refine lv_lstore (lv' := [(5, .long r_5), (4, .int i_2), (3, .int i_1), (0, .ref (ad 170)), (1, .ref (ad 130)), (2, .int k)]) hx hb dX7_twiceOfQuotient_31 hl (by decide) rfl (fun ls hl => ?_)
  refine lv_aload_n hx hb dX7_twiceOfQuotient_33 rfl (lv_at hl 3 rfl) ?_
  refine va_get (D := D) (ci := 6) (v := .ref (ad 172)) (C := RX7) (T := TX7) (N := 5) hx hb hts inX7 hown hK hP 0 slw_o0 rfl 1 (by decide) fl15 (fun _ h9 => h9) rfl dX7_twiceOfQuotient_34 ?_
  refine lv_iload_n hx hb dX7_twiceOfQuotient_37 rfl (lv_at hl 5 rfl) ?_
  refine va_lald hx hb hK hP 3 3 slw_a3 rfl (x_in (by omega) (by omega)) dX7_twiceOfQuotient_38 ?_
  refine lv_topl (fun j_6 ej_6 => ?_)
  have ej_6 : j_6 = (σ.2.2.2 172) (Int32.toNatClampNeg k) := ej_6
  refine lv_aload_n hx hb dX7_twiceOfQuotient_39 rfl (lv_at hl 3 rfl) ?_
  refine va_get (D := D) (ci := 6) (v := .ref (ad 171)) (C := RX7) (T := TX7) (N := 5) hx hb hts inX7 hown hK hP 0 slw_o0 rfl 0 (by decide) fl9 (fun _ h9 => h9) rfl dX7_twiceOfQuotient_40 ?_
  refine lv_iload hx hb dX7_twiceOfQuotient_43 (lv_at hl 1 rfl) ?_
  refine va_lald hx hb hK hP 2 3 slw_a2 rfl (x_in (by omega) (by omega)) dX7_twiceOfQuotient_45 ?_
  refine lv_topl (fun j_7 ej_7 => ?_)
  have ej_7 : j_7 = (σ.2.2.2 171) (Int32.toNatClampNeg i_2) := ej_7
  refine x_calllN (va_runS (As := [.long j_6, .long j_7]) (rest := []) ⟨hx, hb, hml, hown, hts⟩ (k_times l D y H.size j_6 j_7) (va_cwS 2 hts g_s_twiceOfQuotient_0 rfl rfl rfl (by decide +kernel) ⟨Nat.le_of_ble_eq_true rfl, Nat.le_of_ble_eq_true rfl⟩) (x_preS hK (x_nilP D H) (x_nilD A)) rfl rfl hl.1 rfl (lv_room (Nat.le_of_ble_eq_true rfl)) dX7_twiceOfQuotient_46 ⟨Nat.le_of_ble_eq_true rfl, Nat.le_of_ble_eq_true rfl⟩) hP hD hS hA (fun r_8 u H locs hw hP hD hS => ?_)
  try dsimp only at hw
  refine lv_lstore (lv' := [(7, .long r_8), (5, .long r_5), (4, .int i_2), (3, .int i_1), (0, .ref (ad 170)), (1, .ref (ad 130)), (2, .int k)]) hx hb dX7_twiceOfQuotient_49 hl (by decide) rfl (fun ls hl => ?_)
  refine lv_aload_n hx hb dX7_twiceOfQuotient_51 rfl (lv_at hl 5 rfl) ?_
  refine va_get (D := D) (ci := 7) (v := .ref (ad 131)) (C := RX8) (T := TX8) (N := 13) hx hb hts inX8 hown hK hP 1 slw_o1 rfl 0 (by decide) fl84 (fun _ h9 => h9) rfl dX7_twiceOfQuotient_52 ?_
  refine lv_iload_n hx hb dX7_twiceOfQuotient_55 rfl (lv_at hl 6 rfl) ?_
  refine va_lald hx hb hK hP 7 3 slw_a7 rfl (x_in (by omega) (by omega)) dX7_twiceOfQuotient_56 ?_
  refine lv_topl (fun j_9 ej_9 => ?_)
  have ej_9 : j_9 = (σ.2.2.2 131) (Int32.toNatClampNeg k) := ej_9
  refine lv_aload_n hx hb dX7_twiceOfQuotient_57 rfl (lv_at hl 4 rfl) ?_
  refine va_get (D := D) (ci := 6) (v := .ref (ad 173)) (C := RX7) (T := TX7) (N := 5) hx hb hts inX7 hown hK hP 0 slw_o0 rfl 2 (by decide) fl18 (fun _ h9 => h9) rfl dX7_twiceOfQuotient_58 ?_
  refine lv_iload hx hb dX7_twiceOfQuotient_61 (lv_at hl 2 rfl) ?_
  refine va_lald hx hb hK hP 4 3 slw_a4 rfl (x_in (by omega) (by omega)) dX7_twiceOfQuotient_63 ?_
  refine lv_topl (fun j_10 ej_10 => ?_)
  have ej_10 : j_10 = (σ.2.2.2 173) (Int32.toNatClampNeg i_2) := ej_10
  refine x_calllN (va_runS (As := [.long j_9, .long j_10]) (rest := []) ⟨hx, hb, hml, hown, hts⟩ (k_times l D y H.size j_9 j_10) (va_cwS 2 hts g_s_twiceOfQuotient_0 rfl rfl rfl (by decide +kernel) ⟨Nat.le_of_ble_eq_true rfl, Nat.le_of_ble_eq_true rfl⟩) (x_preS hK (x_nilP D H) (x_nilD A)) rfl rfl hl.1 rfl (lv_room (Nat.le_of_ble_eq_true rfl)) dX7_twiceOfQuotient_64 ⟨Nat.le_of_ble_eq_true rfl, Nat.le_of_ble_eq_true rfl⟩) hP hD hS hA (fun r_11 u H locs hw hP hD hS => ?_)
  try dsimp only at hw
  refine lv_lstore (lv' := [(9, .long r_11), (7, .long r_8), (5, .long r_5), (4, .int i_2), (3, .int i_1), (0, .ref (ad 170)), (1, .ref (ad 130)), (2, .int k)]) hx hb dX7_twiceOfQuotient_67 hl (by decide) rfl (fun ls hl => ?_)
  refine lv_aload_n hx hb dX7_twiceOfQuotient_69 rfl (lv_at hl 5 rfl) ?_
  refine va_get (D := D) (ci := 6) (v := .ref (ad 173)) (C := RX7) (T := TX7) (N := 5) hx hb hts inX7 hown hK hP 0 slw_o0 rfl 2 (by decide) fl18 (fun _ h9 => h9) rfl dX7_twiceOfQuotient_70 ?_
  refine lv_iload_n hx hb dX7_twiceOfQuotient_73 rfl (lv_at hl 4 rfl) ?_
  refine va_lald hx hb hK hP 4 3 slw_a4 rfl (x_in (by omega) (by omega)) dX7_twiceOfQuotient_74 ?_
  refine lv_topl (fun j_12 ej_12 => ?_)
  have ej_12 : j_12 = (σ.2.2.2 173) (Int32.toNatClampNeg i_1) := ej_12
  refine lv_lload hx hb dX7_twiceOfQuotient_75 (lv_at hl 2 rfl) ?_
  refine x_calllN (va_runS (As := [.long j_12, .long r_5]) (rest := []) ⟨hx, hb, hml, hown, hts⟩ (k_minus l D y H.size j_12 r_5) (va_cwS 2 hts g_s_twiceOfQuotient_1 rfl rfl rfl (by decide +kernel) ⟨Nat.le_of_ble_eq_true rfl, Nat.le_of_ble_eq_true rfl⟩) (x_preS hK (x_nilP D H) (x_nilD A)) rfl rfl hl.1 rfl (lv_room (Nat.le_of_ble_eq_true rfl)) dX7_twiceOfQuotient_77 ⟨Nat.le_of_ble_eq_true rfl, Nat.le_of_ble_eq_true rfl⟩) hP hD hS hA (fun r_13 u H locs hw hP hD hS => ?_)
  try dsimp only at hw
  refine lv_lload hx hb dX7_twiceOfQuotient_80 (lv_at hl 1 rfl) ?_
  refine x_calllN (va_runS (As := [.long r_13, .long r_8]) (rest := []) ⟨hx, hb, hml, hown, hts⟩ (k_minus l D y H.size r_13 r_8) (va_cwS 2 hts g_s_twiceOfQuotient_1 rfl rfl rfl (by decide +kernel) ⟨Nat.le_of_ble_eq_true rfl, Nat.le_of_ble_eq_true rfl⟩) (x_preS hK (x_nilP D H) (x_nilD A)) rfl rfl hl.1 rfl (lv_room (Nat.le_of_ble_eq_true rfl)) dX7_twiceOfQuotient_82 ⟨Nat.le_of_ble_eq_true rfl, Nat.le_of_ble_eq_true rfl⟩) hP hD hS hA (fun r_14 u H locs hw hP hD hS => ?_)
  try dsimp only at hw
  refine lv_lstore (lv' := [(11, .long r_14), (9, .long r_11), (7, .long r_8), (5, .long r_5), (4, .int i_2), (3, .int i_1), (0, .ref (ad 170)), (1, .ref (ad 130)), (2, .int k)]) hx hb dX7_twiceOfQuotient_85 hl (by decide) rfl (fun ls hl => ?_)
  refine lv_lload hx hb dX7_twiceOfQuotient_87 (lv_at hl 0 rfl) ?_
  refine lv_lload hx hb dX7_twiceOfQuotient_89 (lv_at hl 1 rfl) ?_
  refine x_calllN (va_runS (As := [.long r_14, .long r_11]) (rest := []) ⟨hx, hb, hml, hown, hts⟩ (k_minus l D y H.size r_14 r_11) (va_cwS 2 hts g_s_twiceOfQuotient_1 rfl rfl rfl (by decide +kernel) ⟨Nat.le_of_ble_eq_true rfl, Nat.le_of_ble_eq_true rfl⟩) (x_preS hK (x_nilP D H) (x_nilD A)) rfl rfl hl.1 rfl (lv_room (Nat.le_of_ble_eq_true rfl)) dX7_twiceOfQuotient_91 ⟨Nat.le_of_ble_eq_true rfl, Nat.le_of_ble_eq_true rfl⟩) hP hD hS hA (fun r_15 u H locs hw hP hD hS => ?_)
  try dsimp only at hw
  refine lv_aload_n hx hb dX7_twiceOfQuotient_94 rfl (lv_at hl 7 rfl) ?_
  refine va_get (D := D) (ci := 7) (v := .ref (ad 131)) (C := RX8) (T := TX8) (N := 13) hx hb hts inX8 hown hK hP 1 slw_o1 rfl 0 (by decide) fl84 (fun _ h9 => h9) rfl dX7_twiceOfQuotient_95 ?_
  refine lv_iload hx hb dX7_twiceOfQuotient_98 (lv_at hl 4 rfl) ?_
  refine va_lald hx hb hK hP 7 3 slw_a7 rfl (x_in (by omega) (by omega)) dX7_twiceOfQuotient_100 ?_
  refine lv_topl (fun j_16 ej_16 => ?_)
  have ej_16 : j_16 = (σ.2.2.2 131) (Int32.toNatClampNeg i_2) := ej_16
  refine x_calllN (va_runS (As := [.long r_15, .long j_16]) (rest := []) ⟨hx, hb, hml, hown, hts⟩ (k_over l D y H.size r_15 j_16) (va_cwS 2 hts g_s_twiceOfQuotient_2 rfl rfl rfl (by decide +kernel) ⟨Nat.le_of_ble_eq_true rfl, Nat.le_of_ble_eq_true rfl⟩) (x_preS hK (x_nilP D H) (x_nilD A)) rfl rfl hl.1 rfl (lv_room (Nat.le_of_ble_eq_true rfl)) dX7_twiceOfQuotient_101 ⟨Nat.le_of_ble_eq_true rfl, Nat.le_of_ble_eq_true rfl⟩) hP hD hS hA (fun r_17 u H locs hw hP hD hS => ?_)
  try dsimp only at hw
  exact x_lretW (v := r_17) (u := ()) hx hb hr hQ trivial hP hD hK hS dX7_twiceOfQuotient_104 hlocks

def v_s_twiceAt : List Cond := .code yX7_twiceAt cX7_twiceAt 7 (some .long) :: ([.fieldLink RX7 18 "SlopeRunner$Slopes" "fromBoth" "[J", .fieldLink RX7 64 "SlopeRunner$Tape" "left" "[I", .fieldLink RX7 67 "SlopeRunner$Tape" "right" "[I", .fieldLink RX7 70 "SlopeRunner$Tape" "kind" "[I"] ++ ((va_wsS RX7 87 yX0_plus v_k_plus) ++ ((va_wsS RX7 91 yX0_minus v_k_minus) ++ ((wsV RX7 104 RX7 yX7_twiceOfProduct v_s_twiceOfProduct) ++ ((wsV RX7 107 RX7 yX7_twiceOfQuotient v_s_twiceOfQuotient) ++ ((va_wsS RX7 100 yX0_turned v_k_turned) ++ (wsX70 ++ wsX80)))))))
theorem g_s_twiceAt_0 : GoodIn v_s_twiceAt (va_wsS RX7 87 yX0_plus v_k_plus) := goodIn_sub (fun w h => List.mem_cons_of_mem _ (List.mem_append_right _ (List.mem_append_left _ h))) (by decide +kernel)
theorem g_s_twiceAt_1 : GoodIn v_s_twiceAt (va_wsS RX7 91 yX0_minus v_k_minus) := goodIn_sub (fun w h => List.mem_cons_of_mem _ (List.mem_append_right _ (List.mem_append_right _ (List.mem_append_left _ h)))) (by decide +kernel)
theorem g_s_twiceAt_2 : GoodIn v_s_twiceAt (wsV RX7 104 RX7 yX7_twiceOfProduct v_s_twiceOfProduct) := goodIn_sub (fun w h => List.mem_cons_of_mem _ (List.mem_append_right _ (List.mem_append_right _ (List.mem_append_right _ (List.mem_append_left _ h))))) (by decide +kernel)
theorem g_s_twiceAt_3 : GoodIn v_s_twiceAt (wsV RX7 107 RX7 yX7_twiceOfQuotient v_s_twiceOfQuotient) := goodIn_sub (fun w h => List.mem_cons_of_mem _ (List.mem_append_right _ (List.mem_append_right _ (List.mem_append_right _ (List.mem_append_right _ (List.mem_append_left _ h)))))) (by decide +kernel)
theorem g_s_twiceAt_4 : GoodIn v_s_twiceAt (va_wsS RX7 100 yX0_turned v_k_turned) := goodIn_sub (fun w h => List.mem_cons_of_mem _ (List.mem_append_right _ (List.mem_append_right _ (List.mem_append_right _ (List.mem_append_right _ (List.mem_append_right _ (List.mem_append_left _ h))))))) (by decide +kernel)
set_option maxHeartbeats 4000000 in
set_option maxRecDepth 100000 in
theorem s_twiceAt (l : Launch) (D : va_G) (y : Nat → ClassId) (sz : Nat) (ad : Nat → Nat) (σ : OS) (k : Int32) (hk0 : 0 ≤ k.toInt) (hk1 : k.toInt ≤ 1358)  (hB133 : bI (σ.2.2.1 133) 0 1358) (hB134 : bI (σ.2.2.1 134) 0 1358) : Met l yX7_twiceAt v_s_twiceAt ({ frames := 4, cells := 0, slots := 0, locals := 124 } : Room) (va_Pc [.ref (ad 170), .ref (ad 130), .int k] (xPre D (xT y) (slw y ad σ) sz)) (va_Ql (fun (r : Int64) (_ : Unit) => True) (fun (u : Unit) => xB D (xT y) (va_A (slw y ad σ) sz) (slw y ad σ)) (va_A (slw y ad σ) sz)) 0 0 (va_A (slw y ad σ) sz) := by
  refine x_metl (cc := cX7_twiceAt) (maxL := 7) (by decide) rfl (Nat.le_of_ble_eq_true rfl) ?_
  intro p e s m below meth c A H locs Q hx hb hml hown hts hr hlocks hmn hA hP hK hD hS ls hl hQ
  have hl : lv_has ls 7 [(0, .ref (ad 170)), (1, .ref (ad 130)), (2, .int k)] := hl
  have fl18 := hts (.fieldLink RX7 18 "SlopeRunner$Slopes" "fromBoth" "[J") (List.mem_of_getElem? (i := 1) rfl)
  have inX7 : ∀ w ∈ wsX70, w ∈ v_s_twiceAt := (fun w h => List.mem_cons_of_mem _ (List.mem_append_right _ (List.mem_append_right _ (List.mem_append_right _ (List.mem_append_right _ (List.mem_append_right _ (List.mem_append_right _ (List.mem_append_left _ h))))))))
  have fl64 := hts (.fieldLink RX7 64 "SlopeRunner$Tape" "left" "[I") (List.mem_of_getElem? (i := 2) rfl)
  have inX8 : ∀ w ∈ wsX80, w ∈ v_s_twiceAt := (fun w h => List.mem_cons_of_mem _ (List.mem_append_right _ (List.mem_append_right _ (List.mem_append_right _ (List.mem_append_right _ (List.mem_append_right _ (List.mem_append_right _ (List.mem_append_right _ h))))))))
  have fl67 := hts (.fieldLink RX7 67 "SlopeRunner$Tape" "right" "[I") (List.mem_of_getElem? (i := 3) rfl)
  have fl70 := hts (.fieldLink RX7 70 "SlopeRunner$Tape" "kind" "[I") (List.mem_of_getElem? (i := 4) rfl)
  refine lv_aload_n hx hb dX7_twiceAt_0 rfl (lv_at hl 0 rfl) ?_
  refine va_get (D := D) (ci := 6) (v := .ref (ad 173)) (C := RX7) (T := TX7) (N := 5) hx hb hts inX7 hown hK hP 0 slw_o0 rfl 2 (by decide) fl18 (fun _ h9 => h9) rfl dX7_twiceAt_1 ?_
  refine lv_aload_n hx hb dX7_twiceAt_4 rfl (lv_at hl 1 rfl) ?_
  refine va_get (D := D) (ci := 7) (v := .ref (ad 133)) (C := RX8) (T := TX8) (N := 13) hx hb hts inX8 hown hK hP 1 slw_o1 rfl 2 (by decide) fl64 (fun _ h9 => h9) rfl dX7_twiceAt_5 ?_
  refine lv_iload_n hx hb dX7_twiceAt_8 rfl (lv_at hl 2 rfl) ?_
  refine va_iald hx hb hK hP 9 2 slw_a9 rfl (x_in (by omega) (by omega)) dX7_twiceAt_9 ?_
  refine lv_topi (fun i_1 ei_1 => ?_)
  have ei_1 : i_1 = (σ.2.2.1 133) (Int32.toNatClampNeg k) := ei_1
  have bi_1 := b_at hB133 ei_1
  refine va_lald hx hb hK hP 4 3 slw_a4 rfl (x_in (by omega) (by omega)) dX7_twiceAt_10 ?_
  refine lv_topl (fun j_2 ej_2 => ?_)
  have ej_2 : j_2 = (σ.2.2.2 173) (Int32.toNatClampNeg i_1) := ej_2
  refine lv_lstore_n (lv' := [(3, .long j_2), (0, .ref (ad 170)), (1, .ref (ad 130)), (2, .int k)]) hx hb dX7_twiceAt_11 rfl hl (by decide) rfl (fun ls hl => ?_)
  refine lv_aload_n hx hb dX7_twiceAt_12 rfl (lv_at hl 1 rfl) ?_
  refine va_get (D := D) (ci := 6) (v := .ref (ad 173)) (C := RX7) (T := TX7) (N := 5) hx hb hts inX7 hown hK hP 0 slw_o0 rfl 2 (by decide) fl18 (fun _ h9 => h9) rfl dX7_twiceAt_13 ?_
  refine lv_aload_n hx hb dX7_twiceAt_16 rfl (lv_at hl 2 rfl) ?_
  refine va_get (D := D) (ci := 7) (v := .ref (ad 134)) (C := RX8) (T := TX8) (N := 13) hx hb hts inX8 hown hK hP 1 slw_o1 rfl 3 (by decide) fl67 (fun _ h9 => h9) rfl dX7_twiceAt_17 ?_
  refine lv_iload_n hx hb dX7_twiceAt_20 rfl (lv_at hl 3 rfl) ?_
  refine va_iald hx hb hK hP 10 2 slw_a10 rfl (x_in (by omega) (by omega)) dX7_twiceAt_21 ?_
  refine lv_topi (fun i_3 ei_3 => ?_)
  have ei_3 : i_3 = (σ.2.2.1 134) (Int32.toNatClampNeg k) := ei_3
  have bi_3 := b_at hB134 ei_3
  refine va_lald hx hb hK hP 4 3 slw_a4 rfl (x_in (by omega) (by omega)) dX7_twiceAt_22 ?_
  refine lv_topl (fun j_4 ej_4 => ?_)
  have ej_4 : j_4 = (σ.2.2.2 173) (Int32.toNatClampNeg i_3) := ej_4
  refine lv_lstore (lv' := [(5, .long j_4), (3, .long j_2), (0, .ref (ad 170)), (1, .ref (ad 130)), (2, .int k)]) hx hb dX7_twiceAt_23 hl (by decide) rfl (fun ls hl => ?_)
  refine lv_aload_n hx hb dX7_twiceAt_25 rfl (lv_at hl 3 rfl) ?_
  refine va_get (D := D) (ci := 7) (v := .ref (ad 132)) (C := RX8) (T := TX8) (N := 13) hx hb hts inX8 hown hK hP 1 slw_o1 rfl 1 (by decide) fl70 (fun _ h9 => h9) rfl dX7_twiceAt_26 ?_
  refine lv_iload_n hx hb dX7_twiceAt_29 rfl (lv_at hl 4 rfl) ?_
  refine va_iald hx hb hK hP 8 2 slw_a8 rfl (x_in (by omega) (by omega)) dX7_twiceAt_30 ?_
  refine lv_topi (fun i_5 ei_5 => ?_)
  have ei_5 : i_5 = (σ.2.2.1 132) (Int32.toNatClampNeg k) := ei_5
  rcases (show i_5 = 6 ∨ i_5 = 7 ∨ i_5 = 8 ∨ i_5 = 9 ∨ i_5 = 31 ∨ (¬ i_5 = 6 ∧ ¬ i_5 = 7 ∧ ¬ i_5 = 8 ∧ ¬ i_5 = 9 ∧ ¬ i_5 = 31) by simp only [x_eq, Int32.reduceToInt]; omega) with rfl | rfl | rfl | rfl | rfl | ⟨g_6_0, g_6_1, g_6_2, g_6_3, g_6_4⟩
  · refine lv_lookup (tgt := 80) (off := 49) hx hb dX7_twiceAt_31 (by decide) (by decide) (by decide) ?_
    refine lv_lload_n hx hb dX7_twiceAt_80 rfl (lv_at hl 1 rfl) ?_
    refine lv_lload hx hb dX7_twiceAt_81 (lv_at hl 0 rfl) ?_
    refine x_calllN (va_runS (As := [.long j_2, .long j_4]) (rest := []) ⟨hx, hb, hml, hown, hts⟩ (k_plus l D y H.size j_2 j_4) (va_cwS 2 hts g_s_twiceAt_0 rfl rfl rfl (by decide +kernel) ⟨Nat.le_of_ble_eq_true rfl, Nat.le_of_ble_eq_true rfl⟩) (x_preS hK (x_nilP D H) (x_nilD A)) rfl rfl hl.1 rfl (lv_room (Nat.le_of_ble_eq_true rfl)) dX7_twiceAt_83 ⟨Nat.le_of_ble_eq_true rfl, Nat.le_of_ble_eq_true rfl⟩) hP hD hS hA (fun r_7 u H locs hw hP hD hS => ?_)
    try dsimp only at hw
    exact x_lretW (v := r_7) (u := ()) hx hb hr hQ trivial hP hD hK hS dX7_twiceAt_86 hlocks
  · refine lv_lookup (tgt := 87) (off := 56) hx hb dX7_twiceAt_31 (by decide) (by decide) (by decide) ?_
    refine lv_lload_n hx hb dX7_twiceAt_87 rfl (lv_at hl 1 rfl) ?_
    refine lv_lload hx hb dX7_twiceAt_88 (lv_at hl 0 rfl) ?_
    refine x_calllN (va_runS (As := [.long j_2, .long j_4]) (rest := []) ⟨hx, hb, hml, hown, hts⟩ (k_minus l D y H.size j_2 j_4) (va_cwS 2 hts g_s_twiceAt_1 rfl rfl rfl (by decide +kernel) ⟨Nat.le_of_ble_eq_true rfl, Nat.le_of_ble_eq_true rfl⟩) (x_preS hK (x_nilP D H) (x_nilD A)) rfl rfl hl.1 rfl (lv_room (Nat.le_of_ble_eq_true rfl)) dX7_twiceAt_90 ⟨Nat.le_of_ble_eq_true rfl, Nat.le_of_ble_eq_true rfl⟩) hP hD hS hA (fun r_8 u H locs hw hP hD hS => ?_)
    try dsimp only at hw
    exact x_lretW (v := r_8) (u := ()) hx hb hr hQ trivial hP hD hK hS dX7_twiceAt_93 hlocks
  · refine lv_lookup (tgt := 94) (off := 63) hx hb dX7_twiceAt_31 (by decide) (by decide) (by decide) ?_
    refine lv_aload_n hx hb dX7_twiceAt_94 rfl (lv_at hl 2 rfl) ?_
    refine lv_aload_n hx hb dX7_twiceAt_95 rfl (lv_at hl 3 rfl) ?_
    refine lv_iload_n hx hb dX7_twiceAt_96 rfl (lv_at hl 4 rfl) ?_
    refine x_calllW (va_runV (As := [.ref (ad 130), .int k]) (rest := []) ⟨hx, hb, hml, hown, hts⟩ (s_twiceOfProduct l D y H.size ad σ k (by first | omega | decide) (by first | omega | decide) hB133 hB134) (cwV 2 hts g_s_twiceAt_2 rfl rfl rfl (by decide +kernel) ⟨Nat.le_of_ble_eq_true rfl, Nat.le_of_ble_eq_true rfl⟩) (x_preV (q := (RX7, TX7, 5)) hK hP hD (ci := 6) (q0 := 0) rfl slw_o0) rfl rfl hl.1 rfl (lv_room (Nat.le_of_ble_eq_true rfl)) dX7_twiceAt_97 ⟨Nat.le_of_ble_eq_true rfl, Nat.le_of_ble_eq_true rfl⟩) hP hD hS hA (fun r_9 u H locs hw hP hD hS => ?_)
    try dsimp only at hw
    have hP : va_P D vwCl (slw y ad σ) H := hP
    have hD : va_D A (slw y ad σ) := hD
    exact x_lretW (v := r_9) (u := ()) hx hb hr hQ trivial hP hD hK hS dX7_twiceAt_100 hlocks
  · refine lv_lookup (tgt := 101) (off := 70) hx hb dX7_twiceAt_31 (by decide) (by decide) (by decide) ?_
    refine lv_aload_n hx hb dX7_twiceAt_101 rfl (lv_at hl 2 rfl) ?_
    refine lv_aload_n hx hb dX7_twiceAt_102 rfl (lv_at hl 3 rfl) ?_
    refine lv_iload_n hx hb dX7_twiceAt_103 rfl (lv_at hl 4 rfl) ?_
    refine x_calllW (va_runV (As := [.ref (ad 130), .int k]) (rest := []) ⟨hx, hb, hml, hown, hts⟩ (s_twiceOfQuotient l D y H.size ad σ k (by first | omega | decide) (by first | omega | decide) hB133 hB134) (cwV 2 hts g_s_twiceAt_3 rfl rfl rfl (by decide +kernel) ⟨Nat.le_of_ble_eq_true rfl, Nat.le_of_ble_eq_true rfl⟩) (x_preV (q := (RX7, TX7, 5)) hK hP hD (ci := 6) (q0 := 0) rfl slw_o0) rfl rfl hl.1 rfl (lv_room (Nat.le_of_ble_eq_true rfl)) dX7_twiceAt_104 ⟨Nat.le_of_ble_eq_true rfl, Nat.le_of_ble_eq_true rfl⟩) hP hD hS hA (fun r_10 u H locs hw hP hD hS => ?_)
    try dsimp only at hw
    have hP : va_P D vwCl (slw y ad σ) H := hP
    have hD : va_D A (slw y ad σ) := hD
    exact x_lretW (v := r_10) (u := ()) hx hb hr hQ trivial hP hD hK hS dX7_twiceAt_107 hlocks
  · refine lv_lookup (tgt := 108) (off := 77) hx hb dX7_twiceAt_31 (by decide) (by decide) (by decide) ?_
    refine lv_lload_n hx hb dX7_twiceAt_108 rfl (lv_at hl 1 rfl) ?_
    refine x_calllN (va_runS (As := [.long j_2]) (rest := []) ⟨hx, hb, hml, hown, hts⟩ (k_turned l D y H.size j_2) (va_cwS 1 hts g_s_twiceAt_4 rfl rfl rfl (by decide +kernel) ⟨Nat.le_of_ble_eq_true rfl, Nat.le_of_ble_eq_true rfl⟩) (x_preS hK (x_nilP D H) (x_nilD A)) rfl rfl hl.1 rfl (lv_room (Nat.le_of_ble_eq_true rfl)) dX7_twiceAt_109 ⟨Nat.le_of_ble_eq_true rfl, Nat.le_of_ble_eq_true rfl⟩) hP hD hS hA (fun r_11 u H locs hw hP hD hS => ?_)
    try dsimp only at hw
    exact x_lretW (v := r_11) (u := ()) hx hb hr hQ trivial hP hD hK hS dX7_twiceAt_112 hlocks
  · refine lv_lookup (tgt := 113) (off := 82) hx hb dX7_twiceAt_31 (by decide) ((lv_osw g_6_0 rfl).trans ((lv_osw g_6_1 rfl).trans ((lv_osw g_6_2 rfl).trans ((lv_osw g_6_3 rfl).trans ((lv_osw g_6_4 rfl).trans rfl))))) (by decide) ?_
    refine lv_lload_n hx hb dX7_twiceAt_113 rfl (lv_at hl 1 rfl) ?_
    exact x_lretW (v := j_2) (u := ()) hx hb hr hQ trivial hP hD hK hS dX7_twiceAt_114 hlocks

def v_s_addShare : List Cond := .code yX7_addShare cX7_addShare 4 (some .boolean) :: ([] ++ (va_wsS RX7 87 yX0_plus v_k_plus))
theorem g_s_addShare_0 : GoodIn v_s_addShare (va_wsS RX7 87 yX0_plus v_k_plus) := goodIn_sub (fun w h => List.mem_cons_of_mem _ (List.mem_append_right _ h)) (by decide +kernel)
set_option maxHeartbeats 4000000 in
set_option maxRecDepth 100000 in
theorem s_addShare (l : Launch) (D : va_G) (y : Nat → ClassId) (sz : Nat) (ad : Nat → Nat) (σ : OS) (q : Int32) (x : Int64) (hq0 : 0 ≤ q.toInt) (hq1 : q.toInt ≤ 1358) : Met l yX7_addShare v_s_addShare ({ frames := 3, cells := 0, slots := 0, locals := 92 } : Room) (va_Pc [.ref (ad 171), .int q, .long x] (xPre D (xT y) (slw y ad σ) sz)) (va_Qi (fun (r : Int32) (u : (Nat → Int64)) => r.toInt = 0 ∨ r.toInt = 1) (fun (u : (Nat → Int64)) => xB D (xT y) (va_A (slw y ad σ) sz) (slw y ad (tJ σ 171 u))) (va_A (slw y ad σ) sz)) 0 0 (va_A (slw y ad σ) sz) := by
  refine x_meti (cc := cX7_addShare) (maxL := 4) (by decide) rfl (Nat.le_of_ble_eq_true rfl) ?_
  intro p e s m below meth c A H locs Q hx hb hml hown hts hr hlocks hmn hA hP hK hD hS ls hl hQ
  have hl : lv_has ls 4 [(0, .ref (ad 171)), (1, .int q), (2, .long x)] := hl
  have kk_0 : (0 : Int32).toInt = 0 := rfl
  have kk_1 : (1 : Int32).toInt = 1 := rfl
  refine lv_aload_n hx hb dX7_addShare_0 rfl (lv_at hl 0 rfl) ?_
  refine lv_iload_n hx hb dX7_addShare_1 rfl (lv_at hl 1 rfl) ?_
  refine lv_aload_n hx hb dX7_addShare_2 rfl (lv_at hl 0 rfl) ?_
  refine lv_iload_n hx hb dX7_addShare_3 rfl (lv_at hl 1 rfl) ?_
  refine va_lald hx hb hK hP 2 3 slw_a2 rfl (x_in (by omega) (by omega)) dX7_addShare_4 ?_
  refine lv_topl (fun j_1 ej_1 => ?_)
  have ej_1 : j_1 = (σ.2.2.2 171) (Int32.toNatClampNeg q) := ej_1
  refine lv_lload_n hx hb dX7_addShare_5 rfl (lv_at hl 2 rfl) ?_
  refine x_calllN (va_runS (As := [.long j_1, .long x]) (rest := [.int q, .ref (ad 171)]) ⟨hx, hb, hml, hown, hts⟩ (k_plus l D y H.size j_1 x) (va_cwS 2 hts g_s_addShare_0 rfl rfl rfl (by decide +kernel) ⟨Nat.le_of_ble_eq_true rfl, Nat.le_of_ble_eq_true rfl⟩) (x_preS hK (x_nilP D H) (x_nilD A)) rfl rfl hl.1 rfl (lv_room (Nat.le_of_ble_eq_true rfl)) dX7_addShare_6 ⟨Nat.le_of_ble_eq_true rfl, Nat.le_of_ble_eq_true rfl⟩) hP hD hS hA (fun r_2 u H locs hw hP hD hS => ?_)
  try dsimp only at hw
  refine va_last hx hb hK hP hD hS 2 3 slw_a2 rfl (x_in (by omega) (by omega)) dX7_addShare_9 (fun H locs hP hD hS => ?_)
  obtain ⟨f_3, ef_3⟩ : ∃ z9 : Nat → Int64, z9 = (vp_updL (σ.2.2.2 171) (Int32.toNatClampNeg q) r_2) := ⟨_, rfl⟩
  have hP : va_P D vwCl (slw y ad (tJ σ 171 f_3)) H := by rw [ef_3]; exact x_trP hP slw_s2
  have hD : va_D A (slw y ad (tJ σ 171 f_3)) := by rw [ef_3]; exact x_trD hD slw_s2
  refine lv_aload_n hx hb dX7_addShare_10 rfl (lv_at hl 0 rfl) ?_
  refine lv_iload_n hx hb dX7_addShare_11 rfl (lv_at hl 1 rfl) ?_
  refine va_lald hx hb hK hP 2 3 slw_a2 rfl (x_in (by omega) (by omega)) dX7_addShare_12 ?_
  refine lv_topl (fun j_4 ej_4 => ?_)
  have ej_4 : j_4 = f_3 (Int32.toNatClampNeg q) := ej_4
  refine lv_lconst (v := 0) hx hb dX7_addShare_13 (by decide) ?_
  refine W.lcmp hx hb dX7_addShare_14 ?_
  refine lv_if_eq (tgt := 22) hx hb dX7_addShare_15 (by decide) (fun c_5 => ?_) (fun c_5 => ?_)
  · have kc_5 : j_4.toInt = 0 := by have h9 := x_tri j_4 (0 : Int64); (try simp only [Int64.reduceToInt] at h9); rcases h9 with ⟨g1, g2⟩ | ⟨g1, g2⟩ | ⟨g1, g2⟩ <;> first | omega | (exfalso; rw [g1] at c_5; revert c_5; decide)
    refine lv_iconst (v := 0) hx hb dX7_addShare_22 (by decide) ?_
    exact x_zretW (v := 0) (u := f_3) hx hb hr hQ rfl (by decide) hP hD hK hS dX7_addShare_23 hlocks
  · have kc_5 : j_4.toInt ≠ 0 := by have h9 := x_tri j_4 (0 : Int64); (try simp only [Int64.reduceToInt] at h9); rcases h9 with ⟨g1, g2⟩ | ⟨g1, g2⟩ | ⟨g1, g2⟩ <;> first | omega | (exfalso; rw [g1] at c_5; revert c_5; decide)
    refine lv_iconst (v := 1) hx hb dX7_addShare_18 (by decide) ?_
    refine lv_goto (tgt := 23) hx hb dX7_addShare_19 (by decide) ?_
    exact x_zretW (v := 1) (u := f_3) hx hb hr hQ rfl (by decide) hP hD hK hS dX7_addShare_23 hlocks

def v_s_handBack : List Cond := .code yX7_handBack cX7_handBack 11 (some .boolean) :: ([.fieldLink RX7 64 "SlopeRunner$Tape" "left" "[I", .fieldLink RX7 67 "SlopeRunner$Tape" "right" "[I", .fieldLink RX7 70 "SlopeRunner$Tape" "kind" "[I", .fieldLink RX7 84 "SlopeRunner$Tape" "value" "[J"] ++ ((wsS RX7 110 yX7_addShare v_s_addShare) ++ ((va_wsS RX7 100 yX0_turned v_k_turned) ++ ((va_wsS RX7 94 yX0_times v_k_times) ++ ((va_wsS RX7 97 yX0_over v_k_over) ++ wsX80)))))
theorem g_s_handBack_0 : GoodIn v_s_handBack (wsS RX7 110 yX7_addShare v_s_addShare) := goodIn_sub (fun w h => List.mem_cons_of_mem _ (List.mem_append_right _ (List.mem_append_left _ h))) (by decide +kernel)
theorem g_s_handBack_1 : GoodIn v_s_handBack (va_wsS RX7 100 yX0_turned v_k_turned) := goodIn_sub (fun w h => List.mem_cons_of_mem _ (List.mem_append_right _ (List.mem_append_right _ (List.mem_append_left _ h)))) (by decide +kernel)
theorem g_s_handBack_2 : GoodIn v_s_handBack (va_wsS RX7 94 yX0_times v_k_times) := goodIn_sub (fun w h => List.mem_cons_of_mem _ (List.mem_append_right _ (List.mem_append_right _ (List.mem_append_right _ (List.mem_append_left _ h))))) (by decide +kernel)
theorem g_s_handBack_3 : GoodIn v_s_handBack (va_wsS RX7 97 yX0_over v_k_over) := goodIn_sub (fun w h => List.mem_cons_of_mem _ (List.mem_append_right _ (List.mem_append_right _ (List.mem_append_right _ (List.mem_append_right _ (List.mem_append_left _ h)))))) (by decide +kernel)
set_option maxHeartbeats 4000000 in
set_option maxRecDepth 100000 in
theorem s_handBack (l : Launch) (D : va_G) (y : Nat → ClassId) (sz : Nat) (ad : Nat → Nat) (σ : OS) (k : Int32) (hk0 : 0 ≤ k.toInt) (hk1 : k.toInt ≤ 1358)  (hB133 : bI (σ.2.2.1 133) 0 1358) (hB134 : bI (σ.2.2.1 134) 0 1358) : Met l yX7_handBack v_s_handBack ({ frames := 4, cells := 0, slots := 0, locals := 115 } : Room) (va_Pc [.ref (ad 130), .int k, .ref (ad 171)] (xPre D (xT y) (slw y ad σ) sz)) (va_Qi (fun (r : Int32) (u : (Nat → Int64)) => r.toInt = 0 ∨ r.toInt = 1) (fun (u : (Nat → Int64)) => xB D (xT y) (va_A (slw y ad σ) sz) (slw y ad (tJ σ 171 u))) (va_A (slw y ad σ) sz)) 0 0 (va_A (slw y ad σ) sz) := by
  refine x_meti (cc := cX7_handBack) (maxL := 11) (by decide) rfl (Nat.le_of_ble_eq_true rfl) ?_
  intro p e s m below meth c A H locs Q hx hb hml hown hts hr hlocks hmn hA hP hK hD hS ls hl hQ
  have hl : lv_has ls 11 [(0, .ref (ad 130)), (1, .int k), (2, .ref (ad 171))] := hl
  have fl64 := hts (.fieldLink RX7 64 "SlopeRunner$Tape" "left" "[I") (List.mem_of_getElem? (i := 1) rfl)
  have inX8 : ∀ w ∈ wsX80, w ∈ v_s_handBack := (fun w h => List.mem_cons_of_mem _ (List.mem_append_right _ (List.mem_append_right _ (List.mem_append_right _ (List.mem_append_right _ (List.mem_append_right _ h))))))
  have fl67 := hts (.fieldLink RX7 67 "SlopeRunner$Tape" "right" "[I") (List.mem_of_getElem? (i := 2) rfl)
  have fl70 := hts (.fieldLink RX7 70 "SlopeRunner$Tape" "kind" "[I") (List.mem_of_getElem? (i := 3) rfl)
  have kk_0 : (0 : Int32).toInt = 0 := rfl
  have kk_1 : (1 : Int32).toInt = 1 := rfl
  have fl84 := hts (.fieldLink RX7 84 "SlopeRunner$Tape" "value" "[J") (List.mem_of_getElem? (i := 4) rfl)
  refine lv_aload_n hx hb dX7_handBack_0 rfl (lv_at hl 2 rfl) ?_
  refine lv_iload_n hx hb dX7_handBack_1 rfl (lv_at hl 1 rfl) ?_
  refine va_lald hx hb hK hP 2 3 slw_a2 rfl (x_in (by omega) (by omega)) dX7_handBack_2 ?_
  refine lv_topl (fun j_1 ej_1 => ?_)
  have ej_1 : j_1 = (σ.2.2.2 171) (Int32.toNatClampNeg k) := ej_1
  refine lv_lstore_n (lv' := [(3, .long j_1), (0, .ref (ad 130)), (1, .int k), (2, .ref (ad 171))]) hx hb dX7_handBack_3 rfl hl (by decide) rfl (fun ls hl => ?_)
  refine lv_aload_n hx hb dX7_handBack_4 rfl (lv_at hl 1 rfl) ?_
  refine va_get (D := D) (ci := 7) (v := .ref (ad 133)) (C := RX8) (T := TX8) (N := 13) hx hb hts inX8 hown hK hP 1 slw_o1 rfl 2 (by decide) fl64 (fun _ h9 => h9) rfl dX7_handBack_5 ?_
  refine lv_iload_n hx hb dX7_handBack_8 rfl (lv_at hl 2 rfl) ?_
  refine va_iald hx hb hK hP 9 2 slw_a9 rfl (x_in (by omega) (by omega)) dX7_handBack_9 ?_
  refine lv_topi (fun i_2 ei_2 => ?_)
  have ei_2 : i_2 = (σ.2.2.1 133) (Int32.toNatClampNeg k) := ei_2
  have bi_2 := b_at hB133 ei_2
  refine lv_istore (lv' := [(5, .int i_2), (3, .long j_1), (0, .ref (ad 130)), (1, .int k), (2, .ref (ad 171))]) hx hb dX7_handBack_10 hl (by decide) rfl (fun ls hl => ?_)
  refine lv_aload_n hx hb dX7_handBack_12 rfl (lv_at hl 2 rfl) ?_
  refine va_get (D := D) (ci := 7) (v := .ref (ad 134)) (C := RX8) (T := TX8) (N := 13) hx hb hts inX8 hown hK hP 1 slw_o1 rfl 3 (by decide) fl67 (fun _ h9 => h9) rfl dX7_handBack_13 ?_
  refine lv_iload_n hx hb dX7_handBack_16 rfl (lv_at hl 3 rfl) ?_
  refine va_iald hx hb hK hP 10 2 slw_a10 rfl (x_in (by omega) (by omega)) dX7_handBack_17 ?_
  refine lv_topi (fun i_3 ei_3 => ?_)
  have ei_3 : i_3 = (σ.2.2.1 134) (Int32.toNatClampNeg k) := ei_3
  have bi_3 := b_at hB134 ei_3
  refine lv_istore (lv' := [(6, .int i_3), (5, .int i_2), (3, .long j_1), (0, .ref (ad 130)), (1, .int k), (2, .ref (ad 171))]) hx hb dX7_handBack_18 hl (by decide) rfl (fun ls hl => ?_)
  refine lv_aload_n hx hb dX7_handBack_20 rfl (lv_at hl 3 rfl) ?_
  refine va_get (D := D) (ci := 7) (v := .ref (ad 132)) (C := RX8) (T := TX8) (N := 13) hx hb hts inX8 hown hK hP 1 slw_o1 rfl 1 (by decide) fl70 (fun _ h9 => h9) rfl dX7_handBack_21 ?_
  refine lv_iload_n hx hb dX7_handBack_24 rfl (lv_at hl 4 rfl) ?_
  refine va_iald hx hb hK hP 8 2 slw_a8 rfl (x_in (by omega) (by omega)) dX7_handBack_25 ?_
  refine lv_topi (fun i_4 ei_4 => ?_)
  have ei_4 : i_4 = (σ.2.2.1 132) (Int32.toNatClampNeg k) := ei_4
  rcases (show i_4 = 6 ∨ i_4 = 7 ∨ i_4 = 8 ∨ i_4 = 9 ∨ i_4 = 31 ∨ (¬ i_4 = 6 ∧ ¬ i_4 = 7 ∧ ¬ i_4 = 8 ∧ ¬ i_4 = 9 ∧ ¬ i_4 = 31) by simp only [x_eq, Int32.reduceToInt]; omega) with rfl | rfl | rfl | rfl | rfl | ⟨g_5_0, g_5_1, g_5_2, g_5_3, g_5_4⟩
  · refine lv_lookup (tgt := 76) (off := 50) hx hb dX7_handBack_26 (by decide) (by decide) (by decide) ?_
    refine lv_aload_n hx hb dX7_handBack_76 rfl (lv_at hl 5 rfl) ?_
    refine lv_iload hx hb dX7_handBack_77 (lv_at hl 1 rfl) ?_
    refine lv_lload_n hx hb dX7_handBack_79 rfl (lv_at hl 2 rfl) ?_
    refine x_calliW (va_runS (As := [.ref (ad 171), .int i_2, .long j_1]) (rest := []) ⟨hx, hb, hml, hown, hts⟩ (s_addShare l D y H.size ad σ i_2 j_1 (by first | omega | decide) (by first | omega | decide)) (cwS 3 hts g_s_handBack_0 rfl rfl rfl (by decide +kernel) ⟨Nat.le_of_ble_eq_true rfl, Nat.le_of_ble_eq_true rfl⟩) (x_preS hK hP hD) rfl rfl hl.1 rfl (lv_room (Nat.le_of_ble_eq_true rfl)) dX7_handBack_80 ⟨Nat.le_of_ble_eq_true rfl, Nat.le_of_ble_eq_true rfl⟩) hP hD hS hA (fun r_6 u H locs hw hP hD hS => ?_)
    obtain ⟨f_7, rfl⟩ : ∃ z9, z9 = u := ⟨_, rfl⟩
    try dsimp only at hw
    have hP : va_P D vwCl (slw y ad (tJ σ 171 f_7)) H := hP
    have hD : va_D A (slw y ad (tJ σ 171 f_7)) := hD
    refine lv_if_eq (tgt := 100) hx hb dX7_handBack_83 (by decide) (fun c_8 => ?_) (fun c_8 => ?_)
    · have kc_8 : r_6.toInt = 0 := by have h9 := c_8; simp only [ge_iff_le, gt_iff_lt, x_lt, x_le, x_eq, ne_eq, Int32.not_lt, Int32.not_le] at h9; simp only [Int32.reduceToInt] at h9; omega
      refine lv_iconst (v := 0) hx hb dX7_handBack_100 (by decide) ?_
      exact x_zretW (v := 0) (u := f_7) hx hb hr hQ rfl (by first | decide | exact hw) hP hD hK hS dX7_handBack_101 hlocks
    · have kc_8 : r_6.toInt ≠ 0 := by have h9 := c_8; simp only [ge_iff_le, gt_iff_lt, x_lt, x_le, x_eq, ne_eq, Int32.not_lt, Int32.not_le] at h9; simp only [Int32.reduceToInt] at h9; omega
      refine lv_aload_n hx hb dX7_handBack_86 rfl (lv_at hl 5 rfl) ?_
      refine lv_iload hx hb dX7_handBack_87 (lv_at hl 0 rfl) ?_
      refine lv_lload_n hx hb dX7_handBack_89 rfl (lv_at hl 2 rfl) ?_
      refine x_calliW (va_runS (As := [.ref (ad 171), .int i_3, .long j_1]) (rest := []) ⟨hx, hb, hml, hown, hts⟩ (s_addShare l D y H.size ad (tJ σ 171 f_7) i_3 j_1 (by first | omega | decide) (by first | omega | decide)) (cwS 3 hts g_s_handBack_0 rfl rfl rfl (by decide +kernel) ⟨Nat.le_of_ble_eq_true rfl, Nat.le_of_ble_eq_true rfl⟩) (x_preS hK hP hD) rfl rfl hl.1 rfl (lv_room (Nat.le_of_ble_eq_true rfl)) dX7_handBack_90 ⟨Nat.le_of_ble_eq_true rfl, Nat.le_of_ble_eq_true rfl⟩) hP hD hS hA (fun r_9 u H locs hw hP hD hS => ?_)
      obtain ⟨f_10, rfl⟩ : ∃ z9, z9 = u := ⟨_, rfl⟩
      try dsimp only at hw
      have hP : va_P D vwCl (slw y ad (tJ (tJ σ 171 f_7) 171 f_10)) H := hP
      have hD : va_D A (slw y ad (tJ (tJ σ 171 f_7) 171 f_10)) := hD
      refine lv_if_eq (tgt := 100) hx hb dX7_handBack_93 (by decide) (fun c_11 => ?_) (fun c_11 => ?_)
      · have kc_11 : r_9.toInt = 0 := by have h9 := c_11; simp only [ge_iff_le, gt_iff_lt, x_lt, x_le, x_eq, ne_eq, Int32.not_lt, Int32.not_le] at h9; simp only [Int32.reduceToInt] at h9; omega
        refine lv_iconst (v := 0) hx hb dX7_handBack_100 (by decide) ?_
        have hP : va_P D vwCl (slw y ad (tJ σ 171 f_10)) H := hP
        have hD : va_D A (slw y ad (tJ σ 171 f_10)) := hD
        exact x_zretW (v := 0) (u := f_10) hx hb hr hQ rfl (by first | decide | exact hw) hP hD hK hS dX7_handBack_101 hlocks
      · have kc_11 : r_9.toInt ≠ 0 := by have h9 := c_11; simp only [ge_iff_le, gt_iff_lt, x_lt, x_le, x_eq, ne_eq, Int32.not_lt, Int32.not_le] at h9; simp only [Int32.reduceToInt] at h9; omega
        refine lv_iconst (v := 1) hx hb dX7_handBack_96 (by decide) ?_
        refine lv_goto (tgt := 101) hx hb dX7_handBack_97 (by decide) ?_
        have hP : va_P D vwCl (slw y ad (tJ σ 171 f_10)) H := hP
        have hD : va_D A (slw y ad (tJ σ 171 f_10)) := hD
        exact x_zretW (v := 1) (u := f_10) hx hb hr hQ rfl (by first | decide | exact hw) hP hD hK hS dX7_handBack_101 hlocks
  · refine lv_lookup (tgt := 102) (off := 76) hx hb dX7_handBack_26 (by decide) (by decide) (by decide) ?_
    refine lv_aload_n hx hb dX7_handBack_102 rfl (lv_at hl 5 rfl) ?_
    refine lv_iload hx hb dX7_handBack_103 (lv_at hl 1 rfl) ?_
    refine lv_lload_n hx hb dX7_handBack_105 rfl (lv_at hl 2 rfl) ?_
    refine x_calliW (va_runS (As := [.ref (ad 171), .int i_2, .long j_1]) (rest := []) ⟨hx, hb, hml, hown, hts⟩ (s_addShare l D y H.size ad σ i_2 j_1 (by first | omega | decide) (by first | omega | decide)) (cwS 3 hts g_s_handBack_0 rfl rfl rfl (by decide +kernel) ⟨Nat.le_of_ble_eq_true rfl, Nat.le_of_ble_eq_true rfl⟩) (x_preS hK hP hD) rfl rfl hl.1 rfl (lv_room (Nat.le_of_ble_eq_true rfl)) dX7_handBack_106 ⟨Nat.le_of_ble_eq_true rfl, Nat.le_of_ble_eq_true rfl⟩) hP hD hS hA (fun r_12 u H locs hw hP hD hS => ?_)
    obtain ⟨f_13, rfl⟩ : ∃ z9, z9 = u := ⟨_, rfl⟩
    try dsimp only at hw
    have hP : va_P D vwCl (slw y ad (tJ σ 171 f_13)) H := hP
    have hD : va_D A (slw y ad (tJ σ 171 f_13)) := hD
    refine lv_if_eq (tgt := 129) hx hb dX7_handBack_109 (by decide) (fun c_14 => ?_) (fun c_14 => ?_)
    · have kc_14 : r_12.toInt = 0 := by have h9 := c_14; simp only [ge_iff_le, gt_iff_lt, x_lt, x_le, x_eq, ne_eq, Int32.not_lt, Int32.not_le] at h9; simp only [Int32.reduceToInt] at h9; omega
      refine lv_iconst (v := 0) hx hb dX7_handBack_129 (by decide) ?_
      exact x_zretW (v := 0) (u := f_13) hx hb hr hQ rfl (by first | decide | exact hw) hP hD hK hS dX7_handBack_130 hlocks
    · have kc_14 : r_12.toInt ≠ 0 := by have h9 := c_14; simp only [ge_iff_le, gt_iff_lt, x_lt, x_le, x_eq, ne_eq, Int32.not_lt, Int32.not_le] at h9; simp only [Int32.reduceToInt] at h9; omega
      refine lv_aload_n hx hb dX7_handBack_112 rfl (lv_at hl 5 rfl) ?_
      refine lv_iload hx hb dX7_handBack_113 (lv_at hl 0 rfl) ?_
      refine lv_lload_n hx hb dX7_handBack_115 rfl (lv_at hl 2 rfl) ?_
      refine x_calllN (va_runS (As := [.long j_1]) (rest := [.int i_3, .ref (ad 171)]) ⟨hx, hb, hml, hown, hts⟩ (k_turned l D y H.size j_1) (va_cwS 1 hts g_s_handBack_1 rfl rfl rfl (by decide +kernel) ⟨Nat.le_of_ble_eq_true rfl, Nat.le_of_ble_eq_true rfl⟩) (x_preS hK (x_nilP D H) (x_nilD A)) rfl rfl hl.1 rfl (lv_room (Nat.le_of_ble_eq_true rfl)) dX7_handBack_116 ⟨Nat.le_of_ble_eq_true rfl, Nat.le_of_ble_eq_true rfl⟩) hP hD hS hA (fun r_15 u H locs hw hP hD hS => ?_)
      try dsimp only at hw
      refine x_calliW (va_runS (As := [.ref (ad 171), .int i_3, .long r_15]) (rest := []) ⟨hx, hb, hml, hown, hts⟩ (s_addShare l D y H.size ad (tJ σ 171 f_13) i_3 r_15 (by first | omega | decide) (by first | omega | decide)) (cwS 3 hts g_s_handBack_0 rfl rfl rfl (by decide +kernel) ⟨Nat.le_of_ble_eq_true rfl, Nat.le_of_ble_eq_true rfl⟩) (x_preS hK hP hD) rfl rfl hl.1 rfl (lv_room (Nat.le_of_ble_eq_true rfl)) dX7_handBack_119 ⟨Nat.le_of_ble_eq_true rfl, Nat.le_of_ble_eq_true rfl⟩) hP hD hS hA (fun r_16 u H locs hw hP hD hS => ?_)
      obtain ⟨f_17, rfl⟩ : ∃ z9, z9 = u := ⟨_, rfl⟩
      try dsimp only at hw
      have hP : va_P D vwCl (slw y ad (tJ (tJ σ 171 f_13) 171 f_17)) H := hP
      have hD : va_D A (slw y ad (tJ (tJ σ 171 f_13) 171 f_17)) := hD
      refine lv_if_eq (tgt := 129) hx hb dX7_handBack_122 (by decide) (fun c_18 => ?_) (fun c_18 => ?_)
      · have kc_18 : r_16.toInt = 0 := by have h9 := c_18; simp only [ge_iff_le, gt_iff_lt, x_lt, x_le, x_eq, ne_eq, Int32.not_lt, Int32.not_le] at h9; simp only [Int32.reduceToInt] at h9; omega
        refine lv_iconst (v := 0) hx hb dX7_handBack_129 (by decide) ?_
        have hP : va_P D vwCl (slw y ad (tJ σ 171 f_17)) H := hP
        have hD : va_D A (slw y ad (tJ σ 171 f_17)) := hD
        exact x_zretW (v := 0) (u := f_17) hx hb hr hQ rfl (by first | decide | exact hw) hP hD hK hS dX7_handBack_130 hlocks
      · have kc_18 : r_16.toInt ≠ 0 := by have h9 := c_18; simp only [ge_iff_le, gt_iff_lt, x_lt, x_le, x_eq, ne_eq, Int32.not_lt, Int32.not_le] at h9; simp only [Int32.reduceToInt] at h9; omega
        refine lv_iconst (v := 1) hx hb dX7_handBack_125 (by decide) ?_
        refine lv_goto (tgt := 130) hx hb dX7_handBack_126 (by decide) ?_
        have hP : va_P D vwCl (slw y ad (tJ σ 171 f_17)) H := hP
        have hD : va_D A (slw y ad (tJ σ 171 f_17)) := hD
        exact x_zretW (v := 1) (u := f_17) hx hb hr hQ rfl (by first | decide | exact hw) hP hD hK hS dX7_handBack_130 hlocks
  · refine lv_lookup (tgt := 131) (off := 105) hx hb dX7_handBack_26 (by decide) (by decide) (by decide) ?_
    refine lv_aload_n hx hb dX7_handBack_131 rfl (lv_at hl 5 rfl) ?_
    refine lv_iload hx hb dX7_handBack_132 (lv_at hl 1 rfl) ?_
    refine lv_lload_n hx hb dX7_handBack_134 rfl (lv_at hl 2 rfl) ?_
    refine lv_aload_n hx hb dX7_handBack_135 rfl (lv_at hl 3 rfl) ?_
    refine va_get (D := D) (ci := 7) (v := .ref (ad 131)) (C := RX8) (T := TX8) (N := 13) hx hb hts inX8 hown hK hP 1 slw_o1 rfl 0 (by decide) fl84 (fun _ h9 => h9) rfl dX7_handBack_136 ?_
    refine lv_iload hx hb dX7_handBack_139 (lv_at hl 0 rfl) ?_
    refine va_lald hx hb hK hP 7 3 slw_a7 rfl (x_in (by omega) (by omega)) dX7_handBack_141 ?_
    refine lv_topl (fun j_19 ej_19 => ?_)
    have ej_19 : j_19 = (σ.2.2.2 131) (Int32.toNatClampNeg i_3) := ej_19
    refine x_calllN (va_runS (As := [.long j_1, .long j_19]) (rest := [.int i_2, .ref (ad 171)]) ⟨hx, hb, hml, hown, hts⟩ (k_times l D y H.size j_1 j_19) (va_cwS 2 hts g_s_handBack_2 rfl rfl rfl (by decide +kernel) ⟨Nat.le_of_ble_eq_true rfl, Nat.le_of_ble_eq_true rfl⟩) (x_preS hK (x_nilP D H) (x_nilD A)) rfl rfl hl.1 rfl (lv_room (Nat.le_of_ble_eq_true rfl)) dX7_handBack_142 ⟨Nat.le_of_ble_eq_true rfl, Nat.le_of_ble_eq_true rfl⟩) hP hD hS hA (fun r_20 u H locs hw hP hD hS => ?_)
    try dsimp only at hw
    refine x_calliW (va_runS (As := [.ref (ad 171), .int i_2, .long r_20]) (rest := []) ⟨hx, hb, hml, hown, hts⟩ (s_addShare l D y H.size ad σ i_2 r_20 (by first | omega | decide) (by first | omega | decide)) (cwS 3 hts g_s_handBack_0 rfl rfl rfl (by decide +kernel) ⟨Nat.le_of_ble_eq_true rfl, Nat.le_of_ble_eq_true rfl⟩) (x_preS hK hP hD) rfl rfl hl.1 rfl (lv_room (Nat.le_of_ble_eq_true rfl)) dX7_handBack_145 ⟨Nat.le_of_ble_eq_true rfl, Nat.le_of_ble_eq_true rfl⟩) hP hD hS hA (fun r_21 u H locs hw hP hD hS => ?_)
    obtain ⟨f_22, rfl⟩ : ∃ z9, z9 = u := ⟨_, rfl⟩
    try dsimp only at hw
    have hP : va_P D vwCl (slw y ad (tJ σ 171 f_22)) H := hP
    have hD : va_D A (slw y ad (tJ σ 171 f_22)) := hD
    refine lv_if_eq (tgt := 175) hx hb dX7_handBack_148 (by decide) (fun c_23 => ?_) (fun c_23 => ?_)
    · have kc_23 : r_21.toInt = 0 := by have h9 := c_23; simp only [ge_iff_le, gt_iff_lt, x_lt, x_le, x_eq, ne_eq, Int32.not_lt, Int32.not_le] at h9; simp only [Int32.reduceToInt] at h9; omega
      refine lv_iconst (v := 0) hx hb dX7_handBack_175 (by decide) ?_
      exact x_zretW (v := 0) (u := f_22) hx hb hr hQ rfl (by first | decide | exact hw) hP hD hK hS dX7_handBack_176 hlocks
    · have kc_23 : r_21.toInt ≠ 0 := by have h9 := c_23; simp only [ge_iff_le, gt_iff_lt, x_lt, x_le, x_eq, ne_eq, Int32.not_lt, Int32.not_le] at h9; simp only [Int32.reduceToInt] at h9; omega
      refine lv_aload_n hx hb dX7_handBack_151 rfl (lv_at hl 5 rfl) ?_
      refine lv_iload hx hb dX7_handBack_152 (lv_at hl 0 rfl) ?_
      refine lv_aload_n hx hb dX7_handBack_154 rfl (lv_at hl 3 rfl) ?_
      refine va_get (D := D) (ci := 7) (v := .ref (ad 131)) (C := RX8) (T := TX8) (N := 13) hx hb hts inX8 hown hK hP 1 slw_o1 rfl 0 (by decide) fl84 (fun _ h9 => h9) rfl dX7_handBack_155 ?_
      refine lv_iload hx hb dX7_handBack_158 (lv_at hl 1 rfl) ?_
      refine va_lald hx hb hK hP 7 3 slw_a7 rfl (x_in (by omega) (by omega)) dX7_handBack_160 ?_
      refine lv_topl (fun j_24 ej_24 => ?_)
      have ej_24 : j_24 = (σ.2.2.2 131) (Int32.toNatClampNeg i_2) := ej_24
      refine lv_lload_n hx hb dX7_handBack_161 rfl (lv_at hl 2 rfl) ?_
      refine x_calllN (va_runS (As := [.long j_24, .long j_1]) (rest := [.int i_3, .ref (ad 171)]) ⟨hx, hb, hml, hown, hts⟩ (k_times l D y H.size j_24 j_1) (va_cwS 2 hts g_s_handBack_2 rfl rfl rfl (by decide +kernel) ⟨Nat.le_of_ble_eq_true rfl, Nat.le_of_ble_eq_true rfl⟩) (x_preS hK (x_nilP D H) (x_nilD A)) rfl rfl hl.1 rfl (lv_room (Nat.le_of_ble_eq_true rfl)) dX7_handBack_162 ⟨Nat.le_of_ble_eq_true rfl, Nat.le_of_ble_eq_true rfl⟩) hP hD hS hA (fun r_25 u H locs hw hP hD hS => ?_)
      try dsimp only at hw
      refine x_calliW (va_runS (As := [.ref (ad 171), .int i_3, .long r_25]) (rest := []) ⟨hx, hb, hml, hown, hts⟩ (s_addShare l D y H.size ad (tJ σ 171 f_22) i_3 r_25 (by first | omega | decide) (by first | omega | decide)) (cwS 3 hts g_s_handBack_0 rfl rfl rfl (by decide +kernel) ⟨Nat.le_of_ble_eq_true rfl, Nat.le_of_ble_eq_true rfl⟩) (x_preS hK hP hD) rfl rfl hl.1 rfl (lv_room (Nat.le_of_ble_eq_true rfl)) dX7_handBack_165 ⟨Nat.le_of_ble_eq_true rfl, Nat.le_of_ble_eq_true rfl⟩) hP hD hS hA (fun r_26 u H locs hw hP hD hS => ?_)
      obtain ⟨f_27, rfl⟩ : ∃ z9, z9 = u := ⟨_, rfl⟩
      try dsimp only at hw
      have hP : va_P D vwCl (slw y ad (tJ (tJ σ 171 f_22) 171 f_27)) H := hP
      have hD : va_D A (slw y ad (tJ (tJ σ 171 f_22) 171 f_27)) := hD
      refine lv_if_eq (tgt := 175) hx hb dX7_handBack_168 (by decide) (fun c_28 => ?_) (fun c_28 => ?_)
      · have kc_28 : r_26.toInt = 0 := by have h9 := c_28; simp only [ge_iff_le, gt_iff_lt, x_lt, x_le, x_eq, ne_eq, Int32.not_lt, Int32.not_le] at h9; simp only [Int32.reduceToInt] at h9; omega
        refine lv_iconst (v := 0) hx hb dX7_handBack_175 (by decide) ?_
        have hP : va_P D vwCl (slw y ad (tJ σ 171 f_27)) H := hP
        have hD : va_D A (slw y ad (tJ σ 171 f_27)) := hD
        exact x_zretW (v := 0) (u := f_27) hx hb hr hQ rfl (by first | decide | exact hw) hP hD hK hS dX7_handBack_176 hlocks
      · have kc_28 : r_26.toInt ≠ 0 := by have h9 := c_28; simp only [ge_iff_le, gt_iff_lt, x_lt, x_le, x_eq, ne_eq, Int32.not_lt, Int32.not_le] at h9; simp only [Int32.reduceToInt] at h9; omega
        refine lv_iconst (v := 1) hx hb dX7_handBack_171 (by decide) ?_
        refine lv_goto (tgt := 176) hx hb dX7_handBack_172 (by decide) ?_
        have hP : va_P D vwCl (slw y ad (tJ σ 171 f_27)) H := hP
        have hD : va_D A (slw y ad (tJ σ 171 f_27)) := hD
        exact x_zretW (v := 1) (u := f_27) hx hb hr hQ rfl (by first | decide | exact hw) hP hD hK hS dX7_handBack_176 hlocks
  · refine lv_lookup (tgt := 177) (off := 151) hx hb dX7_handBack_26 (by decide) (by decide) (by decide) ?_
    refine lv_lload_n hx hb dX7_handBack_177 rfl (lv_at hl 2 rfl) ?_
    refine lv_aload_n hx hb dX7_handBack_178 rfl (lv_at hl 3 rfl) ?_
    refine va_get (D := D) (ci := 7) (v := .ref (ad 131)) (C := RX8) (T := TX8) (N := 13) hx hb hts inX8 hown hK hP 1 slw_o1 rfl 0 (by decide) fl84 (fun _ h9 => h9) rfl dX7_handBack_179 ?_
    refine lv_iload hx hb dX7_handBack_182 (lv_at hl 0 rfl) ?_
    refine va_lald hx hb hK hP 7 3 slw_a7 rfl (x_in (by omega) (by omega)) dX7_handBack_184 ?_
    refine lv_topl (fun j_29 ej_29 => ?_)
    have ej_29 : j_29 = (σ.2.2.2 131) (Int32.toNatClampNeg i_3) := ej_29
    refine x_calllN (va_runS (As := [.long j_1, .long j_29]) (rest := []) ⟨hx, hb, hml, hown, hts⟩ (k_over l D y H.size j_1 j_29) (va_cwS 2 hts g_s_handBack_3 rfl rfl rfl (by decide +kernel) ⟨Nat.le_of_ble_eq_true rfl, Nat.le_of_ble_eq_true rfl⟩) (x_preS hK (x_nilP D H) (x_nilD A)) rfl rfl hl.1 rfl (lv_room (Nat.le_of_ble_eq_true rfl)) dX7_handBack_185 ⟨Nat.le_of_ble_eq_true rfl, Nat.le_of_ble_eq_true rfl⟩) hP hD hS hA (fun r_30 u H locs hw hP hD hS => ?_)
    try dsimp only at hw
    refine lv_lstore (lv' := [(7, .long r_30), (6, .int i_3), (5, .int i_2), (3, .long j_1), (0, .ref (ad 130)), (1, .int k), (2, .ref (ad 171))]) hx hb dX7_handBack_188 hl (by decide) rfl (fun ls hl => ?_)
    refine lv_aload_n hx hb dX7_handBack_190 rfl (lv_at hl 4 rfl) ?_
    refine va_get (D := D) (ci := 7) (v := .ref (ad 131)) (C := RX8) (T := TX8) (N := 13) hx hb hts inX8 hown hK hP 1 slw_o1 rfl 0 (by decide) fl84 (fun _ h9 => h9) rfl dX7_handBack_191 ?_
    refine lv_iload_n hx hb dX7_handBack_194 rfl (lv_at hl 5 rfl) ?_
    refine va_lald hx hb hK hP 7 3 slw_a7 rfl (x_in (by omega) (by omega)) dX7_handBack_195 ?_
    refine lv_topl (fun j_31 ej_31 => ?_)
    have ej_31 : j_31 = (σ.2.2.2 131) (Int32.toNatClampNeg k) := ej_31
    refine lv_lload hx hb dX7_handBack_196 (lv_at hl 0 rfl) ?_
    refine x_calllN (va_runS (As := [.long j_31, .long r_30]) (rest := []) ⟨hx, hb, hml, hown, hts⟩ (k_times l D y H.size j_31 r_30) (va_cwS 2 hts g_s_handBack_2 rfl rfl rfl (by decide +kernel) ⟨Nat.le_of_ble_eq_true rfl, Nat.le_of_ble_eq_true rfl⟩) (x_preS hK (x_nilP D H) (x_nilD A)) rfl rfl hl.1 rfl (lv_room (Nat.le_of_ble_eq_true rfl)) dX7_handBack_198 ⟨Nat.le_of_ble_eq_true rfl, Nat.le_of_ble_eq_true rfl⟩) hP hD hS hA (fun r_32 u H locs hw hP hD hS => ?_)
    try dsimp only at hw
    refine x_calllN (va_runS (As := [.long r_32]) (rest := []) ⟨hx, hb, hml, hown, hts⟩ (k_turned l D y H.size r_32) (va_cwS 1 hts g_s_handBack_1 rfl rfl rfl (by decide +kernel) ⟨Nat.le_of_ble_eq_true rfl, Nat.le_of_ble_eq_true rfl⟩) (x_preS hK (x_nilP D H) (x_nilD A)) rfl rfl hl.1 rfl (lv_room (Nat.le_of_ble_eq_true rfl)) dX7_handBack_201 ⟨Nat.le_of_ble_eq_true rfl, Nat.le_of_ble_eq_true rfl⟩) hP hD hS hA (fun r_33 u H locs hw hP hD hS => ?_)
    try dsimp only at hw
    refine lv_lstore (lv' := [(9, .long r_33), (7, .long r_30), (6, .int i_3), (5, .int i_2), (3, .long j_1), (0, .ref (ad 130)), (1, .int k), (2, .ref (ad 171))]) hx hb dX7_handBack_204 hl (by decide) rfl (fun ls hl => ?_)
    refine lv_aload_n hx hb dX7_handBack_206 rfl (lv_at hl 7 rfl) ?_
    refine lv_iload hx hb dX7_handBack_207 (lv_at hl 3 rfl) ?_
    refine lv_lload hx hb dX7_handBack_209 (lv_at hl 1 rfl) ?_
    refine x_calliW (va_runS (As := [.ref (ad 171), .int i_2, .long r_30]) (rest := []) ⟨hx, hb, hml, hown, hts⟩ (s_addShare l D y H.size ad σ i_2 r_30 (by first | omega | decide) (by first | omega | decide)) (cwS 3 hts g_s_handBack_0 rfl rfl rfl (by decide +kernel) ⟨Nat.le_of_ble_eq_true rfl, Nat.le_of_ble_eq_true rfl⟩) (x_preS hK hP hD) rfl rfl hl.1 rfl (lv_room (Nat.le_of_ble_eq_true rfl)) dX7_handBack_211 ⟨Nat.le_of_ble_eq_true rfl, Nat.le_of_ble_eq_true rfl⟩) hP hD hS hA (fun r_34 u H locs hw hP hD hS => ?_)
    obtain ⟨f_35, rfl⟩ : ∃ z9, z9 = u := ⟨_, rfl⟩
    try dsimp only at hw
    have hP : va_P D vwCl (slw y ad (tJ σ 171 f_35)) H := hP
    have hD : va_D A (slw y ad (tJ σ 171 f_35)) := hD
    refine lv_if_eq (tgt := 232) hx hb dX7_handBack_214 (by decide) (fun c_36 => ?_) (fun c_36 => ?_)
    · have kc_36 : r_34.toInt = 0 := by have h9 := c_36; simp only [ge_iff_le, gt_iff_lt, x_lt, x_le, x_eq, ne_eq, Int32.not_lt, Int32.not_le] at h9; simp only [Int32.reduceToInt] at h9; omega
      refine lv_iconst (v := 0) hx hb dX7_handBack_232 (by decide) ?_
      exact x_zretW (v := 0) (u := f_35) hx hb hr hQ rfl (by first | decide | exact hw) hP hD hK hS dX7_handBack_233 hlocks
    · have kc_36 : r_34.toInt ≠ 0 := by have h9 := c_36; simp only [ge_iff_le, gt_iff_lt, x_lt, x_le, x_eq, ne_eq, Int32.not_lt, Int32.not_le] at h9; simp only [Int32.reduceToInt] at h9; omega
      refine lv_aload_n hx hb dX7_handBack_217 rfl (lv_at hl 7 rfl) ?_
      refine lv_iload hx hb dX7_handBack_218 (lv_at hl 2 rfl) ?_
      refine lv_lload hx hb dX7_handBack_220 (lv_at hl 0 rfl) ?_
      refine x_calliW (va_runS (As := [.ref (ad 171), .int i_3, .long r_33]) (rest := []) ⟨hx, hb, hml, hown, hts⟩ (s_addShare l D y H.size ad (tJ σ 171 f_35) i_3 r_33 (by first | omega | decide) (by first | omega | decide)) (cwS 3 hts g_s_handBack_0 rfl rfl rfl (by decide +kernel) ⟨Nat.le_of_ble_eq_true rfl, Nat.le_of_ble_eq_true rfl⟩) (x_preS hK hP hD) rfl rfl hl.1 rfl (lv_room (Nat.le_of_ble_eq_true rfl)) dX7_handBack_222 ⟨Nat.le_of_ble_eq_true rfl, Nat.le_of_ble_eq_true rfl⟩) hP hD hS hA (fun r_37 u H locs hw hP hD hS => ?_)
      obtain ⟨f_38, rfl⟩ : ∃ z9, z9 = u := ⟨_, rfl⟩
      try dsimp only at hw
      have hP : va_P D vwCl (slw y ad (tJ (tJ σ 171 f_35) 171 f_38)) H := hP
      have hD : va_D A (slw y ad (tJ (tJ σ 171 f_35) 171 f_38)) := hD
      refine lv_if_eq (tgt := 232) hx hb dX7_handBack_225 (by decide) (fun c_39 => ?_) (fun c_39 => ?_)
      · have kc_39 : r_37.toInt = 0 := by have h9 := c_39; simp only [ge_iff_le, gt_iff_lt, x_lt, x_le, x_eq, ne_eq, Int32.not_lt, Int32.not_le] at h9; simp only [Int32.reduceToInt] at h9; omega
        refine lv_iconst (v := 0) hx hb dX7_handBack_232 (by decide) ?_
        have hP : va_P D vwCl (slw y ad (tJ σ 171 f_38)) H := hP
        have hD : va_D A (slw y ad (tJ σ 171 f_38)) := hD
        exact x_zretW (v := 0) (u := f_38) hx hb hr hQ rfl (by first | decide | exact hw) hP hD hK hS dX7_handBack_233 hlocks
      · have kc_39 : r_37.toInt ≠ 0 := by have h9 := c_39; simp only [ge_iff_le, gt_iff_lt, x_lt, x_le, x_eq, ne_eq, Int32.not_lt, Int32.not_le] at h9; simp only [Int32.reduceToInt] at h9; omega
        refine lv_iconst (v := 1) hx hb dX7_handBack_228 (by decide) ?_
        refine lv_goto (tgt := 233) hx hb dX7_handBack_229 (by decide) ?_
        have hP : va_P D vwCl (slw y ad (tJ σ 171 f_38)) H := hP
        have hD : va_D A (slw y ad (tJ σ 171 f_38)) := hD
        exact x_zretW (v := 1) (u := f_38) hx hb hr hQ rfl (by first | decide | exact hw) hP hD hK hS dX7_handBack_233 hlocks
  · refine lv_lookup (tgt := 234) (off := 208) hx hb dX7_handBack_26 (by decide) (by decide) (by decide) ?_
    refine lv_aload_n hx hb dX7_handBack_234 rfl (lv_at hl 5 rfl) ?_
    refine lv_iload hx hb dX7_handBack_235 (lv_at hl 1 rfl) ?_
    refine lv_lload_n hx hb dX7_handBack_237 rfl (lv_at hl 2 rfl) ?_
    refine x_calllN (va_runS (As := [.long j_1]) (rest := [.int i_2, .ref (ad 171)]) ⟨hx, hb, hml, hown, hts⟩ (k_turned l D y H.size j_1) (va_cwS 1 hts g_s_handBack_1 rfl rfl rfl (by decide +kernel) ⟨Nat.le_of_ble_eq_true rfl, Nat.le_of_ble_eq_true rfl⟩) (x_preS hK (x_nilP D H) (x_nilD A)) rfl rfl hl.1 rfl (lv_room (Nat.le_of_ble_eq_true rfl)) dX7_handBack_238 ⟨Nat.le_of_ble_eq_true rfl, Nat.le_of_ble_eq_true rfl⟩) hP hD hS hA (fun r_40 u H locs hw hP hD hS => ?_)
    try dsimp only at hw
    refine x_calliW (va_runS (As := [.ref (ad 171), .int i_2, .long r_40]) (rest := []) ⟨hx, hb, hml, hown, hts⟩ (s_addShare l D y H.size ad σ i_2 r_40 (by first | omega | decide) (by first | omega | decide)) (cwS 3 hts g_s_handBack_0 rfl rfl rfl (by decide +kernel) ⟨Nat.le_of_ble_eq_true rfl, Nat.le_of_ble_eq_true rfl⟩) (x_preS hK hP hD) rfl rfl hl.1 rfl (lv_room (Nat.le_of_ble_eq_true rfl)) dX7_handBack_241 ⟨Nat.le_of_ble_eq_true rfl, Nat.le_of_ble_eq_true rfl⟩) hP hD hS hA (fun r_41 u H locs hw hP hD hS => ?_)
    obtain ⟨f_42, rfl⟩ : ∃ z9, z9 = u := ⟨_, rfl⟩
    try dsimp only at hw
    have hP : va_P D vwCl (slw y ad (tJ σ 171 f_42)) H := hP
    have hD : va_D A (slw y ad (tJ σ 171 f_42)) := hD
    exact x_zretW (v := r_41) (u := f_42) hx hb hr hQ (x_01 (by first | exact hw | omega)) (by first | decide | exact hw) hP hD hK hS dX7_handBack_244 hlocks
  · refine lv_lookup (tgt := 245) (off := 219) hx hb dX7_handBack_26 (by decide) ((lv_osw g_5_0 rfl).trans ((lv_osw g_5_1 rfl).trans ((lv_osw g_5_2 rfl).trans ((lv_osw g_5_3 rfl).trans ((lv_osw g_5_4 rfl).trans rfl))))) (by decide) ?_
    refine lv_aload_n hx hb dX7_handBack_245 rfl (lv_at hl 5 rfl) ?_
    refine lv_iload hx hb dX7_handBack_246 (lv_at hl 1 rfl) ?_
    refine lv_lload_n hx hb dX7_handBack_248 rfl (lv_at hl 2 rfl) ?_
    refine x_calliW (va_runS (As := [.ref (ad 171), .int i_2, .long j_1]) (rest := []) ⟨hx, hb, hml, hown, hts⟩ (s_addShare l D y H.size ad σ i_2 j_1 (by first | omega | decide) (by first | omega | decide)) (cwS 3 hts g_s_handBack_0 rfl rfl rfl (by decide +kernel) ⟨Nat.le_of_ble_eq_true rfl, Nat.le_of_ble_eq_true rfl⟩) (x_preS hK hP hD) rfl rfl hl.1 rfl (lv_room (Nat.le_of_ble_eq_true rfl)) dX7_handBack_249 ⟨Nat.le_of_ble_eq_true rfl, Nat.le_of_ble_eq_true rfl⟩) hP hD hS hA (fun r_43 u H locs hw hP hD hS => ?_)
    obtain ⟨f_44, rfl⟩ : ∃ z9, z9 = u := ⟨_, rfl⟩
    try dsimp only at hw
    have hP : va_P D vwCl (slw y ad (tJ σ 171 f_44)) H := hP
    have hD : va_D A (slw y ad (tJ σ 171 f_44)) := hD
    exact x_zretW (v := r_43) (u := f_44) hx hb hr hQ (x_01 (by first | exact hw | omega)) (by first | decide | exact hw) hP hD hK hS dX7_handBack_252 hlocks

def v_s_slopeForward : List Cond := .code yX7_slopeForward cX7_slopeForward 5 (some .long) :: ([.fieldLink RX7 9 "SlopeRunner$Slopes" "fromOne" "[J"] ++ ((wsV RX7 29 RX8 yX8_resultAt v_ka_resultAt) ++ ((wsV RX7 33 RX7 yX7_markHanging v_s_markHanging) ++ ((wsV RX7 37 RX7 yX7_fillSlopes v_s_fillSlopes1) ++ wsX70))))
theorem g_s_slopeForward_0 : GoodIn v_s_slopeForward (wsV RX7 29 RX8 yX8_resultAt v_ka_resultAt) := goodIn_sub (fun w h => List.mem_cons_of_mem _ (List.mem_append_right _ (List.mem_append_left _ h))) (by decide +kernel)
theorem g_s_slopeForward_1 : GoodIn v_s_slopeForward (wsV RX7 33 RX7 yX7_markHanging v_s_markHanging) := goodIn_sub (fun w h => List.mem_cons_of_mem _ (List.mem_append_right _ (List.mem_append_right _ (List.mem_append_left _ h)))) (by decide +kernel)
theorem g_s_slopeForward_2 : GoodIn v_s_slopeForward (wsV RX7 37 RX7 yX7_fillSlopes v_s_fillSlopes1) := goodIn_sub (fun w h => List.mem_cons_of_mem _ (List.mem_append_right _ (List.mem_append_right _ (List.mem_append_right _ (List.mem_append_left _ h))))) (by decide +kernel)
set_option maxHeartbeats 4000000 in
set_option maxRecDepth 100000 in
theorem s_slopeForward (l : Launch) (D : va_G) (y : Nat → ClassId) (sz : Nat) (ad : Nat → Nat) (σ : OS) (q i : Int32) (hin0 : 0 ≤ (σ.1 137).toInt) (hin1 : (σ.1 137).toInt ≤ 8) (hrs0 : 0 ≤ (σ.1 141).toInt) (hrs1 : (σ.1 141).toInt ≤ 12) (hfs0 : 0 ≤ (σ.1 138).toInt)  (hB133 : bI (σ.2.2.1 133) 0 1358) (hB134 : bI (σ.2.2.1 134) 0 1358) (hB135 : bI (σ.2.2.1 135) 0 1358) : Met l yX7_slopeForward v_s_slopeForward ({ frames := 5, cells := 0, slots := 0, locals := 149 } : Room) (va_Pc [.ref (ad 170), .ref (ad 130), .int q, .int i] (xPre D (xT y) (slw y ad σ) sz)) (va_Ql (fun (r : Int64) (u : (Nat → Int32) × (Nat → Int64)) => True) (fun (u : (Nat → Int32) × (Nat → Int64)) => xB D (xT y) (va_A (slw y ad σ) sz) (slw y ad (tJ (tI σ 175 u.1) 171 u.2))) (va_A (slw y ad σ) sz)) 0 0 (va_A (slw y ad σ) sz) := by
  refine x_metl (cc := cX7_slopeForward) (maxL := 5) (by decide) rfl (Nat.le_of_ble_eq_true rfl) ?_
  intro p e s m below meth c A H locs Q hx hb hml hown hts hr hlocks hmn hA hP hK hD hS ls hl hQ
  have hl : lv_has ls 5 [(0, .ref (ad 170)), (1, .ref (ad 130)), (2, .int q), (3, .int i)] := hl
  have fl9 := hts (.fieldLink RX7 9 "SlopeRunner$Slopes" "fromOne" "[J") (List.mem_of_getElem? (i := 1) rfl)
  have inX7 : ∀ w ∈ wsX70, w ∈ v_s_slopeForward := (fun w h => List.mem_cons_of_mem _ (List.mem_append_right _ (List.mem_append_right _ (List.mem_append_right _ (List.mem_append_right _ h)))))
  refine lv_aload_n hx hb dX7_slopeForward_0 rfl (lv_at hl 1 rfl) ?_
  refine lv_iload_n hx hb dX7_slopeForward_1 rfl (lv_at hl 2 rfl) ?_
  have hPs : va_P D vwCl (tpw y ad σ) H := x_suP hP [1, 7, 8, 9, 10, 11] rfl
  have hDs : va_D A (tpw y ad σ) := x_suD hD [1, 7, 8, 9, 10, 11] rfl (by decide)
  refine x_calliS (b1 := fun (u : Unit) => (slw y ad σ)) [1, 7, 8, 9, 10, 11] (va_runV (As := [.int q]) (rest := []) ⟨hx, hb, hml, hown, hts⟩ (ka_resultAt l D y H.size ad σ q (show 0 ≤ ((σ.1 137)).toInt from by first | omega | decide) (show ((σ.1 137)).toInt ≤ 8 from by first | omega | decide) (show 0 ≤ ((σ.1 141)).toInt from by first | omega | decide) (show ((σ.1 141)).toInt ≤ 12 from by first | omega | decide) hB135) (cwV 1 hts g_s_slopeForward_0 rfl rfl rfl (by decide +kernel) ⟨Nat.le_of_ble_eq_true rfl, Nat.le_of_ble_eq_true rfl⟩) (x_preV (q := (RX8, TX8, 13)) hK hPs hDs (ci := 7) (q0 := 0) rfl tpw_o0) rfl rfl hl.1 rfl (lv_room (Nat.le_of_ble_eq_true rfl)) dX7_slopeForward_2 ⟨Nat.le_of_ble_eq_true rfl, Nat.le_of_ble_eq_true rfl⟩) hP hD hS hA rfl (fun _ => rfl) (fun _ => rfl) (fun _ => rfl) (fun r_1 u H locs hw hP hD hS => ?_)
  try dsimp only at hw
  have hP : va_P D vwCl (slw y ad σ) H := hP
  have hD : va_D A (slw y ad σ) := hD
  have hra := hw
  refine lv_istore (lv' := [(4, .int r_1), (0, .ref (ad 170)), (1, .ref (ad 130)), (2, .int q), (3, .int i)]) hx hb dX7_slopeForward_5 hl (by decide) rfl (fun ls hl => ?_)
  refine lv_aload_n hx hb dX7_slopeForward_7 rfl (lv_at hl 1 rfl) ?_
  refine lv_aload_n hx hb dX7_slopeForward_8 rfl (lv_at hl 2 rfl) ?_
  refine lv_iload hx hb dX7_slopeForward_9 (lv_at hl 0 rfl) ?_
  refine x_callvW (va_runV (As := [.ref (ad 130), .int r_1]) (rest := []) ⟨hx, hb, hml, hown, hts⟩ (s_markHanging l D y H.size ad σ r_1 (by first | omega | decide) (by first | omega | decide) (show 0 ≤ ((σ.1 138)).toInt from by first | omega | decide) hB133 hB134) (cwV 2 hts g_s_slopeForward_1 rfl rfl rfl (by decide +kernel) ⟨Nat.le_of_ble_eq_true rfl, Nat.le_of_ble_eq_true rfl⟩) (x_preV (q := (RX7, TX7, 5)) hK hP hD (ci := 6) (q0 := 0) rfl slw_o0) rfl rfl hl.1 rfl (lv_room (Nat.le_of_ble_eq_true rfl)) dX7_slopeForward_11 ⟨Nat.le_of_ble_eq_true rfl, Nat.le_of_ble_eq_true rfl⟩) hP hD hS hA (fun u H locs hw hP hD hS => ?_)
  obtain ⟨f_2, rfl⟩ : ∃ z9, z9 = u := ⟨_, rfl⟩
  try dsimp only at hw
  have hP : va_P D vwCl (slw y ad (tI σ 175 f_2)) H := hP
  have hD : va_D A (slw y ad (tI σ 175 f_2)) := hD
  refine lv_aload_n hx hb dX7_slopeForward_14 rfl (lv_at hl 1 rfl) ?_
  refine lv_aload_n hx hb dX7_slopeForward_15 rfl (lv_at hl 2 rfl) ?_
  refine lv_iload hx hb dX7_slopeForward_16 (lv_at hl 0 rfl) ?_
  refine lv_iload_n hx hb dX7_slopeForward_18 rfl (lv_at hl 4 rfl) ?_
  refine lv_aload_n hx hb dX7_slopeForward_19 rfl (lv_at hl 1 rfl) ?_
  refine va_get (D := D) (ci := 6) (v := .ref (ad 171)) (C := RX7) (T := TX7) (N := 5) hx hb hts inX7 hown hK hP 0 slw_o0 rfl 0 (by decide) fl9 (fun _ h9 => h9) rfl dX7_slopeForward_20 ?_
  refine x_callvW (va_runV (As := [.ref (ad 130), .int r_1, .int i, .ref (ad 171)]) (rest := []) ⟨hx, hb, hml, hown, hts⟩ (s_fillSlopes1 l D y H.size ad (tI σ 175 f_2) r_1 (by first | omega | decide) (by first | omega | decide) i hB133 hB134) (cwV 4 hts g_s_slopeForward_2 rfl rfl rfl (by decide +kernel) ⟨Nat.le_of_ble_eq_true rfl, Nat.le_of_ble_eq_true rfl⟩) (x_preV (q := (RX7, TX7, 5)) hK hP hD (ci := 6) (q0 := 0) rfl slw_o0) rfl rfl hl.1 rfl (lv_room (Nat.le_of_ble_eq_true rfl)) dX7_slopeForward_23 ⟨Nat.le_of_ble_eq_true rfl, Nat.le_of_ble_eq_true rfl⟩) hP hD hS hA (fun u H locs hw hP hD hS => ?_)
  obtain ⟨f_3, rfl⟩ : ∃ z9, z9 = u := ⟨_, rfl⟩
  try dsimp only at hw
  have hP : va_P D vwCl (slw y ad (tJ (tI σ 175 f_2) 171 f_3)) H := hP
  have hD : va_D A (slw y ad (tJ (tI σ 175 f_2) 171 f_3)) := hD
  refine lv_aload_n hx hb dX7_slopeForward_26 rfl (lv_at hl 1 rfl) ?_
  refine va_get (D := D) (ci := 6) (v := .ref (ad 171)) (C := RX7) (T := TX7) (N := 5) hx hb hts inX7 hown hK hP 0 slw_o0 rfl 0 (by decide) fl9 (fun _ h9 => h9) rfl dX7_slopeForward_27 ?_
  refine lv_iload hx hb dX7_slopeForward_30 (lv_at hl 0 rfl) ?_
  refine va_lald hx hb hK hP 2 3 slw_a2 rfl (x_in (by omega) (by omega)) dX7_slopeForward_32 ?_
  refine lv_topl (fun j_4 ej_4 => ?_)
  have ej_4 : j_4 = f_3 (Int32.toNatClampNeg r_1) := ej_4
  exact x_lretW (v := j_4) (u := (f_2, f_3)) hx hb hr hQ trivial hP hD hK hS dX7_slopeForward_33 hlocks

def v_s_slopeTwice : List Cond := .code yX7_slopeTwice cX7_slopeTwice 7 (some .long) :: ([.fieldLink RX7 9 "SlopeRunner$Slopes" "fromOne" "[J", .fieldLink RX7 15 "SlopeRunner$Slopes" "fromOther" "[J", .fieldLink RX7 18 "SlopeRunner$Slopes" "fromBoth" "[J", .fieldLink RX7 41 "SlopeRunner$Tape" "firstStep" "I", .fieldLink RX7 25 "SlopeRunner$Slopes" "hangs" "[Z"] ++ ((wsV RX7 29 RX8 yX8_resultAt v_ka_resultAt) ++ ((wsV RX7 33 RX7 yX7_markHanging v_s_markHanging) ++ ((wsV RX7 37 RX7 yX7_fillSlopes v_s_fillSlopes1) ++ ((wsV RX7 37 RX7 yX7_fillSlopes v_s_fillSlopes2) ++ ((wsV RX7 47 RX7 yX7_hasBothSlopes v_s_hasBothSlopes) ++ ((wsV RX7 51 RX7 yX7_twiceAt v_s_twiceAt) ++ (wsX70 ++ wsX80))))))))
theorem g_s_slopeTwice_0 : GoodIn v_s_slopeTwice (wsV RX7 29 RX8 yX8_resultAt v_ka_resultAt) := goodIn_sub (fun w h => List.mem_cons_of_mem _ (List.mem_append_right _ (List.mem_append_left _ h))) (by decide +kernel)
theorem g_s_slopeTwice_1 : GoodIn v_s_slopeTwice (wsV RX7 33 RX7 yX7_markHanging v_s_markHanging) := goodIn_sub (fun w h => List.mem_cons_of_mem _ (List.mem_append_right _ (List.mem_append_right _ (List.mem_append_left _ h)))) (by decide +kernel)
theorem g_s_slopeTwice_2 : GoodIn v_s_slopeTwice (wsV RX7 37 RX7 yX7_fillSlopes v_s_fillSlopes1) := goodIn_sub (fun w h => List.mem_cons_of_mem _ (List.mem_append_right _ (List.mem_append_right _ (List.mem_append_right _ (List.mem_append_left _ h))))) (by decide +kernel)
theorem g_s_slopeTwice_3 : GoodIn v_s_slopeTwice (wsV RX7 37 RX7 yX7_fillSlopes v_s_fillSlopes2) := goodIn_sub (fun w h => List.mem_cons_of_mem _ (List.mem_append_right _ (List.mem_append_right _ (List.mem_append_right _ (List.mem_append_right _ (List.mem_append_left _ h)))))) (by decide +kernel)
theorem g_s_slopeTwice_4 : GoodIn v_s_slopeTwice (wsV RX7 47 RX7 yX7_hasBothSlopes v_s_hasBothSlopes) := goodIn_sub (fun w h => List.mem_cons_of_mem _ (List.mem_append_right _ (List.mem_append_right _ (List.mem_append_right _ (List.mem_append_right _ (List.mem_append_right _ (List.mem_append_left _ h))))))) (by decide +kernel)
theorem g_s_slopeTwice_5 : GoodIn v_s_slopeTwice (wsV RX7 51 RX7 yX7_twiceAt v_s_twiceAt) := goodIn_sub (fun w h => List.mem_cons_of_mem _ (List.mem_append_right _ (List.mem_append_right _ (List.mem_append_right _ (List.mem_append_right _ (List.mem_append_right _ (List.mem_append_right _ (List.mem_append_left _ h)))))))) (by decide +kernel)
set_option maxHeartbeats 4000000 in
set_option maxRecDepth 100000 in
theorem s_slopeTwice (l : Launch) (D : va_G) (y : Nat → ClassId) (sz : Nat) (ad : Nat → Nat) (σ : OS) (q a b : Int32) (hin0 : 0 ≤ (σ.1 137).toInt) (hin1 : (σ.1 137).toInt ≤ 8) (hrs0 : 0 ≤ (σ.1 141).toInt) (hrs1 : (σ.1 141).toInt ≤ 12) (hfs0 : 0 ≤ (σ.1 138).toInt)  (hB133 : bI (σ.2.2.1 133) 0 1358) (hB134 : bI (σ.2.2.1 134) 0 1358) (hB135 : bI (σ.2.2.1 135) 0 1358) : Met l yX7_slopeTwice v_s_slopeTwice ({ frames := 5, cells := 0, slots := 0, locals := 150 } : Room) (va_Pc [.ref (ad 170), .ref (ad 130), .int q, .int a, .int b] (xPre D (xT y) (slw y ad σ) sz)) (va_Ql (fun (r : Int64) (u : (Nat → Int32) × (Nat → Int64) × (Nat → Int64) × (Nat → Int64)) => True) (fun (u : (Nat → Int32) × (Nat → Int64) × (Nat → Int64) × (Nat → Int64)) => xB D (xT y) (va_A (slw y ad σ) sz) (slw y ad (tJ (tJ (tJ (tI σ 175 u.1) 171 u.2.1) 172 u.2.2.1) 173 u.2.2.2))) (va_A (slw y ad σ) sz)) 0 0 (va_A (slw y ad σ) sz) := by
  refine x_metl (cc := cX7_slopeTwice) (maxL := 7) (by decide) rfl (Nat.le_of_ble_eq_true rfl) ?_
  intro p e s m below meth c A H locs Q hx hb hml hown hts hr hlocks hmn hA hP hK hD hS ls hl hQ
  have hl : lv_has ls 7 [(0, .ref (ad 170)), (1, .ref (ad 130)), (2, .int q), (3, .int a), (4, .int b)] := hl
  have fl9 := hts (.fieldLink RX7 9 "SlopeRunner$Slopes" "fromOne" "[J") (List.mem_of_getElem? (i := 1) rfl)
  have inX7 : ∀ w ∈ wsX70, w ∈ v_s_slopeTwice := (fun w h => List.mem_cons_of_mem _ (List.mem_append_right _ (List.mem_append_right _ (List.mem_append_right _ (List.mem_append_right _ (List.mem_append_right _ (List.mem_append_right _ (List.mem_append_right _ (List.mem_append_left _ h)))))))))
  have fl15 := hts (.fieldLink RX7 15 "SlopeRunner$Slopes" "fromOther" "[J") (List.mem_of_getElem? (i := 2) rfl)
  have fl18 := hts (.fieldLink RX7 18 "SlopeRunner$Slopes" "fromBoth" "[J") (List.mem_of_getElem? (i := 3) rfl)
  have fl41 := hts (.fieldLink RX7 41 "SlopeRunner$Tape" "firstStep" "I") (List.mem_of_getElem? (i := 4) rfl)
  have inX8 : ∀ w ∈ wsX80, w ∈ v_s_slopeTwice := (fun w h => List.mem_cons_of_mem _ (List.mem_append_right _ (List.mem_append_right _ (List.mem_append_right _ (List.mem_append_right _ (List.mem_append_right _ (List.mem_append_right _ (List.mem_append_right _ (List.mem_append_right _ h)))))))))
  have fl25 := hts (.fieldLink RX7 25 "SlopeRunner$Slopes" "hangs" "[Z") (List.mem_of_getElem? (i := 5) rfl)
  have kk_0 : (0 : Int32).toInt = 0 := rfl
  have kk_1 : (1 : Int32).toInt = 1 := rfl
  refine lv_aload_n hx hb dX7_slopeTwice_0 rfl (lv_at hl 1 rfl) ?_
  refine lv_iload_n hx hb dX7_slopeTwice_1 rfl (lv_at hl 2 rfl) ?_
  have hPs : va_P D vwCl (tpw y ad σ) H := x_suP hP [1, 7, 8, 9, 10, 11] rfl
  have hDs : va_D A (tpw y ad σ) := x_suD hD [1, 7, 8, 9, 10, 11] rfl (by decide)
  refine x_calliS (b1 := fun (u : Unit) => (slw y ad σ)) [1, 7, 8, 9, 10, 11] (va_runV (As := [.int q]) (rest := []) ⟨hx, hb, hml, hown, hts⟩ (ka_resultAt l D y H.size ad σ q (show 0 ≤ ((σ.1 137)).toInt from by first | omega | decide) (show ((σ.1 137)).toInt ≤ 8 from by first | omega | decide) (show 0 ≤ ((σ.1 141)).toInt from by first | omega | decide) (show ((σ.1 141)).toInt ≤ 12 from by first | omega | decide) hB135) (cwV 1 hts g_s_slopeTwice_0 rfl rfl rfl (by decide +kernel) ⟨Nat.le_of_ble_eq_true rfl, Nat.le_of_ble_eq_true rfl⟩) (x_preV (q := (RX8, TX8, 13)) hK hPs hDs (ci := 7) (q0 := 0) rfl tpw_o0) rfl rfl hl.1 rfl (lv_room (Nat.le_of_ble_eq_true rfl)) dX7_slopeTwice_2 ⟨Nat.le_of_ble_eq_true rfl, Nat.le_of_ble_eq_true rfl⟩) hP hD hS hA rfl (fun _ => rfl) (fun _ => rfl) (fun _ => rfl) (fun r_1 u H locs hw hP hD hS => ?_)
  try dsimp only at hw
  have hP : va_P D vwCl (slw y ad σ) H := hP
  have hD : va_D A (slw y ad σ) := hD
  have hra := hw
  refine lv_istore (lv' := [(5, .int r_1), (0, .ref (ad 170)), (1, .ref (ad 130)), (2, .int q), (3, .int a), (4, .int b)]) hx hb dX7_slopeTwice_5 hl (by decide) rfl (fun ls hl => ?_)
  refine lv_aload_n hx hb dX7_slopeTwice_7 rfl (lv_at hl 1 rfl) ?_
  refine lv_aload_n hx hb dX7_slopeTwice_8 rfl (lv_at hl 2 rfl) ?_
  refine lv_iload hx hb dX7_slopeTwice_9 (lv_at hl 0 rfl) ?_
  refine x_callvW (va_runV (As := [.ref (ad 130), .int r_1]) (rest := []) ⟨hx, hb, hml, hown, hts⟩ (s_markHanging l D y H.size ad σ r_1 (by first | omega | decide) (by first | omega | decide) (show 0 ≤ ((σ.1 138)).toInt from by first | omega | decide) hB133 hB134) (cwV 2 hts g_s_slopeTwice_1 rfl rfl rfl (by decide +kernel) ⟨Nat.le_of_ble_eq_true rfl, Nat.le_of_ble_eq_true rfl⟩) (x_preV (q := (RX7, TX7, 5)) hK hP hD (ci := 6) (q0 := 0) rfl slw_o0) rfl rfl hl.1 rfl (lv_room (Nat.le_of_ble_eq_true rfl)) dX7_slopeTwice_11 ⟨Nat.le_of_ble_eq_true rfl, Nat.le_of_ble_eq_true rfl⟩) hP hD hS hA (fun u H locs hw hP hD hS => ?_)
  obtain ⟨f_2, rfl⟩ : ∃ z9, z9 = u := ⟨_, rfl⟩
  try dsimp only at hw
  have hP : va_P D vwCl (slw y ad (tI σ 175 f_2)) H := hP
  have hD : va_D A (slw y ad (tI σ 175 f_2)) := hD
  refine lv_aload_n hx hb dX7_slopeTwice_14 rfl (lv_at hl 1 rfl) ?_
  refine lv_aload_n hx hb dX7_slopeTwice_15 rfl (lv_at hl 2 rfl) ?_
  refine lv_iload hx hb dX7_slopeTwice_16 (lv_at hl 0 rfl) ?_
  refine lv_iload_n hx hb dX7_slopeTwice_18 rfl (lv_at hl 4 rfl) ?_
  refine lv_aload_n hx hb dX7_slopeTwice_19 rfl (lv_at hl 1 rfl) ?_
  refine va_get (D := D) (ci := 6) (v := .ref (ad 171)) (C := RX7) (T := TX7) (N := 5) hx hb hts inX7 hown hK hP 0 slw_o0 rfl 0 (by decide) fl9 (fun _ h9 => h9) rfl dX7_slopeTwice_20 ?_
  refine x_callvW (va_runV (As := [.ref (ad 130), .int r_1, .int a, .ref (ad 171)]) (rest := []) ⟨hx, hb, hml, hown, hts⟩ (s_fillSlopes1 l D y H.size ad (tI σ 175 f_2) r_1 (by first | omega | decide) (by first | omega | decide) a hB133 hB134) (cwV 4 hts g_s_slopeTwice_2 rfl rfl rfl (by decide +kernel) ⟨Nat.le_of_ble_eq_true rfl, Nat.le_of_ble_eq_true rfl⟩) (x_preV (q := (RX7, TX7, 5)) hK hP hD (ci := 6) (q0 := 0) rfl slw_o0) rfl rfl hl.1 rfl (lv_room (Nat.le_of_ble_eq_true rfl)) dX7_slopeTwice_23 ⟨Nat.le_of_ble_eq_true rfl, Nat.le_of_ble_eq_true rfl⟩) hP hD hS hA (fun u H locs hw hP hD hS => ?_)
  obtain ⟨f_3, rfl⟩ : ∃ z9, z9 = u := ⟨_, rfl⟩
  try dsimp only at hw
  have hP : va_P D vwCl (slw y ad (tJ (tI σ 175 f_2) 171 f_3)) H := hP
  have hD : va_D A (slw y ad (tJ (tI σ 175 f_2) 171 f_3)) := hD
  refine lv_aload_n hx hb dX7_slopeTwice_26 rfl (lv_at hl 1 rfl) ?_
  refine lv_aload_n hx hb dX7_slopeTwice_27 rfl (lv_at hl 2 rfl) ?_
  refine lv_iload hx hb dX7_slopeTwice_28 (lv_at hl 0 rfl) ?_
  refine lv_iload hx hb dX7_slopeTwice_30 (lv_at hl 5 rfl) ?_
  refine lv_aload_n hx hb dX7_slopeTwice_32 rfl (lv_at hl 1 rfl) ?_
  refine va_get (D := D) (ci := 6) (v := .ref (ad 172)) (C := RX7) (T := TX7) (N := 5) hx hb hts inX7 hown hK hP 0 slw_o0 rfl 1 (by decide) fl15 (fun _ h9 => h9) rfl dX7_slopeTwice_33 ?_
  refine x_callvW (va_runV (As := [.ref (ad 130), .int r_1, .int b, .ref (ad 172)]) (rest := []) ⟨hx, hb, hml, hown, hts⟩ (s_fillSlopes2 l D y H.size ad (tJ (tI σ 175 f_2) 171 f_3) r_1 (by first | omega | decide) (by first | omega | decide) b hB133 hB134) (cwV 4 hts g_s_slopeTwice_3 rfl rfl rfl (by decide +kernel) ⟨Nat.le_of_ble_eq_true rfl, Nat.le_of_ble_eq_true rfl⟩) (x_preV (q := (RX7, TX7, 5)) hK hP hD (ci := 6) (q0 := 0) rfl slw_o0) rfl rfl hl.1 rfl (lv_room (Nat.le_of_ble_eq_true rfl)) dX7_slopeTwice_36 ⟨Nat.le_of_ble_eq_true rfl, Nat.le_of_ble_eq_true rfl⟩) hP hD hS hA (fun u H locs hw hP hD hS => ?_)
  obtain ⟨f_4, rfl⟩ : ∃ z9, z9 = u := ⟨_, rfl⟩
  try dsimp only at hw
  have hP : va_P D vwCl (slw y ad (tJ (tJ (tI σ 175 f_2) 171 f_3) 172 f_4)) H := hP
  have hD : va_D A (slw y ad (tJ (tJ (tI σ 175 f_2) 171 f_3) 172 f_4)) := hD
  refine lv_iconst (v := 0) hx hb dX7_slopeTwice_39 (by decide) ?_
  refine lv_istore (lv' := [(6, .int 0), (5, .int r_1), (0, .ref (ad 170)), (1, .ref (ad 130)), (2, .int q), (3, .int a), (4, .int b)]) hx hb dX7_slopeTwice_40 hl (by decide) rfl (fun ls hl => ?_)
  have l00 : (0 : Int32).toInt = 0 := rfl
  have hP : va_P D vwCl (slw y ad (tJ (tJ (tJ (tI σ 175 f_2) 171 f_3) 172 f_4) 173 (σ.2.2.2 173))) H := hP
  have hD : va_D A (slw y ad (tJ (tJ (tJ (tI σ 175 f_2) 171 f_3) 172 f_4) 173 (σ.2.2.2 173))) := hD
  have loop : ∀ (fu : Nat) (i9 : Int32) (fh : Nat → Int64) (H : Heap) (locs : List Loc) (ls : Array Slot), (0 ≤ i9.toInt) → (i9.toInt ≤ r_1.toInt + 1) → (r_1.toInt + 1 - i9.toInt < (fu : Int)) → va_P D vwCl (slw y ad (tJ (tJ (tJ (tI σ 175 f_2) 171 f_3) 172 f_4) 173 fh)) H → va_D A (slw y ad (tJ (tJ (tJ (tI σ 175 f_2) 171 f_3) 172 f_4) 173 fh)) → va_S A s.heap H locs → lv_has ls 7 [(6, .int i9), (5, .int r_1), (4, .int b), (3, .int a), (2, .int q), (1, .ref (ad 130)), (0, .ref (ad 170))] → W p l e ({ frames := 5, cells := 0, slots := 0, locals := 150 } : Room) s m ([.ref (ad 170), .ref (ad 130), .int q, .int a, .int b] : List Value).toArray below meth c H locs 0 0 Q (F0 m 42 ls []) := by
    intro fu
    induction fu with
    | zero =>
      intro i9 fh H locs ls hi0 hi1 hm
      exact absurd hm (by omega)
    | succ fu ih_loop =>
      intro i9 fh H locs ls hi0 hi1 hm hP hD hS hl
      refine lv_iload hx hb dX7_slopeTwice_42 (lv_at hl 0 rfl) ?_
      refine lv_iload hx hb dX7_slopeTwice_44 (lv_at hl 1 rfl) ?_
      refine lv_icmp_gt (tgt := 112) hx hb dX7_slopeTwice_46 (by decide) (fun c_5 => ?_) (fun c_5 => ?_)
      · have kc_5 : i9.toInt > r_1.toInt := by have h9 := c_5; simp only [ge_iff_le, gt_iff_lt, x_lt, x_le, x_eq, ne_eq, Int32.not_lt, Int32.not_le] at h9; omega
        refine lv_aload_n hx hb dX7_slopeTwice_112 rfl (lv_at hl 6 rfl) ?_
        refine va_get (D := D) (ci := 6) (v := .ref (ad 173)) (C := RX7) (T := TX7) (N := 5) hx hb hts inX7 hown hK hP 0 slw_o0 rfl 2 (by decide) fl18 (fun _ h9 => h9) rfl dX7_slopeTwice_113 ?_
        refine lv_iload hx hb dX7_slopeTwice_116 (lv_at hl 1 rfl) ?_
        refine va_lald hx hb hK hP 4 3 slw_a4 rfl (x_in (by omega) (by omega)) dX7_slopeTwice_118 ?_
        refine lv_topl (fun j_6 ej_6 => ?_)
        have ej_6 : j_6 = fh (Int32.toNatClampNeg r_1) := ej_6
        exact x_lretW (v := j_6) (u := (f_2, f_3, f_4, fh)) hx hb hr hQ trivial hP hD hK hS dX7_slopeTwice_119 hlocks
      · have kc_5 : i9.toInt ≤ r_1.toInt := by have h9 := c_5; simp only [ge_iff_le, gt_iff_lt, x_lt, x_le, x_eq, ne_eq, Int32.not_lt, Int32.not_le] at h9; omega
        refine lv_iload hx hb dX7_slopeTwice_49 (lv_at hl 0 rfl) ?_
        refine lv_aload_n hx hb dX7_slopeTwice_51 rfl (lv_at hl 5 rfl) ?_
        refine va_get (D := D) (ci := 7) (v := .int (σ.1 138)) (C := RX8) (T := TX8) (N := 13) hx hb hts inX8 hown hK hP 1 slw_o1 rfl 7 (by decide) fl41 (fun _ h9 => h9) rfl dX7_slopeTwice_52 ?_
        refine lv_icmp_ge (tgt := 69) hx hb dX7_slopeTwice_55 (by decide) (fun c_7 => ?_) (fun c_7 => ?_)
        · have kc_7 : i9.toInt ≥ (σ.1 138).toInt := by have h9 := c_7; simp only [ge_iff_le, gt_iff_lt, x_lt, x_le, x_eq, ne_eq, Int32.not_lt, Int32.not_le] at h9; omega
          refine lv_aload_n hx hb dX7_slopeTwice_69 rfl (lv_at hl 6 rfl) ?_
          refine va_get (D := D) (ci := 6) (v := .ref (ad 175)) (C := RX7) (T := TX7) (N := 5) hx hb hts inX7 hown hK hP 0 slw_o0 rfl 4 (by decide) fl25 (fun _ h9 => h9) rfl dX7_slopeTwice_70 ?_
          refine lv_iload hx hb dX7_slopeTwice_73 (lv_at hl 0 rfl) ?_
          refine va_zald hx hb hK hP 6 4 slw_a6 rfl (x_in (by omega) (by omega)) dX7_slopeTwice_75 ?_
          refine lv_topi (fun i_8 ei_8 => ?_)
          have ei_8 : i_8 = f_2 (Int32.toNatClampNeg i9) := ei_8
          refine lv_if_eq (tgt := 106) hx hb dX7_slopeTwice_76 (by decide) (fun c_9 => ?_) (fun c_9 => ?_)
          · have kc_9 : i_8.toInt = 0 := by have h9 := c_9; simp only [ge_iff_le, gt_iff_lt, x_lt, x_le, x_eq, ne_eq, Int32.not_lt, Int32.not_le] at h9; simp only [Int32.reduceToInt] at h9; omega
            obtain ⟨i_10, ei_10⟩ : ∃ z9 : Int32, z9 = i9 + 1 := ⟨_, rfl⟩
            have vi_10 : i_10.toInt = i9.toInt + 1 := by have h9 := x_add ei_10 (by omega) (by omega); omega
            refine lv_iinc (v := i_10) (lv' := [(6, .int i_10), (5, .int r_1), (4, .int b), (3, .int a), (2, .int q), (1, .ref (ad 130)), (0, .ref (ad 170))]) hx hb dX7_slopeTwice_106 hl (k := 0) rfl (by rw [ei_10]; rfl) (by decide) rfl (fun ls hl => ?_)
            refine lv_goto (tgt := 42) hx hb dX7_slopeTwice_109 (by decide) ?_
            exact ih_loop i_10 fh H locs ls (by omega) (by omega) (by omega) hP hD hS (lv_sub hl [0, 1, 2, 3, 4, 5, 6] rfl)
          · have kc_9 : i_8.toInt ≠ 0 := by have h9 := c_9; simp only [ge_iff_le, gt_iff_lt, x_lt, x_le, x_eq, ne_eq, Int32.not_lt, Int32.not_le] at h9; simp only [Int32.reduceToInt] at h9; omega
            refine lv_aload_n hx hb dX7_slopeTwice_79 rfl (lv_at hl 6 rfl) ?_
            refine va_get (D := D) (ci := 6) (v := .ref (ad 173)) (C := RX7) (T := TX7) (N := 5) hx hb hts inX7 hown hK hP 0 slw_o0 rfl 2 (by decide) fl18 (fun _ h9 => h9) rfl dX7_slopeTwice_80 ?_
            refine lv_iload hx hb dX7_slopeTwice_83 (lv_at hl 0 rfl) ?_
            refine lv_aload_n hx hb dX7_slopeTwice_85 rfl (lv_at hl 6 rfl) ?_
            refine lv_iload hx hb dX7_slopeTwice_86 (lv_at hl 0 rfl) ?_
            refine x_calliW (va_runV (As := [.int i9]) (rest := [.int i9, .ref (ad 173)]) ⟨hx, hb, hml, hown, hts⟩ (s_hasBothSlopes l D y H.size ad (tJ (tJ (tJ (tI σ 175 f_2) 171 f_3) 172 f_4) 173 fh) i9 (by first | omega | decide) (by first | omega | decide)) (cwV 1 hts g_s_slopeTwice_4 rfl rfl rfl (by decide +kernel) ⟨Nat.le_of_ble_eq_true rfl, Nat.le_of_ble_eq_true rfl⟩) (x_preV (q := (RX7, TX7, 5)) hK hP hD (ci := 6) (q0 := 0) rfl slw_o0) rfl rfl hl.1 rfl (lv_room (Nat.le_of_ble_eq_true rfl)) dX7_slopeTwice_88 ⟨Nat.le_of_ble_eq_true rfl, Nat.le_of_ble_eq_true rfl⟩) hP hD hS hA (fun r_11 u H locs hw hP hD hS => ?_)
            try dsimp only at hw
            have hP : va_P D vwCl (slw y ad (tJ (tJ (tJ (tI σ 175 f_2) 171 f_3) 172 f_4) 173 fh)) H := hP
            have hD : va_D A (slw y ad (tJ (tJ (tJ (tI σ 175 f_2) 171 f_3) 172 f_4) 173 fh)) := hD
            refine lv_if_eq (tgt := 104) hx hb dX7_slopeTwice_91 (by decide) (fun c_12 => ?_) (fun c_12 => ?_)
            · have kc_12 : r_11.toInt = 0 := by have h9 := c_12; simp only [ge_iff_le, gt_iff_lt, x_lt, x_le, x_eq, ne_eq, Int32.not_lt, Int32.not_le] at h9; simp only [Int32.reduceToInt] at h9; omega
              refine lv_lconst (v := 0) hx hb dX7_slopeTwice_104 (by decide) ?_
              refine va_last hx hb hK hP hD hS 4 3 slw_a4 rfl (x_in (by omega) (by omega)) dX7_slopeTwice_105 (fun H locs hP hD hS => ?_)
              obtain ⟨f_13, ef_13⟩ : ∃ z9 : Nat → Int64, z9 = (vp_updL fh (Int32.toNatClampNeg i9) 0) := ⟨_, rfl⟩
              have hP : va_P D vwCl (slw y ad (tJ (tJ (tJ (tJ (tI σ 175 f_2) 171 f_3) 172 f_4) 173 fh) 173 f_13)) H := by rw [ef_13]; exact x_trP hP slw_s4
              have hD : va_D A (slw y ad (tJ (tJ (tJ (tJ (tI σ 175 f_2) 171 f_3) 172 f_4) 173 fh) 173 f_13)) := by rw [ef_13]; exact x_trD hD slw_s4
              obtain ⟨i_14, ei_14⟩ : ∃ z9 : Int32, z9 = i9 + 1 := ⟨_, rfl⟩
              have vi_14 : i_14.toInt = i9.toInt + 1 := by have h9 := x_add ei_14 (by omega) (by omega); omega
              refine lv_iinc (v := i_14) (lv' := [(6, .int i_14), (5, .int r_1), (4, .int b), (3, .int a), (2, .int q), (1, .ref (ad 130)), (0, .ref (ad 170))]) hx hb dX7_slopeTwice_106 hl (k := 0) rfl (by rw [ei_14]; rfl) (by decide) rfl (fun ls hl => ?_)
              refine lv_goto (tgt := 42) hx hb dX7_slopeTwice_109 (by decide) ?_
              have hP : va_P D vwCl (slw y ad (tJ (tJ (tJ (tI σ 175 f_2) 171 f_3) 172 f_4) 173 f_13)) H := hP
              have hD : va_D A (slw y ad (tJ (tJ (tJ (tI σ 175 f_2) 171 f_3) 172 f_4) 173 f_13)) := hD
              exact ih_loop i_14 f_13 H locs ls (by omega) (by omega) (by omega) hP hD hS (lv_sub hl [0, 1, 2, 3, 4, 5, 6] rfl)
            · have kc_12 : r_11.toInt ≠ 0 := by have h9 := c_12; simp only [ge_iff_le, gt_iff_lt, x_lt, x_le, x_eq, ne_eq, Int32.not_lt, Int32.not_le] at h9; simp only [Int32.reduceToInt] at h9; omega
              refine lv_aload_n hx hb dX7_slopeTwice_94 rfl (lv_at hl 6 rfl) ?_
              refine lv_aload_n hx hb dX7_slopeTwice_95 rfl (lv_at hl 5 rfl) ?_
              refine lv_iload hx hb dX7_slopeTwice_96 (lv_at hl 0 rfl) ?_
              refine x_calllW (va_runV (As := [.ref (ad 130), .int i9]) (rest := [.int i9, .ref (ad 173)]) ⟨hx, hb, hml, hown, hts⟩ (s_twiceAt l D y H.size ad (tJ (tJ (tJ (tI σ 175 f_2) 171 f_3) 172 f_4) 173 fh) i9 (by first | omega | decide) (by first | omega | decide) hB133 hB134) (cwV 2 hts g_s_slopeTwice_5 rfl rfl rfl (by decide +kernel) ⟨Nat.le_of_ble_eq_true rfl, Nat.le_of_ble_eq_true rfl⟩) (x_preV (q := (RX7, TX7, 5)) hK hP hD (ci := 6) (q0 := 0) rfl slw_o0) rfl rfl hl.1 rfl (lv_room (Nat.le_of_ble_eq_true rfl)) dX7_slopeTwice_98 ⟨Nat.le_of_ble_eq_true rfl, Nat.le_of_ble_eq_true rfl⟩) hP hD hS hA (fun r_15 u H locs hw hP hD hS => ?_)
              try dsimp only at hw
              have hP : va_P D vwCl (slw y ad (tJ (tJ (tJ (tI σ 175 f_2) 171 f_3) 172 f_4) 173 fh)) H := hP
              have hD : va_D A (slw y ad (tJ (tJ (tJ (tI σ 175 f_2) 171 f_3) 172 f_4) 173 fh)) := hD
              refine lv_goto (tgt := 105) hx hb dX7_slopeTwice_101 (by decide) ?_
              refine va_last hx hb hK hP hD hS 4 3 slw_a4 rfl (x_in (by omega) (by omega)) dX7_slopeTwice_105 (fun H locs hP hD hS => ?_)
              obtain ⟨f_16, ef_16⟩ : ∃ z9 : Nat → Int64, z9 = (vp_updL fh (Int32.toNatClampNeg i9) r_15) := ⟨_, rfl⟩
              have hP : va_P D vwCl (slw y ad (tJ (tJ (tJ (tJ (tI σ 175 f_2) 171 f_3) 172 f_4) 173 fh) 173 f_16)) H := by rw [ef_16]; exact x_trP hP slw_s4
              have hD : va_D A (slw y ad (tJ (tJ (tJ (tJ (tI σ 175 f_2) 171 f_3) 172 f_4) 173 fh) 173 f_16)) := by rw [ef_16]; exact x_trD hD slw_s4
              obtain ⟨i_17, ei_17⟩ : ∃ z9 : Int32, z9 = i9 + 1 := ⟨_, rfl⟩
              have vi_17 : i_17.toInt = i9.toInt + 1 := by have h9 := x_add ei_17 (by omega) (by omega); omega
              refine lv_iinc (v := i_17) (lv' := [(6, .int i_17), (5, .int r_1), (4, .int b), (3, .int a), (2, .int q), (1, .ref (ad 130)), (0, .ref (ad 170))]) hx hb dX7_slopeTwice_106 hl (k := 0) rfl (by rw [ei_17]; rfl) (by decide) rfl (fun ls hl => ?_)
              refine lv_goto (tgt := 42) hx hb dX7_slopeTwice_109 (by decide) ?_
              have hP : va_P D vwCl (slw y ad (tJ (tJ (tJ (tI σ 175 f_2) 171 f_3) 172 f_4) 173 f_16)) H := hP
              have hD : va_D A (slw y ad (tJ (tJ (tJ (tI σ 175 f_2) 171 f_3) 172 f_4) 173 f_16)) := hD
              exact ih_loop i_17 f_16 H locs ls (by omega) (by omega) (by omega) hP hD hS (lv_sub hl [0, 1, 2, 3, 4, 5, 6] rfl)
        · have kc_7 : i9.toInt < (σ.1 138).toInt := by have h9 := c_7; simp only [ge_iff_le, gt_iff_lt, x_lt, x_le, x_eq, ne_eq, Int32.not_lt, Int32.not_le] at h9; omega
          refine lv_aload_n hx hb dX7_slopeTwice_58 rfl (lv_at hl 6 rfl) ?_
          refine va_get (D := D) (ci := 6) (v := .ref (ad 173)) (C := RX7) (T := TX7) (N := 5) hx hb hts inX7 hown hK hP 0 slw_o0 rfl 2 (by decide) fl18 (fun _ h9 => h9) rfl dX7_slopeTwice_59 ?_
          refine lv_iload hx hb dX7_slopeTwice_62 (lv_at hl 0 rfl) ?_
          refine lv_lconst (v := 1) hx hb dX7_slopeTwice_64 (by decide) ?_
          refine va_last hx hb hK hP hD hS 4 3 slw_a4 rfl (x_in (by omega) (by omega)) dX7_slopeTwice_65 (fun H locs hP hD hS => ?_)
          obtain ⟨f_18, ef_18⟩ : ∃ z9 : Nat → Int64, z9 = (vp_updL fh (Int32.toNatClampNeg i9) 1) := ⟨_, rfl⟩
          have hP : va_P D vwCl (slw y ad (tJ (tJ (tJ (tJ (tI σ 175 f_2) 171 f_3) 172 f_4) 173 fh) 173 f_18)) H := by rw [ef_18]; exact x_trP hP slw_s4
          have hD : va_D A (slw y ad (tJ (tJ (tJ (tJ (tI σ 175 f_2) 171 f_3) 172 f_4) 173 fh) 173 f_18)) := by rw [ef_18]; exact x_trD hD slw_s4
          refine lv_goto (tgt := 106) hx hb dX7_slopeTwice_66 (by decide) ?_
          obtain ⟨i_19, ei_19⟩ : ∃ z9 : Int32, z9 = i9 + 1 := ⟨_, rfl⟩
          have vi_19 : i_19.toInt = i9.toInt + 1 := by have h9 := x_add ei_19 (by omega) (by omega); omega
          refine lv_iinc (v := i_19) (lv' := [(6, .int i_19), (5, .int r_1), (4, .int b), (3, .int a), (2, .int q), (1, .ref (ad 130)), (0, .ref (ad 170))]) hx hb dX7_slopeTwice_106 hl (k := 0) rfl (by rw [ei_19]; rfl) (by decide) rfl (fun ls hl => ?_)
          refine lv_goto (tgt := 42) hx hb dX7_slopeTwice_109 (by decide) ?_
          have hP : va_P D vwCl (slw y ad (tJ (tJ (tJ (tI σ 175 f_2) 171 f_3) 172 f_4) 173 f_18)) H := hP
          have hD : va_D A (slw y ad (tJ (tJ (tJ (tI σ 175 f_2) 171 f_3) 172 f_4) 173 f_18)) := hD
          exact ih_loop i_19 f_18 H locs ls (by omega) (by omega) (by omega) hP hD hS (lv_sub hl [0, 1, 2, 3, 4, 5, 6] rfl)
  exact loop 1360 0 (σ.2.2.2 173) H locs ls (by decide) (by omega) (by omega) hP hD hS (lv_sub hl [0, 1, 6, 5, 4, 3, 2] rfl)

def v_s_slopeBackward : List Cond := .code yX7_slopeBackward cX7_slopeBackward 7 (some .long) :: ([.fieldLink RX7 9 "SlopeRunner$Slopes" "fromOne" "[J", .fieldLink RX7 41 "SlopeRunner$Tape" "firstStep" "I", .constantLong RX7 55 1073741825] ++ ((wsV RX7 29 RX8 yX8_resultAt v_ka_resultAt) ++ ((wsS RX7 57 yX7_handBack v_s_handBack) ++ (wsX70 ++ wsX80))))
theorem g_s_slopeBackward_0 : GoodIn v_s_slopeBackward (wsV RX7 29 RX8 yX8_resultAt v_ka_resultAt) := goodIn_sub (fun w h => List.mem_cons_of_mem _ (List.mem_append_right _ (List.mem_append_left _ h))) (by decide +kernel)
theorem g_s_slopeBackward_1 : GoodIn v_s_slopeBackward (wsS RX7 57 yX7_handBack v_s_handBack) := goodIn_sub (fun w h => List.mem_cons_of_mem _ (List.mem_append_right _ (List.mem_append_right _ (List.mem_append_left _ h)))) (by decide +kernel)
set_option maxHeartbeats 4000000 in
set_option maxRecDepth 100000 in
theorem s_slopeBackward (l : Launch) (D : va_G) (y : Nat → ClassId) (sz : Nat) (ad : Nat → Nat) (σ : OS) (q i : Int32) (hii : 0 ≤ i.toInt) (hin0 : 0 ≤ (σ.1 137).toInt) (hin1 : (σ.1 137).toInt ≤ 8) (hrs0 : 0 ≤ (σ.1 141).toInt) (hrs1 : (σ.1 141).toInt ≤ 12) (hfs0 : 0 ≤ (σ.1 138).toInt)  (hB133 : bI (σ.2.2.1 133) 0 1358) (hB134 : bI (σ.2.2.1 134) 0 1358) (hB135 : bI (σ.2.2.1 135) 0 1358) : Met l yX7_slopeBackward v_s_slopeBackward ({ frames := 5, cells := 0, slots := 0, locals := 145 } : Room) (va_Pc [.ref (ad 170), .ref (ad 130), .int q, .int i] (xPre D (xT y) (slw y ad σ) sz)) (va_Ql (fun (r : Int64) (u : (Nat → Int64)) => True) (fun (u : (Nat → Int64)) => xB D (xT y) (va_A (slw y ad σ) sz) (slw y ad (tJ σ 171 u))) (va_A (slw y ad σ) sz)) 0 0 (va_A (slw y ad σ) sz) := by
  refine x_metl (cc := cX7_slopeBackward) (maxL := 7) (by decide) rfl (Nat.le_of_ble_eq_true rfl) ?_
  intro p e s m below meth c A H locs Q hx hb hml hown hts hr hlocks hmn hA hP hK hD hS ls hl hQ
  have hl : lv_has ls 7 [(0, .ref (ad 170)), (1, .ref (ad 130)), (2, .int q), (3, .int i)] := hl
  have fl9 := hts (.fieldLink RX7 9 "SlopeRunner$Slopes" "fromOne" "[J") (List.mem_of_getElem? (i := 1) rfl)
  have inX7 : ∀ w ∈ wsX70, w ∈ v_s_slopeBackward := (fun w h => List.mem_cons_of_mem _ (List.mem_append_right _ (List.mem_append_right _ (List.mem_append_right _ (List.mem_append_left _ h)))))
  have fl41 := hts (.fieldLink RX7 41 "SlopeRunner$Tape" "firstStep" "I") (List.mem_of_getElem? (i := 2) rfl)
  have inX8 : ∀ w ∈ wsX80, w ∈ v_s_slopeBackward := (fun w h => List.mem_cons_of_mem _ (List.mem_append_right _ (List.mem_append_right _ (List.mem_append_right _ (List.mem_append_right _ h)))))
  have kk_m1 : ((-1) : Int32).toInt = -1 := rfl
  have kk_0 : (0 : Int32).toInt = 0 := rfl
  have kk_1 : (1 : Int32).toInt = 1 := rfl
  refine lv_aload_n hx hb dX7_slopeBackward_0 rfl (lv_at hl 1 rfl) ?_
  refine lv_iload_n hx hb dX7_slopeBackward_1 rfl (lv_at hl 2 rfl) ?_
  have hPs : va_P D vwCl (tpw y ad σ) H := x_suP hP [1, 7, 8, 9, 10, 11] rfl
  have hDs : va_D A (tpw y ad σ) := x_suD hD [1, 7, 8, 9, 10, 11] rfl (by decide)
  refine x_calliS (b1 := fun (u : Unit) => (slw y ad σ)) [1, 7, 8, 9, 10, 11] (va_runV (As := [.int q]) (rest := []) ⟨hx, hb, hml, hown, hts⟩ (ka_resultAt l D y H.size ad σ q (show 0 ≤ ((σ.1 137)).toInt from by first | omega | decide) (show ((σ.1 137)).toInt ≤ 8 from by first | omega | decide) (show 0 ≤ ((σ.1 141)).toInt from by first | omega | decide) (show ((σ.1 141)).toInt ≤ 12 from by first | omega | decide) hB135) (cwV 1 hts g_s_slopeBackward_0 rfl rfl rfl (by decide +kernel) ⟨Nat.le_of_ble_eq_true rfl, Nat.le_of_ble_eq_true rfl⟩) (x_preV (q := (RX8, TX8, 13)) hK hPs hDs (ci := 7) (q0 := 0) rfl tpw_o0) rfl rfl hl.1 rfl (lv_room (Nat.le_of_ble_eq_true rfl)) dX7_slopeBackward_2 ⟨Nat.le_of_ble_eq_true rfl, Nat.le_of_ble_eq_true rfl⟩) hP hD hS hA rfl (fun _ => rfl) (fun _ => rfl) (fun _ => rfl) (fun r_1 u H locs hw hP hD hS => ?_)
  try dsimp only at hw
  have hP : va_P D vwCl (slw y ad σ) H := hP
  have hD : va_D A (slw y ad σ) := hD
  have hra := hw
  refine lv_istore (lv' := [(4, .int r_1), (0, .ref (ad 170)), (1, .ref (ad 130)), (2, .int q), (3, .int i)]) hx hb dX7_slopeBackward_5 hl (by decide) rfl (fun ls hl => ?_)
  refine lv_aload_n hx hb dX7_slopeBackward_7 rfl (lv_at hl 1 rfl) ?_
  refine va_get (D := D) (ci := 6) (v := .ref (ad 171)) (C := RX7) (T := TX7) (N := 5) hx hb hts inX7 hown hK hP 0 slw_o0 rfl 0 (by decide) fl9 (fun _ h9 => h9) rfl dX7_slopeBackward_8 ?_
  refine lv_astore (lv' := [(5, .ref (ad 171)), (4, .int r_1), (0, .ref (ad 170)), (1, .ref (ad 130)), (2, .int q), (3, .int i)]) hx hb dX7_slopeBackward_11 hl (by decide) rfl (fun ls hl => ?_)
  refine lv_iconst (v := 0) hx hb dX7_slopeBackward_13 (by decide) ?_
  refine lv_istore (lv' := [(6, .int 0), (5, .ref (ad 171)), (4, .int r_1), (0, .ref (ad 170)), (1, .ref (ad 130)), (2, .int q), (3, .int i)]) hx hb dX7_slopeBackward_14 hl (by decide) rfl (fun ls hl => ?_)
  have l00 : (0 : Int32).toInt = 0 := rfl
  have hP : va_P D vwCl (slw y ad (tJ σ 171 (σ.2.2.2 171))) H := hP
  have hD : va_D A (slw y ad (tJ σ 171 (σ.2.2.2 171))) := hD
  have loop : ∀ (fu : Nat) (i9 : Int32) (fh : Nat → Int64) (H : Heap) (locs : List Loc) (ls : Array Slot), (0 ≤ i9.toInt) → (i9.toInt ≤ r_1.toInt + 1) → (r_1.toInt + 1 - i9.toInt < (fu : Int)) → va_P D vwCl (slw y ad (tJ σ 171 fh)) H → va_D A (slw y ad (tJ σ 171 fh)) → va_S A s.heap H locs → lv_has ls 7 [(6, .int i9), (5, .ref (ad 171)), (4, .int r_1), (3, .int i), (2, .int q), (1, .ref (ad 130)), (0, .ref (ad 170))] → W p l e ({ frames := 5, cells := 0, slots := 0, locals := 145 } : Room) s m ([.ref (ad 170), .ref (ad 130), .int q, .int i] : List Value).toArray below meth c H locs 0 0 Q (F0 m 16 ls []) := by
    intro fu
    induction fu with
    | zero =>
      intro i9 fh H locs ls hi0 hi1 hm
      exact absurd hm (by omega)
    | succ fu ih_loop =>
      intro i9 fh H locs ls hi0 hi1 hm hP hD hS hl
      refine lv_iload hx hb dX7_slopeBackward_16 (lv_at hl 0 rfl) ?_
      refine lv_iload hx hb dX7_slopeBackward_18 (lv_at hl 2 rfl) ?_
      refine lv_icmp_gt (tgt := 48) hx hb dX7_slopeBackward_20 (by decide) (fun c_2 => ?_) (fun c_2 => ?_)
      · have kc_2 : i9.toInt > r_1.toInt := by have h9 := c_2; simp only [ge_iff_le, gt_iff_lt, x_lt, x_le, x_eq, ne_eq, Int32.not_lt, Int32.not_le] at h9; omega
        refine lv_iload hx hb dX7_slopeBackward_48 (lv_at hl 2 rfl) ?_
        refine lv_istore (lv' := [(6, .int r_1), (5, .ref (ad 171)), (4, .int r_1), (3, .int i), (2, .int q), (1, .ref (ad 130)), (0, .ref (ad 170))]) hx hb dX7_slopeBackward_50 hl (by decide) rfl (fun ls hl => ?_)
        have loop2 : ∀ (fu : Nat) (j : Int32) (fg : Nat → Int64) (H : Heap) (locs : List Loc) (ls : Array Slot), (-1 ≤ j.toInt) → (j.toInt ≤ r_1.toInt) → (j.toInt + 1 < (fu : Int)) → va_P D vwCl (slw y ad (tJ σ 171 fg)) H → va_D A (slw y ad (tJ σ 171 fg)) → va_S A s.heap H locs → lv_has ls 7 [(6, .int j), (5, .ref (ad 171)), (4, .int r_1), (3, .int i), (2, .int q), (1, .ref (ad 130)), (0, .ref (ad 170))] → W p l e ({ frames := 5, cells := 0, slots := 0, locals := 145 } : Room) s m ([.ref (ad 170), .ref (ad 130), .int q, .int i] : List Value).toArray below meth c H locs 0 0 Q (F0 m 52 ls []) := by
          intro fu
          induction fu with
          | zero =>
            intro j fg H locs ls hj0 hj1 hm
            exact absurd hm (by omega)
          | succ fu ih_loop2 =>
            intro j fg H locs ls hj0 hj1 hm hP hD hS hl
            refine lv_iload hx hb dX7_slopeBackward_52 (lv_at hl 0 rfl) ?_
            refine lv_aload_n hx hb dX7_slopeBackward_54 rfl (lv_at hl 5 rfl) ?_
            refine va_get (D := D) (ci := 7) (v := .int (σ.1 138)) (C := RX8) (T := TX8) (N := 13) hx hb hts inX8 hown hK hP 1 slw_o1 rfl 7 (by decide) fl41 (fun _ h9 => h9) rfl dX7_slopeBackward_55 ?_
            refine lv_icmp_lt (tgt := 90) hx hb dX7_slopeBackward_58 (by decide) (fun c_3 => ?_) (fun c_3 => ?_)
            · have kc_3 : j.toInt < (σ.1 138).toInt := by have h9 := c_3; simp only [ge_iff_le, gt_iff_lt, x_lt, x_le, x_eq, ne_eq, Int32.not_lt, Int32.not_le] at h9; omega
              refine lv_iload_n hx hb dX7_slopeBackward_90 rfl (lv_at hl 3 rfl) ?_
              refine lv_iload hx hb dX7_slopeBackward_91 (lv_at hl 2 rfl) ?_
              refine lv_icmp_gt (tgt := 103) hx hb dX7_slopeBackward_93 (by decide) (fun c_4 => ?_) (fun c_4 => ?_)
              · have kc_4 : i.toInt > r_1.toInt := by have h9 := c_4; simp only [ge_iff_le, gt_iff_lt, x_lt, x_le, x_eq, ne_eq, Int32.not_lt, Int32.not_le] at h9; omega
                refine lv_lconst (v := 1) hx hb dX7_slopeBackward_103 (by decide) ?_
                exact x_lretW (v := 1) (u := fg) hx hb hr hQ trivial hP hD hK hS dX7_slopeBackward_104 hlocks
              · have kc_4 : i.toInt ≤ r_1.toInt := by have h9 := c_4; simp only [ge_iff_le, gt_iff_lt, x_lt, x_le, x_eq, ne_eq, Int32.not_lt, Int32.not_le] at h9; omega
                refine lv_aload hx hb dX7_slopeBackward_96 (lv_at hl 1 rfl) ?_
                refine lv_iload_n hx hb dX7_slopeBackward_98 rfl (lv_at hl 3 rfl) ?_
                refine va_lald hx hb hK hP 2 3 slw_a2 rfl (x_in (by omega) (by omega)) dX7_slopeBackward_99 ?_
                refine lv_topl (fun j_5 ej_5 => ?_)
                have ej_5 : j_5 = fg (Int32.toNatClampNeg i) := ej_5
                refine lv_goto (tgt := 104) hx hb dX7_slopeBackward_100 (by decide) ?_
                exact x_lretW (v := j_5) (u := fg) hx hb hr hQ trivial hP hD hK hS dX7_slopeBackward_104 hlocks
            · have kc_3 : j.toInt ≥ (σ.1 138).toInt := by have h9 := c_3; simp only [ge_iff_le, gt_iff_lt, x_lt, x_le, x_eq, ne_eq, Int32.not_lt, Int32.not_le] at h9; omega
              refine lv_aload hx hb dX7_slopeBackward_61 (lv_at hl 1 rfl) ?_
              refine lv_iload hx hb dX7_slopeBackward_63 (lv_at hl 0 rfl) ?_
              refine va_lald hx hb hK hP 2 3 slw_a2 rfl (x_in (by omega) (by omega)) dX7_slopeBackward_65 ?_
              refine lv_topl (fun j_6 ej_6 => ?_)
              have ej_6 : j_6 = fg (Int32.toNatClampNeg j) := ej_6
              refine lv_lconst (v := 1) hx hb dX7_slopeBackward_66 (by decide) ?_
              refine W.lcmp hx hb dX7_slopeBackward_67 ?_
              refine lv_if_eq (tgt := 84) hx hb dX7_slopeBackward_68 (by decide) (fun c_7 => ?_) (fun c_7 => ?_)
              · have kc_7 : j_6.toInt = 1 := by have h9 := x_tri j_6 (1 : Int64); (try simp only [Int64.reduceToInt] at h9); rcases h9 with ⟨g1, g2⟩ | ⟨g1, g2⟩ | ⟨g1, g2⟩ <;> first | omega | (exfalso; rw [g1] at c_7; revert c_7; decide)
                obtain ⟨i_8, ei_8⟩ : ∃ z9 : Int32, z9 = j + (-1) := ⟨_, rfl⟩
                have vi_8 : i_8.toInt = j.toInt + (-1) := by have h9 := x_add ei_8 (by omega) (by omega); omega
                refine lv_iinc (v := i_8) (lv' := [(6, .int i_8), (5, .ref (ad 171)), (4, .int r_1), (3, .int i), (2, .int q), (1, .ref (ad 130)), (0, .ref (ad 170))]) hx hb dX7_slopeBackward_84 hl (k := 0) rfl (by rw [ei_8]; rfl) (by decide) rfl (fun ls hl => ?_)
                refine lv_goto (tgt := 52) hx hb dX7_slopeBackward_87 (by decide) ?_
                exact ih_loop2 i_8 fg H locs ls (by omega) (by omega) (by omega) hP hD hS (lv_sub hl [0, 1, 2, 3, 4, 5, 6] rfl)
              · have kc_7 : j_6.toInt ≠ 1 := by have h9 := x_tri j_6 (1 : Int64); (try simp only [Int64.reduceToInt] at h9); rcases h9 with ⟨g1, g2⟩ | ⟨g1, g2⟩ | ⟨g1, g2⟩ <;> first | omega | (exfalso; rw [g1] at c_7; revert c_7; decide)
                refine lv_aload_n hx hb dX7_slopeBackward_71 rfl (lv_at hl 5 rfl) ?_
                refine lv_iload hx hb dX7_slopeBackward_72 (lv_at hl 0 rfl) ?_
                refine lv_aload hx hb dX7_slopeBackward_74 (lv_at hl 1 rfl) ?_
                refine x_calliW (va_runS (As := [.ref (ad 130), .int j, .ref (ad 171)]) (rest := []) ⟨hx, hb, hml, hown, hts⟩ (s_handBack l D y H.size ad (tJ σ 171 fg) j (by first | omega | decide) (by first | omega | decide) hB133 hB134) (cwS 3 hts g_s_slopeBackward_1 rfl rfl rfl (by decide +kernel) ⟨Nat.le_of_ble_eq_true rfl, Nat.le_of_ble_eq_true rfl⟩) (x_preS hK hP hD) rfl rfl hl.1 rfl (lv_room (Nat.le_of_ble_eq_true rfl)) dX7_slopeBackward_76 ⟨Nat.le_of_ble_eq_true rfl, Nat.le_of_ble_eq_true rfl⟩) hP hD hS hA (fun r_9 u H locs hw hP hD hS => ?_)
                obtain ⟨f_10, rfl⟩ : ∃ z9, z9 = u := ⟨_, rfl⟩
                try dsimp only at hw
                have hP : va_P D vwCl (slw y ad (tJ (tJ σ 171 fg) 171 f_10)) H := hP
                have hD : va_D A (slw y ad (tJ (tJ σ 171 fg) 171 f_10)) := hD
                refine lv_if_ne (tgt := 84) hx hb dX7_slopeBackward_79 (by decide) (fun c_11 => ?_) (fun c_11 => ?_)
                · have kc_11 : r_9.toInt ≠ 0 := by have h9 := c_11; simp only [ge_iff_le, gt_iff_lt, x_lt, x_le, x_eq, ne_eq, Int32.not_lt, Int32.not_le] at h9; simp only [Int32.reduceToInt] at h9; omega
                  obtain ⟨i_12, ei_12⟩ : ∃ z9 : Int32, z9 = j + (-1) := ⟨_, rfl⟩
                  have vi_12 : i_12.toInt = j.toInt + (-1) := by have h9 := x_add ei_12 (by omega) (by omega); omega
                  refine lv_iinc (v := i_12) (lv' := [(6, .int i_12), (5, .ref (ad 171)), (4, .int r_1), (3, .int i), (2, .int q), (1, .ref (ad 130)), (0, .ref (ad 170))]) hx hb dX7_slopeBackward_84 hl (k := 0) rfl (by rw [ei_12]; rfl) (by decide) rfl (fun ls hl => ?_)
                  refine lv_goto (tgt := 52) hx hb dX7_slopeBackward_87 (by decide) ?_
                  have hP : va_P D vwCl (slw y ad (tJ σ 171 f_10)) H := hP
                  have hD : va_D A (slw y ad (tJ σ 171 f_10)) := hD
                  exact ih_loop2 i_12 f_10 H locs ls (by omega) (by omega) (by omega) hP hD hS (lv_sub hl [0, 1, 2, 3, 4, 5, 6] rfl)
                · have kc_11 : r_9.toInt = 0 := by have h9 := c_11; simp only [ge_iff_le, gt_iff_lt, x_lt, x_le, x_eq, ne_eq, Int32.not_lt, Int32.not_le] at h9; simp only [Int32.reduceToInt] at h9; omega
                  refine lv_lconst (v := 0) hx hb dX7_slopeBackward_82 (by decide) ?_
                  have hP : va_P D vwCl (slw y ad (tJ σ 171 f_10)) H := hP
                  have hD : va_D A (slw y ad (tJ σ 171 f_10)) := hD
                  exact x_lretW (v := 0) (u := f_10) hx hb hr hQ trivial hP hD hK hS dX7_slopeBackward_83 hlocks
        exact loop2 1360 r_1 fh H locs ls (by omega) (by omega) (by omega) hP hD hS (lv_sub hl [0, 1, 2, 3, 4, 5, 6] rfl)
      · have kc_2 : i9.toInt ≤ r_1.toInt := by have h9 := c_2; simp only [ge_iff_le, gt_iff_lt, x_lt, x_le, x_eq, ne_eq, Int32.not_lt, Int32.not_le] at h9; omega
        refine lv_aload hx hb dX7_slopeBackward_23 (lv_at hl 1 rfl) ?_
        refine lv_iload hx hb dX7_slopeBackward_25 (lv_at hl 0 rfl) ?_
        refine lv_iload hx hb dX7_slopeBackward_27 (lv_at hl 0 rfl) ?_
        refine lv_iload hx hb dX7_slopeBackward_29 (lv_at hl 2 rfl) ?_
        refine lv_icmp_ne (tgt := 40) hx hb dX7_slopeBackward_31 (by decide) (fun c_13 => ?_) (fun c_13 => ?_)
        · have kc_13 : i9.toInt ≠ r_1.toInt := by have h9 := c_13; simp only [ge_iff_le, gt_iff_lt, x_lt, x_le, x_eq, ne_eq, Int32.not_lt, Int32.not_le] at h9; omega
          refine lv_lconst (v := 1) hx hb dX7_slopeBackward_40 (by decide) ?_
          refine va_last hx hb hK hP hD hS 2 3 slw_a2 rfl (x_in (by omega) (by omega)) dX7_slopeBackward_41 (fun H locs hP hD hS => ?_)
          obtain ⟨f_14, ef_14⟩ : ∃ z9 : Nat → Int64, z9 = (vp_updL fh (Int32.toNatClampNeg i9) 1) := ⟨_, rfl⟩
          have hP : va_P D vwCl (slw y ad (tJ (tJ σ 171 fh) 171 f_14)) H := by rw [ef_14]; exact x_trP hP slw_s2
          have hD : va_D A (slw y ad (tJ (tJ σ 171 fh) 171 f_14)) := by rw [ef_14]; exact x_trD hD slw_s2
          obtain ⟨i_15, ei_15⟩ : ∃ z9 : Int32, z9 = i9 + 1 := ⟨_, rfl⟩
          have vi_15 : i_15.toInt = i9.toInt + 1 := by have h9 := x_add ei_15 (by omega) (by omega); omega
          refine lv_iinc (v := i_15) (lv' := [(6, .int i_15), (5, .ref (ad 171)), (4, .int r_1), (3, .int i), (2, .int q), (1, .ref (ad 130)), (0, .ref (ad 170))]) hx hb dX7_slopeBackward_42 hl (k := 0) rfl (by rw [ei_15]; rfl) (by decide) rfl (fun ls hl => ?_)
          refine lv_goto (tgt := 16) hx hb dX7_slopeBackward_45 (by decide) ?_
          have hP : va_P D vwCl (slw y ad (tJ σ 171 f_14)) H := hP
          have hD : va_D A (slw y ad (tJ σ 171 f_14)) := hD
          exact ih_loop i_15 f_14 H locs ls (by omega) (by omega) (by omega) hP hD hS (lv_sub hl [0, 1, 2, 3, 4, 5, 6] rfl)
        · have kc_13 : i9.toInt = r_1.toInt := by have h9 := c_13; simp only [ge_iff_le, gt_iff_lt, x_lt, x_le, x_eq, ne_eq, Int32.not_lt, Int32.not_le] at h9; omega
          refine lv_ldc2 (v := 1073741825) hx hb hown (hts (.constantLong RX7 55 1073741825) (List.mem_of_getElem? (i := 3) rfl)) dX7_slopeBackward_34 ?_
          refine lv_goto (tgt := 41) hx hb dX7_slopeBackward_37 (by decide) ?_
          refine va_last hx hb hK hP hD hS 2 3 slw_a2 rfl (x_in (by omega) (by omega)) dX7_slopeBackward_41 (fun H locs hP hD hS => ?_)
          obtain ⟨f_16, ef_16⟩ : ∃ z9 : Nat → Int64, z9 = (vp_updL fh (Int32.toNatClampNeg i9) 1073741825) := ⟨_, rfl⟩
          have hP : va_P D vwCl (slw y ad (tJ (tJ σ 171 fh) 171 f_16)) H := by rw [ef_16]; exact x_trP hP slw_s2
          have hD : va_D A (slw y ad (tJ (tJ σ 171 fh) 171 f_16)) := by rw [ef_16]; exact x_trD hD slw_s2
          obtain ⟨i_17, ei_17⟩ : ∃ z9 : Int32, z9 = i9 + 1 := ⟨_, rfl⟩
          have vi_17 : i_17.toInt = i9.toInt + 1 := by have h9 := x_add ei_17 (by omega) (by omega); omega
          refine lv_iinc (v := i_17) (lv' := [(6, .int i_17), (5, .ref (ad 171)), (4, .int r_1), (3, .int i), (2, .int q), (1, .ref (ad 130)), (0, .ref (ad 170))]) hx hb dX7_slopeBackward_42 hl (k := 0) rfl (by rw [ei_17]; rfl) (by decide) rfl (fun ls hl => ?_)
          refine lv_goto (tgt := 16) hx hb dX7_slopeBackward_45 (by decide) ?_
          have hP : va_P D vwCl (slw y ad (tJ σ 171 f_16)) H := hP
          have hD : va_D A (slw y ad (tJ σ 171 f_16)) := hD
          exact ih_loop i_17 f_16 H locs ls (by omega) (by omega) (by omega) hP hD hS (lv_sub hl [0, 1, 2, 3, 4, 5, 6] rfl)
  exact loop 1360 0 (σ.2.2.2 171) H locs ls (by decide) (by omega) (by omega) hP hD hS (lv_sub hl [0, 1, 2, 6, 5, 4, 3] rfl)

def v_s_moverBits : List Cond := .code yX7_moverBits cX7_moverBits 5 (some .int) :: ([.fieldLink RX7 21 "SlopeRunner$Slopes" "count" "[I", .fieldLink RX7 41 "SlopeRunner$Tape" "firstStep" "I", .fieldLink RX7 64 "SlopeRunner$Tape" "left" "[I", .fieldLink RX7 67 "SlopeRunner$Tape" "right" "[I", .fieldLink RX7 61 "SlopeRunner$Tape" "inputs" "I"] ++ ((wsV RX7 29 RX8 yX8_resultAt v_ka_resultAt) ++ (wsX70 ++ wsX80)))
theorem g_s_moverBits_0 : GoodIn v_s_moverBits (wsV RX7 29 RX8 yX8_resultAt v_ka_resultAt) := goodIn_sub (fun w h => List.mem_cons_of_mem _ (List.mem_append_right _ (List.mem_append_left _ h))) (by decide +kernel)
set_option maxHeartbeats 4000000 in
set_option maxRecDepth 100000 in
theorem s_moverBits (l : Launch) (D : va_G) (y : Nat → ClassId) (sz : Nat) (ad : Nat → Nat) (σ : OS) (q : Int32) (hin0 : 0 ≤ (σ.1 137).toInt) (hin1 : (σ.1 137).toInt ≤ 8) (hrs0 : 0 ≤ (σ.1 141).toInt) (hrs1 : (σ.1 141).toInt ≤ 12) (hfs0 : 0 ≤ (σ.1 138).toInt)  (hB133 : bI (σ.2.2.1 133) 0 1358) (hB134 : bI (σ.2.2.1 134) 0 1358) (hB135 : bI (σ.2.2.1 135) 0 1358) : Met l yX7_moverBits v_s_moverBits ({ frames := 2, cells := 0, slots := 0, locals := 42 } : Room) (va_Pc [.ref (ad 170), .ref (ad 130), .int q] (xPre D (xT y) (slw y ad σ) sz)) (va_Qi (fun (r : Int32) (u : (Nat → Int32)) => True) (fun (u : (Nat → Int32)) => xB D (xT y) (va_A (slw y ad σ) sz) (slw y ad (tI σ 174 u))) (va_A (slw y ad σ) sz)) 0 0 (va_A (slw y ad σ) sz) := by
  refine x_meti (cc := cX7_moverBits) (maxL := 5) (by decide) rfl (Nat.le_of_ble_eq_true rfl) ?_
  intro p e s m below meth c A H locs Q hx hb hml hown hts hr hlocks hmn hA hP hK hD hS ls hl hQ
  have hl : lv_has ls 5 [(0, .ref (ad 170)), (1, .ref (ad 130)), (2, .int q)] := hl
  have fl21 := hts (.fieldLink RX7 21 "SlopeRunner$Slopes" "count" "[I") (List.mem_of_getElem? (i := 1) rfl)
  have inX7 : ∀ w ∈ wsX70, w ∈ v_s_moverBits := (fun w h => List.mem_cons_of_mem _ (List.mem_append_right _ (List.mem_append_right _ (List.mem_append_left _ h))))
  have fl41 := hts (.fieldLink RX7 41 "SlopeRunner$Tape" "firstStep" "I") (List.mem_of_getElem? (i := 2) rfl)
  have inX8 : ∀ w ∈ wsX80, w ∈ v_s_moverBits := (fun w h => List.mem_cons_of_mem _ (List.mem_append_right _ (List.mem_append_right _ (List.mem_append_right _ h))))
  have fl64 := hts (.fieldLink RX7 64 "SlopeRunner$Tape" "left" "[I") (List.mem_of_getElem? (i := 3) rfl)
  have fl67 := hts (.fieldLink RX7 67 "SlopeRunner$Tape" "right" "[I") (List.mem_of_getElem? (i := 4) rfl)
  have kk_1 : (1 : Int32).toInt = 1 := rfl
  have fl61 := hts (.fieldLink RX7 61 "SlopeRunner$Tape" "inputs" "I") (List.mem_of_getElem? (i := 5) rfl)
  refine lv_aload_n hx hb dX7_moverBits_0 rfl (lv_at hl 1 rfl) ?_
  refine lv_iload_n hx hb dX7_moverBits_1 rfl (lv_at hl 2 rfl) ?_
  have hPs : va_P D vwCl (tpw y ad σ) H := x_suP hP [1, 7, 8, 9, 10, 11] rfl
  have hDs : va_D A (tpw y ad σ) := x_suD hD [1, 7, 8, 9, 10, 11] rfl (by decide)
  refine x_calliS (b1 := fun (u : Unit) => (slw y ad σ)) [1, 7, 8, 9, 10, 11] (va_runV (As := [.int q]) (rest := []) ⟨hx, hb, hml, hown, hts⟩ (ka_resultAt l D y H.size ad σ q (show 0 ≤ ((σ.1 137)).toInt from by first | omega | decide) (show ((σ.1 137)).toInt ≤ 8 from by first | omega | decide) (show 0 ≤ ((σ.1 141)).toInt from by first | omega | decide) (show ((σ.1 141)).toInt ≤ 12 from by first | omega | decide) hB135) (cwV 1 hts g_s_moverBits_0 rfl rfl rfl (by decide +kernel) ⟨Nat.le_of_ble_eq_true rfl, Nat.le_of_ble_eq_true rfl⟩) (x_preV (q := (RX8, TX8, 13)) hK hPs hDs (ci := 7) (q0 := 0) rfl tpw_o0) rfl rfl hl.1 rfl (lv_room (Nat.le_of_ble_eq_true rfl)) dX7_moverBits_2 ⟨Nat.le_of_ble_eq_true rfl, Nat.le_of_ble_eq_true rfl⟩) hP hD hS hA rfl (fun _ => rfl) (fun _ => rfl) (fun _ => rfl) (fun r_1 u H locs hw hP hD hS => ?_)
  try dsimp only at hw
  have hP : va_P D vwCl (slw y ad σ) H := hP
  have hD : va_D A (slw y ad σ) := hD
  have hra := hw
  refine lv_istore_n (lv' := [(3, .int r_1), (0, .ref (ad 170)), (1, .ref (ad 130)), (2, .int q)]) hx hb dX7_moverBits_5 rfl hl (by decide) rfl (fun ls hl => ?_)
  refine lv_iconst (v := 0) hx hb dX7_moverBits_6 (by decide) ?_
  refine lv_istore (lv' := [(4, .int 0), (3, .int r_1), (0, .ref (ad 170)), (1, .ref (ad 130)), (2, .int q)]) hx hb dX7_moverBits_7 hl (by decide) rfl (fun ls hl => ?_)
  have l00 : (0 : Int32).toInt = 0 := rfl
  have hP : va_P D vwCl (slw y ad (tI σ 174 (σ.2.2.1 174))) H := hP
  have hD : va_D A (slw y ad (tI σ 174 (σ.2.2.1 174))) := hD
  have loop : ∀ (fu : Nat) (i9 : Int32) (fh : Nat → Int32) (H : Heap) (locs : List Loc) (ls : Array Slot), (0 ≤ i9.toInt) → (i9.toInt ≤ r_1.toInt + 1) → (r_1.toInt + 1 - i9.toInt < (fu : Int)) → va_P D vwCl (slw y ad (tI σ 174 fh)) H → va_D A (slw y ad (tI σ 174 fh)) → va_S A s.heap H locs → lv_has ls 5 [(4, .int i9), (3, .int r_1), (2, .int q), (1, .ref (ad 130)), (0, .ref (ad 170))] → W p l e ({ frames := 2, cells := 0, slots := 0, locals := 42 } : Room) s m ([.ref (ad 170), .ref (ad 130), .int q] : List Value).toArray below meth c H locs 0 0 Q (F0 m 9 ls []) := by
    intro fu
    induction fu with
    | zero =>
      intro i9 fh H locs ls hi0 hi1 hm
      exact absurd hm (by omega)
    | succ fu ih_loop =>
      intro i9 fh H locs ls hi0 hi1 hm hP hD hS hl
      refine lv_iload hx hb dX7_moverBits_9 (lv_at hl 0 rfl) ?_
      refine lv_iload_n hx hb dX7_moverBits_11 rfl (lv_at hl 1 rfl) ?_
      refine lv_icmp_gt (tgt := 89) hx hb dX7_moverBits_12 (by decide) (fun c_2 => ?_) (fun c_2 => ?_)
      · have kc_2 : i9.toInt > r_1.toInt := by have h9 := c_2; simp only [ge_iff_le, gt_iff_lt, x_lt, x_le, x_eq, ne_eq, Int32.not_lt, Int32.not_le] at h9; omega
        refine lv_aload_n hx hb dX7_moverBits_89 rfl (lv_at hl 4 rfl) ?_
        refine va_get (D := D) (ci := 6) (v := .ref (ad 174)) (C := RX7) (T := TX7) (N := 5) hx hb hts inX7 hown hK hP 0 slw_o0 rfl 3 (by decide) fl21 (fun _ h9 => h9) rfl dX7_moverBits_90 ?_
        refine lv_iload_n hx hb dX7_moverBits_93 rfl (lv_at hl 1 rfl) ?_
        refine va_iald hx hb hK hP 5 2 slw_a5 rfl (x_in (by omega) (by omega)) dX7_moverBits_94 ?_
        refine lv_topi (fun i_3 ei_3 => ?_)
        have ei_3 : i_3 = fh (Int32.toNatClampNeg r_1) := ei_3
        exact x_iretW (v := i_3) (u := fh) hx hb hr hQ trivial hP hD hK hS dX7_moverBits_95 hlocks
      · have kc_2 : i9.toInt ≤ r_1.toInt := by have h9 := c_2; simp only [ge_iff_le, gt_iff_lt, x_lt, x_le, x_eq, ne_eq, Int32.not_lt, Int32.not_le] at h9; omega
        refine lv_iload hx hb dX7_moverBits_15 (lv_at hl 0 rfl) ?_
        refine lv_aload_n hx hb dX7_moverBits_17 rfl (lv_at hl 3 rfl) ?_
        refine va_get (D := D) (ci := 7) (v := .int (σ.1 138)) (C := RX8) (T := TX8) (N := 13) hx hb hts inX8 hown hK hP 1 slw_o1 rfl 7 (by decide) fl41 (fun _ h9 => h9) rfl dX7_moverBits_18 ?_
        refine lv_icmp_ge (tgt := 51) hx hb dX7_moverBits_21 (by decide) (fun c_4 => ?_) (fun c_4 => ?_)
        · have kc_4 : i9.toInt ≥ (σ.1 138).toInt := by have h9 := c_4; simp only [ge_iff_le, gt_iff_lt, x_lt, x_le, x_eq, ne_eq, Int32.not_lt, Int32.not_le] at h9; omega
          refine lv_aload_n hx hb dX7_moverBits_51 rfl (lv_at hl 4 rfl) ?_
          refine va_get (D := D) (ci := 6) (v := .ref (ad 174)) (C := RX7) (T := TX7) (N := 5) hx hb hts inX7 hown hK hP 0 slw_o0 rfl 3 (by decide) fl21 (fun _ h9 => h9) rfl dX7_moverBits_52 ?_
          refine lv_iload hx hb dX7_moverBits_55 (lv_at hl 0 rfl) ?_
          refine lv_aload_n hx hb dX7_moverBits_57 rfl (lv_at hl 4 rfl) ?_
          refine va_get (D := D) (ci := 6) (v := .ref (ad 174)) (C := RX7) (T := TX7) (N := 5) hx hb hts inX7 hown hK hP 0 slw_o0 rfl 3 (by decide) fl21 (fun _ h9 => h9) rfl dX7_moverBits_58 ?_
          refine lv_aload_n hx hb dX7_moverBits_61 rfl (lv_at hl 3 rfl) ?_
          refine va_get (D := D) (ci := 7) (v := .ref (ad 133)) (C := RX8) (T := TX8) (N := 13) hx hb hts inX8 hown hK hP 1 slw_o1 rfl 2 (by decide) fl64 (fun _ h9 => h9) rfl dX7_moverBits_62 ?_
          refine lv_iload hx hb dX7_moverBits_65 (lv_at hl 0 rfl) ?_
          refine va_iald hx hb hK hP 9 2 slw_a9 rfl (x_in (by omega) (by omega)) dX7_moverBits_67 ?_
          refine lv_topi (fun i_5 ei_5 => ?_)
          have ei_5 : i_5 = (σ.2.2.1 133) (Int32.toNatClampNeg i9) := ei_5
          have bi_5 := b_at hB133 ei_5
          refine va_iald hx hb hK hP 5 2 slw_a5 rfl (x_in (by omega) (by omega)) dX7_moverBits_68 ?_
          refine lv_topi (fun i_6 ei_6 => ?_)
          have ei_6 : i_6 = fh (Int32.toNatClampNeg i_5) := ei_6
          refine lv_aload_n hx hb dX7_moverBits_69 rfl (lv_at hl 4 rfl) ?_
          refine va_get (D := D) (ci := 6) (v := .ref (ad 174)) (C := RX7) (T := TX7) (N := 5) hx hb hts inX7 hown hK hP 0 slw_o0 rfl 3 (by decide) fl21 (fun _ h9 => h9) rfl dX7_moverBits_70 ?_
          refine lv_aload_n hx hb dX7_moverBits_73 rfl (lv_at hl 3 rfl) ?_
          refine va_get (D := D) (ci := 7) (v := .ref (ad 134)) (C := RX8) (T := TX8) (N := 13) hx hb hts inX8 hown hK hP 1 slw_o1 rfl 3 (by decide) fl67 (fun _ h9 => h9) rfl dX7_moverBits_74 ?_
          refine lv_iload hx hb dX7_moverBits_77 (lv_at hl 0 rfl) ?_
          refine va_iald hx hb hK hP 10 2 slw_a10 rfl (x_in (by omega) (by omega)) dX7_moverBits_79 ?_
          refine lv_topi (fun i_7 ei_7 => ?_)
          have ei_7 : i_7 = (σ.2.2.1 134) (Int32.toNatClampNeg i9) := ei_7
          have bi_7 := b_at hB134 ei_7
          refine va_iald hx hb hK hP 5 2 slw_a5 rfl (x_in (by omega) (by omega)) dX7_moverBits_80 ?_
          refine lv_topi (fun i_8 ei_8 => ?_)
          have ei_8 : i_8 = fh (Int32.toNatClampNeg i_7) := ei_8
          refine lv_ior hx hb dX7_moverBits_81 ?_
          refine lv_topi (fun i_9 ei_9 => ?_)
          refine va_iast hx hb hK hP hD hS 5 2 slw_a5 rfl (x_in (by omega) (by omega)) dX7_moverBits_82 (fun H locs hP hD hS => ?_)
          obtain ⟨f_10, ef_10⟩ : ∃ z9 : Nat → Int32, z9 = (upd fh (Int32.toNatClampNeg i9) i_9) := ⟨_, rfl⟩
          have hP : va_P D vwCl (slw y ad (tI (tI σ 174 fh) 174 f_10)) H := by rw [ef_10]; exact x_trP hP slw_s5
          have hD : va_D A (slw y ad (tI (tI σ 174 fh) 174 f_10)) := by rw [ef_10]; exact x_trD hD slw_s5
          obtain ⟨i_11, ei_11⟩ : ∃ z9 : Int32, z9 = i9 + 1 := ⟨_, rfl⟩
          have vi_11 : i_11.toInt = i9.toInt + 1 := by have h9 := x_add ei_11 (by omega) (by omega); omega
          refine lv_iinc (v := i_11) (lv' := [(4, .int i_11), (3, .int r_1), (2, .int q), (1, .ref (ad 130)), (0, .ref (ad 170))]) hx hb dX7_moverBits_83 hl (k := 0) rfl (by rw [ei_11]; rfl) (by decide) rfl (fun ls hl => ?_)
          refine lv_goto (tgt := 9) hx hb dX7_moverBits_86 (by decide) ?_
          have hP : va_P D vwCl (slw y ad (tI σ 174 f_10)) H := hP
          have hD : va_D A (slw y ad (tI σ 174 f_10)) := hD
          exact ih_loop i_11 f_10 H locs ls (by omega) (by omega) (by omega) hP hD hS (lv_sub hl [0, 1, 2, 3, 4] rfl)
        · have kc_4 : i9.toInt < (σ.1 138).toInt := by have h9 := c_4; simp only [ge_iff_le, gt_iff_lt, x_lt, x_le, x_eq, ne_eq, Int32.not_lt, Int32.not_le] at h9; omega
          refine lv_aload_n hx hb dX7_moverBits_24 rfl (lv_at hl 4 rfl) ?_
          refine va_get (D := D) (ci := 6) (v := .ref (ad 174)) (C := RX7) (T := TX7) (N := 5) hx hb hts inX7 hown hK hP 0 slw_o0 rfl 3 (by decide) fl21 (fun _ h9 => h9) rfl dX7_moverBits_25 ?_
          refine lv_iload hx hb dX7_moverBits_28 (lv_at hl 0 rfl) ?_
          refine lv_iload hx hb dX7_moverBits_30 (lv_at hl 0 rfl) ?_
          refine lv_aload_n hx hb dX7_moverBits_32 rfl (lv_at hl 3 rfl) ?_
          refine va_get (D := D) (ci := 7) (v := .int (σ.1 137)) (C := RX8) (T := TX8) (N := 13) hx hb hts inX8 hown hK hP 1 slw_o1 rfl 6 (by decide) fl61 (fun _ h9 => h9) rfl dX7_moverBits_33 ?_
          refine lv_icmp_ge (tgt := 46) hx hb dX7_moverBits_36 (by decide) (fun c_12 => ?_) (fun c_12 => ?_)
          · have kc_12 : i9.toInt ≥ (σ.1 137).toInt := by have h9 := c_12; simp only [ge_iff_le, gt_iff_lt, x_lt, x_le, x_eq, ne_eq, Int32.not_lt, Int32.not_le] at h9; omega
            refine lv_iconst (v := 0) hx hb dX7_moverBits_46 (by decide) ?_
            refine va_iast hx hb hK hP hD hS 5 2 slw_a5 rfl (x_in (by omega) (by omega)) dX7_moverBits_47 (fun H locs hP hD hS => ?_)
            obtain ⟨f_13, ef_13⟩ : ∃ z9 : Nat → Int32, z9 = (upd fh (Int32.toNatClampNeg i9) 0) := ⟨_, rfl⟩
            have hP : va_P D vwCl (slw y ad (tI (tI σ 174 fh) 174 f_13)) H := by rw [ef_13]; exact x_trP hP slw_s5
            have hD : va_D A (slw y ad (tI (tI σ 174 fh) 174 f_13)) := by rw [ef_13]; exact x_trD hD slw_s5
            refine lv_goto (tgt := 83) hx hb dX7_moverBits_48 (by decide) ?_
            obtain ⟨i_14, ei_14⟩ : ∃ z9 : Int32, z9 = i9 + 1 := ⟨_, rfl⟩
            have vi_14 : i_14.toInt = i9.toInt + 1 := by have h9 := x_add ei_14 (by omega) (by omega); omega
            refine lv_iinc (v := i_14) (lv' := [(4, .int i_14), (3, .int r_1), (2, .int q), (1, .ref (ad 130)), (0, .ref (ad 170))]) hx hb dX7_moverBits_83 hl (k := 0) rfl (by rw [ei_14]; rfl) (by decide) rfl (fun ls hl => ?_)
            refine lv_goto (tgt := 9) hx hb dX7_moverBits_86 (by decide) ?_
            have hP : va_P D vwCl (slw y ad (tI σ 174 f_13)) H := hP
            have hD : va_D A (slw y ad (tI σ 174 f_13)) := hD
            exact ih_loop i_14 f_13 H locs ls (by omega) (by omega) (by omega) hP hD hS (lv_sub hl [0, 1, 2, 3, 4] rfl)
          · have kc_12 : i9.toInt < (σ.1 137).toInt := by have h9 := c_12; simp only [ge_iff_le, gt_iff_lt, x_lt, x_le, x_eq, ne_eq, Int32.not_lt, Int32.not_le] at h9; omega
            refine lv_iconst (v := 1) hx hb dX7_moverBits_39 (by decide) ?_
            refine lv_iload hx hb dX7_moverBits_40 (lv_at hl 0 rfl) ?_
            refine lv_ishl hx hb dX7_moverBits_42 ?_
            refine lv_topi (fun i_15 ei_15 => ?_)
            refine lv_goto (tgt := 47) hx hb dX7_moverBits_43 (by decide) ?_
            refine va_iast hx hb hK hP hD hS 5 2 slw_a5 rfl (x_in (by omega) (by omega)) dX7_moverBits_47 (fun H locs hP hD hS => ?_)
            obtain ⟨f_16, ef_16⟩ : ∃ z9 : Nat → Int32, z9 = (upd fh (Int32.toNatClampNeg i9) i_15) := ⟨_, rfl⟩
            have hP : va_P D vwCl (slw y ad (tI (tI σ 174 fh) 174 f_16)) H := by rw [ef_16]; exact x_trP hP slw_s5
            have hD : va_D A (slw y ad (tI (tI σ 174 fh) 174 f_16)) := by rw [ef_16]; exact x_trD hD slw_s5
            refine lv_goto (tgt := 83) hx hb dX7_moverBits_48 (by decide) ?_
            obtain ⟨i_17, ei_17⟩ : ∃ z9 : Int32, z9 = i9 + 1 := ⟨_, rfl⟩
            have vi_17 : i_17.toInt = i9.toInt + 1 := by have h9 := x_add ei_17 (by omega) (by omega); omega
            refine lv_iinc (v := i_17) (lv' := [(4, .int i_17), (3, .int r_1), (2, .int q), (1, .ref (ad 130)), (0, .ref (ad 170))]) hx hb dX7_moverBits_83 hl (k := 0) rfl (by rw [ei_17]; rfl) (by decide) rfl (fun ls hl => ?_)
            refine lv_goto (tgt := 9) hx hb dX7_moverBits_86 (by decide) ?_
            have hP : va_P D vwCl (slw y ad (tI σ 174 f_16)) H := hP
            have hD : va_D A (slw y ad (tI σ 174 f_16)) := hD
            exact ih_loop i_17 f_16 H locs ls (by omega) (by omega) (by omega) hP hD hS (lv_sub hl [0, 1, 2, 3, 4] rfl)
  exact loop 1360 0 (σ.2.2.1 174) H locs ls (by decide) (by omega) (by omega) hP hD hS (lv_sub hl [0, 1, 4, 3, 2] rfl)

def v_s_countWays : List Cond := .code yX7_countWays cX7_countWays 6 (some .int) :: ([.fieldLink RX7 21 "SlopeRunner$Slopes" "count" "[I", .fieldLink RX7 41 "SlopeRunner$Tape" "firstStep" "I", .fieldLink RX7 70 "SlopeRunner$Tape" "kind" "[I", .fieldLink RX7 64 "SlopeRunner$Tape" "left" "[I", .fieldLink RX7 67 "SlopeRunner$Tape" "right" "[I", .constant RX7 73 1000000000, .methodLink RX7 74 Lib.Math.min.name, .static Lib.Math.min.name, .initialized "java/lang/Math", .code Lib.Math.min.name Lib.Math.min.code 2 (some .int)] ++ ((wsV RX7 29 RX8 yX8_resultAt v_ka_resultAt) ++ (wsX70 ++ wsX80)))
theorem g_s_countWays_0 : GoodIn v_s_countWays (wsV RX7 29 RX8 yX8_resultAt v_ka_resultAt) := goodIn_sub (fun w h => List.mem_cons_of_mem _ (List.mem_append_right _ (List.mem_append_left _ h))) (by decide +kernel)
set_option maxHeartbeats 4000000 in
set_option maxRecDepth 100000 in
theorem s_countWays (l : Launch) (D : va_G) (y : Nat → ClassId) (sz : Nat) (ad : Nat → Nat) (σ : OS) (q i : Int32) (hin0 : 0 ≤ (σ.1 137).toInt) (hin1 : (σ.1 137).toInt ≤ 8) (hrs0 : 0 ≤ (σ.1 141).toInt) (hrs1 : (σ.1 141).toInt ≤ 12) (hfs0 : 0 ≤ (σ.1 138).toInt)  (hB133 : bI (σ.2.2.1 133) 0 1358) (hB134 : bI (σ.2.2.1 134) 0 1358) (hB135 : bI (σ.2.2.1 135) 0 1358) : Met l yX7_countWays v_s_countWays ({ frames := 2, cells := 0, slots := 0, locals := 42 } : Room) (va_Pc [.ref (ad 170), .ref (ad 130), .int q, .int i] (xPre D (xT y) (slw y ad σ) sz)) (va_Qi (fun (r : Int32) (u : (Nat → Int32)) => True) (fun (u : (Nat → Int32)) => xB D (xT y) (va_A (slw y ad σ) sz) (slw y ad (tI σ 174 u))) (va_A (slw y ad σ) sz)) 0 0 (va_A (slw y ad σ) sz) := by
  refine x_meti (cc := cX7_countWays) (maxL := 6) (by decide) rfl (Nat.le_of_ble_eq_true rfl) ?_
  intro p e s m below meth c A H locs Q hx hb hml hown hts hr hlocks hmn hA hP hK hD hS ls hl hQ
  have hl : lv_has ls 6 [(0, .ref (ad 170)), (1, .ref (ad 130)), (2, .int q), (3, .int i)] := hl
  have fl21 := hts (.fieldLink RX7 21 "SlopeRunner$Slopes" "count" "[I") (List.mem_of_getElem? (i := 1) rfl)
  have inX7 : ∀ w ∈ wsX70, w ∈ v_s_countWays := (fun w h => List.mem_cons_of_mem _ (List.mem_append_right _ (List.mem_append_right _ (List.mem_append_left _ h))))
  have fl41 := hts (.fieldLink RX7 41 "SlopeRunner$Tape" "firstStep" "I") (List.mem_of_getElem? (i := 2) rfl)
  have inX8 : ∀ w ∈ wsX80, w ∈ v_s_countWays := (fun w h => List.mem_cons_of_mem _ (List.mem_append_right _ (List.mem_append_right _ (List.mem_append_right _ h))))
  have fl70 := hts (.fieldLink RX7 70 "SlopeRunner$Tape" "kind" "[I") (List.mem_of_getElem? (i := 3) rfl)
  have kk_30 : (30 : Int32).toInt = 30 := rfl
  have fl64 := hts (.fieldLink RX7 64 "SlopeRunner$Tape" "left" "[I") (List.mem_of_getElem? (i := 4) rfl)
  have kk_1 : (1 : Int32).toInt = 1 := rfl
  have kk_31 : (31 : Int32).toInt = 31 := rfl
  have fl67 := hts (.fieldLink RX7 67 "SlopeRunner$Tape" "right" "[I") (List.mem_of_getElem? (i := 5) rfl)
  refine lv_aload_n hx hb dX7_countWays_0 rfl (lv_at hl 1 rfl) ?_
  refine lv_iload_n hx hb dX7_countWays_1 rfl (lv_at hl 2 rfl) ?_
  have hPs : va_P D vwCl (tpw y ad σ) H := x_suP hP [1, 7, 8, 9, 10, 11] rfl
  have hDs : va_D A (tpw y ad σ) := x_suD hD [1, 7, 8, 9, 10, 11] rfl (by decide)
  refine x_calliS (b1 := fun (u : Unit) => (slw y ad σ)) [1, 7, 8, 9, 10, 11] (va_runV (As := [.int q]) (rest := []) ⟨hx, hb, hml, hown, hts⟩ (ka_resultAt l D y H.size ad σ q (show 0 ≤ ((σ.1 137)).toInt from by first | omega | decide) (show ((σ.1 137)).toInt ≤ 8 from by first | omega | decide) (show 0 ≤ ((σ.1 141)).toInt from by first | omega | decide) (show ((σ.1 141)).toInt ≤ 12 from by first | omega | decide) hB135) (cwV 1 hts g_s_countWays_0 rfl rfl rfl (by decide +kernel) ⟨Nat.le_of_ble_eq_true rfl, Nat.le_of_ble_eq_true rfl⟩) (x_preV (q := (RX8, TX8, 13)) hK hPs hDs (ci := 7) (q0 := 0) rfl tpw_o0) rfl rfl hl.1 rfl (lv_room (Nat.le_of_ble_eq_true rfl)) dX7_countWays_2 ⟨Nat.le_of_ble_eq_true rfl, Nat.le_of_ble_eq_true rfl⟩) hP hD hS hA rfl (fun _ => rfl) (fun _ => rfl) (fun _ => rfl) (fun r_1 u H locs hw hP hD hS => ?_)
  try dsimp only at hw
  have hP : va_P D vwCl (slw y ad σ) H := hP
  have hD : va_D A (slw y ad σ) := hD
  have hra := hw
  refine lv_istore (lv' := [(4, .int r_1), (0, .ref (ad 170)), (1, .ref (ad 130)), (2, .int q), (3, .int i)]) hx hb dX7_countWays_5 hl (by decide) rfl (fun ls hl => ?_)
  refine lv_iconst (v := 0) hx hb dX7_countWays_7 (by decide) ?_
  refine lv_istore (lv' := [(5, .int 0), (4, .int r_1), (0, .ref (ad 170)), (1, .ref (ad 130)), (2, .int q), (3, .int i)]) hx hb dX7_countWays_8 hl (by decide) rfl (fun ls hl => ?_)
  have l00 : (0 : Int32).toInt = 0 := rfl
  have hP : va_P D vwCl (slw y ad (tI σ 174 (σ.2.2.1 174))) H := hP
  have hD : va_D A (slw y ad (tI σ 174 (σ.2.2.1 174))) := hD
  have loop : ∀ (fu : Nat) (i9 : Int32) (fh : Nat → Int32) (H : Heap) (locs : List Loc) (ls : Array Slot), (0 ≤ i9.toInt) → (i9.toInt ≤ r_1.toInt + 1) → (r_1.toInt + 1 - i9.toInt < (fu : Int)) → va_P D vwCl (slw y ad (tI σ 174 fh)) H → va_D A (slw y ad (tI σ 174 fh)) → va_S A s.heap H locs → lv_has ls 6 [(5, .int i9), (4, .int r_1), (3, .int i), (2, .int q), (1, .ref (ad 130)), (0, .ref (ad 170))] → W p l e ({ frames := 2, cells := 0, slots := 0, locals := 42 } : Room) s m ([.ref (ad 170), .ref (ad 130), .int q, .int i] : List Value).toArray below meth c H locs 0 0 Q (F0 m 10 ls []) := by
    intro fu
    induction fu with
    | zero =>
      intro i9 fh H locs ls hi0 hi1 hm
      exact absurd hm (by omega)
    | succ fu ih_loop =>
      intro i9 fh H locs ls hi0 hi1 hm hP hD hS hl
      refine lv_iload hx hb dX7_countWays_10 (lv_at hl 0 rfl) ?_
      refine lv_iload hx hb dX7_countWays_12 (lv_at hl 1 rfl) ?_
      refine lv_icmp_gt (tgt := 136) hx hb dX7_countWays_14 (by decide) (fun c_2 => ?_) (fun c_2 => ?_)
      · have kc_2 : i9.toInt > r_1.toInt := by have h9 := c_2; simp only [ge_iff_le, gt_iff_lt, x_lt, x_le, x_eq, ne_eq, Int32.not_lt, Int32.not_le] at h9; omega
        refine lv_aload_n hx hb dX7_countWays_136 rfl (lv_at hl 5 rfl) ?_
        refine va_get (D := D) (ci := 6) (v := .ref (ad 174)) (C := RX7) (T := TX7) (N := 5) hx hb hts inX7 hown hK hP 0 slw_o0 rfl 3 (by decide) fl21 (fun _ h9 => h9) rfl dX7_countWays_137 ?_
        refine lv_iload hx hb dX7_countWays_140 (lv_at hl 1 rfl) ?_
        refine va_iald hx hb hK hP 5 2 slw_a5 rfl (x_in (by omega) (by omega)) dX7_countWays_142 ?_
        refine lv_topi (fun i_3 ei_3 => ?_)
        have ei_3 : i_3 = fh (Int32.toNatClampNeg r_1) := ei_3
        exact x_iretW (v := i_3) (u := fh) hx hb hr hQ trivial hP hD hK hS dX7_countWays_143 hlocks
      · have kc_2 : i9.toInt ≤ r_1.toInt := by have h9 := c_2; simp only [ge_iff_le, gt_iff_lt, x_lt, x_le, x_eq, ne_eq, Int32.not_lt, Int32.not_le] at h9; omega
        refine lv_iload hx hb dX7_countWays_17 (lv_at hl 0 rfl) ?_
        refine lv_aload_n hx hb dX7_countWays_19 rfl (lv_at hl 4 rfl) ?_
        refine va_get (D := D) (ci := 7) (v := .int (σ.1 138)) (C := RX8) (T := TX8) (N := 13) hx hb hts inX8 hown hK hP 1 slw_o1 rfl 7 (by decide) fl41 (fun _ h9 => h9) rfl dX7_countWays_20 ?_
        refine lv_icmp_ge (tgt := 47) hx hb dX7_countWays_23 (by decide) (fun c_4 => ?_) (fun c_4 => ?_)
        · have kc_4 : i9.toInt ≥ (σ.1 138).toInt := by have h9 := c_4; simp only [ge_iff_le, gt_iff_lt, x_lt, x_le, x_eq, ne_eq, Int32.not_lt, Int32.not_le] at h9; omega
          refine lv_aload_n hx hb dX7_countWays_47 rfl (lv_at hl 4 rfl) ?_
          refine va_get (D := D) (ci := 7) (v := .ref (ad 132)) (C := RX8) (T := TX8) (N := 13) hx hb hts inX8 hown hK hP 1 slw_o1 rfl 1 (by decide) fl70 (fun _ h9 => h9) rfl dX7_countWays_48 ?_
          refine lv_iload hx hb dX7_countWays_51 (lv_at hl 0 rfl) ?_
          refine va_iald hx hb hK hP 8 2 slw_a8 rfl (x_in (by omega) (by omega)) dX7_countWays_53 ?_
          refine lv_topi (fun i_5 ei_5 => ?_)
          have ei_5 : i_5 = (σ.2.2.1 132) (Int32.toNatClampNeg i9) := ei_5
          refine lv_bipush (v := 30) hx hb dX7_countWays_54 (by decide) ?_
          refine lv_icmp_eq (tgt := 71) hx hb dX7_countWays_56 (by decide) (fun c_6 => ?_) (fun c_6 => ?_)
          · have kc_6 : i_5.toInt = 30 := by have h9 := c_6; simp only [ge_iff_le, gt_iff_lt, x_lt, x_le, x_eq, ne_eq, Int32.not_lt, Int32.not_le] at h9; simp only [Int32.reduceToInt] at h9; omega
            refine lv_aload_n hx hb dX7_countWays_71 rfl (lv_at hl 5 rfl) ?_
            refine va_get (D := D) (ci := 6) (v := .ref (ad 174)) (C := RX7) (T := TX7) (N := 5) hx hb hts inX7 hown hK hP 0 slw_o0 rfl 3 (by decide) fl21 (fun _ h9 => h9) rfl dX7_countWays_72 ?_
            refine lv_iload hx hb dX7_countWays_75 (lv_at hl 0 rfl) ?_
            refine lv_aload_n hx hb dX7_countWays_77 rfl (lv_at hl 5 rfl) ?_
            refine va_get (D := D) (ci := 6) (v := .ref (ad 174)) (C := RX7) (T := TX7) (N := 5) hx hb hts inX7 hown hK hP 0 slw_o0 rfl 3 (by decide) fl21 (fun _ h9 => h9) rfl dX7_countWays_78 ?_
            refine lv_aload_n hx hb dX7_countWays_81 rfl (lv_at hl 4 rfl) ?_
            refine va_get (D := D) (ci := 7) (v := .ref (ad 133)) (C := RX8) (T := TX8) (N := 13) hx hb hts inX8 hown hK hP 1 slw_o1 rfl 2 (by decide) fl64 (fun _ h9 => h9) rfl dX7_countWays_82 ?_
            refine lv_iload hx hb dX7_countWays_85 (lv_at hl 0 rfl) ?_
            refine va_iald hx hb hK hP 9 2 slw_a9 rfl (x_in (by omega) (by omega)) dX7_countWays_87 ?_
            refine lv_topi (fun i_7 ei_7 => ?_)
            have ei_7 : i_7 = (σ.2.2.1 133) (Int32.toNatClampNeg i9) := ei_7
            have bi_7 := b_at hB133 ei_7
            refine va_iald hx hb hK hP 5 2 slw_a5 rfl (x_in (by omega) (by omega)) dX7_countWays_88 ?_
            refine lv_topi (fun i_8 ei_8 => ?_)
            have ei_8 : i_8 = fh (Int32.toNatClampNeg i_7) := ei_8
            refine va_iast hx hb hK hP hD hS 5 2 slw_a5 rfl (x_in (by omega) (by omega)) dX7_countWays_89 (fun H locs hP hD hS => ?_)
            obtain ⟨f_9, ef_9⟩ : ∃ z9 : Nat → Int32, z9 = (upd fh (Int32.toNatClampNeg i9) i_8) := ⟨_, rfl⟩
            have hP : va_P D vwCl (slw y ad (tI (tI σ 174 fh) 174 f_9)) H := by rw [ef_9]; exact x_trP hP slw_s5
            have hD : va_D A (slw y ad (tI (tI σ 174 fh) 174 f_9)) := by rw [ef_9]; exact x_trD hD slw_s5
            refine lv_goto (tgt := 130) hx hb dX7_countWays_90 (by decide) ?_
            obtain ⟨i_10, ei_10⟩ : ∃ z9 : Int32, z9 = i9 + 1 := ⟨_, rfl⟩
            have vi_10 : i_10.toInt = i9.toInt + 1 := by have h9 := x_add ei_10 (by omega) (by omega); omega
            refine lv_iinc (v := i_10) (lv' := [(5, .int i_10), (4, .int r_1), (3, .int i), (2, .int q), (1, .ref (ad 130)), (0, .ref (ad 170))]) hx hb dX7_countWays_130 hl (k := 0) rfl (by rw [ei_10]; rfl) (by decide) rfl (fun ls hl => ?_)
            refine lv_goto (tgt := 10) hx hb dX7_countWays_133 (by decide) ?_
            have hP : va_P D vwCl (slw y ad (tI σ 174 f_9)) H := hP
            have hD : va_D A (slw y ad (tI σ 174 f_9)) := hD
            exact ih_loop i_10 f_9 H locs ls (by omega) (by omega) (by omega) hP hD hS (lv_sub hl [0, 1, 2, 3, 4, 5] rfl)
          · have kc_6 : i_5.toInt ≠ 30 := by have h9 := c_6; simp only [ge_iff_le, gt_iff_lt, x_lt, x_le, x_eq, ne_eq, Int32.not_lt, Int32.not_le] at h9; simp only [Int32.reduceToInt] at h9; omega
            refine lv_aload_n hx hb dX7_countWays_59 rfl (lv_at hl 4 rfl) ?_
            refine va_get (D := D) (ci := 7) (v := .ref (ad 132)) (C := RX8) (T := TX8) (N := 13) hx hb hts inX8 hown hK hP 1 slw_o1 rfl 1 (by decide) fl70 (fun _ h9 => h9) rfl dX7_countWays_60 ?_
            refine lv_iload hx hb dX7_countWays_63 (lv_at hl 0 rfl) ?_
            refine va_iald hx hb hK hP 8 2 slw_a8 rfl (x_in (by omega) (by omega)) dX7_countWays_65 ?_
            refine lv_topi (fun i_11 ei_11 => ?_)
            have ei_11 : i_11 = (σ.2.2.1 132) (Int32.toNatClampNeg i9) := ei_11
            refine lv_bipush (v := 31) hx hb dX7_countWays_66 (by decide) ?_
            refine lv_icmp_ne (tgt := 93) hx hb dX7_countWays_68 (by decide) (fun c_12 => ?_) (fun c_12 => ?_)
            · have kc_12 : i_11.toInt ≠ 31 := by have h9 := c_12; simp only [ge_iff_le, gt_iff_lt, x_lt, x_le, x_eq, ne_eq, Int32.not_lt, Int32.not_le] at h9; simp only [Int32.reduceToInt] at h9; omega
              refine lv_aload_n hx hb dX7_countWays_93 rfl (lv_at hl 5 rfl) ?_
              refine va_get (D := D) (ci := 6) (v := .ref (ad 174)) (C := RX7) (T := TX7) (N := 5) hx hb hts inX7 hown hK hP 0 slw_o0 rfl 3 (by decide) fl21 (fun _ h9 => h9) rfl dX7_countWays_94 ?_
              refine lv_iload hx hb dX7_countWays_97 (lv_at hl 0 rfl) ?_
              refine lv_ldc (v := 1000000000) hx hb hown (hts (.constant RX7 73 1000000000) (List.mem_of_getElem? (i := 6) rfl)) dX7_countWays_99 ?_
              refine lv_aload_n hx hb dX7_countWays_101 rfl (lv_at hl 5 rfl) ?_
              refine va_get (D := D) (ci := 6) (v := .ref (ad 174)) (C := RX7) (T := TX7) (N := 5) hx hb hts inX7 hown hK hP 0 slw_o0 rfl 3 (by decide) fl21 (fun _ h9 => h9) rfl dX7_countWays_102 ?_
              refine lv_aload_n hx hb dX7_countWays_105 rfl (lv_at hl 4 rfl) ?_
              refine va_get (D := D) (ci := 7) (v := .ref (ad 133)) (C := RX8) (T := TX8) (N := 13) hx hb hts inX8 hown hK hP 1 slw_o1 rfl 2 (by decide) fl64 (fun _ h9 => h9) rfl dX7_countWays_106 ?_
              refine lv_iload hx hb dX7_countWays_109 (lv_at hl 0 rfl) ?_
              refine va_iald hx hb hK hP 9 2 slw_a9 rfl (x_in (by omega) (by omega)) dX7_countWays_111 ?_
              refine lv_topi (fun i_13 ei_13 => ?_)
              have ei_13 : i_13 = (σ.2.2.1 133) (Int32.toNatClampNeg i9) := ei_13
              have bi_13 := b_at hB133 ei_13
              refine va_iald hx hb hK hP 5 2 slw_a5 rfl (x_in (by omega) (by omega)) dX7_countWays_112 ?_
              refine lv_topi (fun i_14 ei_14 => ?_)
              have ei_14 : i_14 = fh (Int32.toNatClampNeg i_13) := ei_14
              refine lv_aload_n hx hb dX7_countWays_113 rfl (lv_at hl 5 rfl) ?_
              refine va_get (D := D) (ci := 6) (v := .ref (ad 174)) (C := RX7) (T := TX7) (N := 5) hx hb hts inX7 hown hK hP 0 slw_o0 rfl 3 (by decide) fl21 (fun _ h9 => h9) rfl dX7_countWays_114 ?_
              refine lv_aload_n hx hb dX7_countWays_117 rfl (lv_at hl 4 rfl) ?_
              refine va_get (D := D) (ci := 7) (v := .ref (ad 134)) (C := RX8) (T := TX8) (N := 13) hx hb hts inX8 hown hK hP 1 slw_o1 rfl 3 (by decide) fl67 (fun _ h9 => h9) rfl dX7_countWays_118 ?_
              refine lv_iload hx hb dX7_countWays_121 (lv_at hl 0 rfl) ?_
              refine va_iald hx hb hK hP 10 2 slw_a10 rfl (x_in (by omega) (by omega)) dX7_countWays_123 ?_
              refine lv_topi (fun i_15 ei_15 => ?_)
              have ei_15 : i_15 = (σ.2.2.1 134) (Int32.toNatClampNeg i9) := ei_15
              have bi_15 := b_at hB134 ei_15
              refine va_iald hx hb hK hP 5 2 slw_a5 rfl (x_in (by omega) (by omega)) dX7_countWays_124 ?_
              refine lv_topi (fun i_16 ei_16 => ?_)
              have ei_16 : i_16 = fh (Int32.toNatClampNeg i_15) := ei_16
              refine lv_iadd hx hb dX7_countWays_125 ?_
              refine lv_topi (fun i_17 ei_17 => ?_)
              refine va_mmin hx hb (hml.trans hl.1.symm) hown (hts (.methodLink RX7 74 Lib.Math.min.name) (List.mem_of_getElem? (i := 7) rfl)) (hts (.static Lib.Math.min.name) (List.mem_of_getElem? (i := 8) rfl)) (hts (.initialized "java/lang/Math") (List.mem_of_getElem? (i := 9) rfl)) (hts (.code Lib.Math.min.name Lib.Math.min.code 2 (some .int)) (List.mem_of_getElem? (i := 10) rfl)) (Nat.le_of_ble_eq_true rfl) (Nat.le_of_ble_eq_true rfl) (Nat.le_of_ble_eq_true rfl) (Nat.le_of_ble_eq_true rfl) dX7_countWays_126 ?_
              refine lv_topi (fun i_18 ei_18 => ?_)
              refine va_iast hx hb hK hP hD hS 5 2 slw_a5 rfl (x_in (by omega) (by omega)) dX7_countWays_129 (fun H locs hP hD hS => ?_)
              obtain ⟨f_19, ef_19⟩ : ∃ z9 : Nat → Int32, z9 = (upd fh (Int32.toNatClampNeg i9) i_18) := ⟨_, rfl⟩
              have hP : va_P D vwCl (slw y ad (tI (tI σ 174 fh) 174 f_19)) H := by rw [ef_19]; exact x_trP hP slw_s5
              have hD : va_D A (slw y ad (tI (tI σ 174 fh) 174 f_19)) := by rw [ef_19]; exact x_trD hD slw_s5
              obtain ⟨i_20, ei_20⟩ : ∃ z9 : Int32, z9 = i9 + 1 := ⟨_, rfl⟩
              have vi_20 : i_20.toInt = i9.toInt + 1 := by have h9 := x_add ei_20 (by omega) (by omega); omega
              refine lv_iinc (v := i_20) (lv' := [(5, .int i_20), (4, .int r_1), (3, .int i), (2, .int q), (1, .ref (ad 130)), (0, .ref (ad 170))]) hx hb dX7_countWays_130 hl (k := 0) rfl (by rw [ei_20]; rfl) (by decide) rfl (fun ls hl => ?_)
              refine lv_goto (tgt := 10) hx hb dX7_countWays_133 (by decide) ?_
              have hP : va_P D vwCl (slw y ad (tI σ 174 f_19)) H := hP
              have hD : va_D A (slw y ad (tI σ 174 f_19)) := hD
              exact ih_loop i_20 f_19 H locs ls (by omega) (by omega) (by omega) hP hD hS (lv_sub hl [0, 1, 2, 3, 4, 5] rfl)
            · have kc_12 : i_11.toInt = 31 := by have h9 := c_12; simp only [ge_iff_le, gt_iff_lt, x_lt, x_le, x_eq, ne_eq, Int32.not_lt, Int32.not_le] at h9; simp only [Int32.reduceToInt] at h9; omega
              refine lv_aload_n hx hb dX7_countWays_71 rfl (lv_at hl 5 rfl) ?_
              refine va_get (D := D) (ci := 6) (v := .ref (ad 174)) (C := RX7) (T := TX7) (N := 5) hx hb hts inX7 hown hK hP 0 slw_o0 rfl 3 (by decide) fl21 (fun _ h9 => h9) rfl dX7_countWays_72 ?_
              refine lv_iload hx hb dX7_countWays_75 (lv_at hl 0 rfl) ?_
              refine lv_aload_n hx hb dX7_countWays_77 rfl (lv_at hl 5 rfl) ?_
              refine va_get (D := D) (ci := 6) (v := .ref (ad 174)) (C := RX7) (T := TX7) (N := 5) hx hb hts inX7 hown hK hP 0 slw_o0 rfl 3 (by decide) fl21 (fun _ h9 => h9) rfl dX7_countWays_78 ?_
              refine lv_aload_n hx hb dX7_countWays_81 rfl (lv_at hl 4 rfl) ?_
              refine va_get (D := D) (ci := 7) (v := .ref (ad 133)) (C := RX8) (T := TX8) (N := 13) hx hb hts inX8 hown hK hP 1 slw_o1 rfl 2 (by decide) fl64 (fun _ h9 => h9) rfl dX7_countWays_82 ?_
              refine lv_iload hx hb dX7_countWays_85 (lv_at hl 0 rfl) ?_
              refine va_iald hx hb hK hP 9 2 slw_a9 rfl (x_in (by omega) (by omega)) dX7_countWays_87 ?_
              refine lv_topi (fun i_21 ei_21 => ?_)
              have ei_21 : i_21 = (σ.2.2.1 133) (Int32.toNatClampNeg i9) := ei_21
              have bi_21 := b_at hB133 ei_21
              refine va_iald hx hb hK hP 5 2 slw_a5 rfl (x_in (by omega) (by omega)) dX7_countWays_88 ?_
              refine lv_topi (fun i_22 ei_22 => ?_)
              have ei_22 : i_22 = fh (Int32.toNatClampNeg i_21) := ei_22
              refine va_iast hx hb hK hP hD hS 5 2 slw_a5 rfl (x_in (by omega) (by omega)) dX7_countWays_89 (fun H locs hP hD hS => ?_)
              obtain ⟨f_23, ef_23⟩ : ∃ z9 : Nat → Int32, z9 = (upd fh (Int32.toNatClampNeg i9) i_22) := ⟨_, rfl⟩
              have hP : va_P D vwCl (slw y ad (tI (tI σ 174 fh) 174 f_23)) H := by rw [ef_23]; exact x_trP hP slw_s5
              have hD : va_D A (slw y ad (tI (tI σ 174 fh) 174 f_23)) := by rw [ef_23]; exact x_trD hD slw_s5
              refine lv_goto (tgt := 130) hx hb dX7_countWays_90 (by decide) ?_
              obtain ⟨i_24, ei_24⟩ : ∃ z9 : Int32, z9 = i9 + 1 := ⟨_, rfl⟩
              have vi_24 : i_24.toInt = i9.toInt + 1 := by have h9 := x_add ei_24 (by omega) (by omega); omega
              refine lv_iinc (v := i_24) (lv' := [(5, .int i_24), (4, .int r_1), (3, .int i), (2, .int q), (1, .ref (ad 130)), (0, .ref (ad 170))]) hx hb dX7_countWays_130 hl (k := 0) rfl (by rw [ei_24]; rfl) (by decide) rfl (fun ls hl => ?_)
              refine lv_goto (tgt := 10) hx hb dX7_countWays_133 (by decide) ?_
              have hP : va_P D vwCl (slw y ad (tI σ 174 f_23)) H := hP
              have hD : va_D A (slw y ad (tI σ 174 f_23)) := hD
              exact ih_loop i_24 f_23 H locs ls (by omega) (by omega) (by omega) hP hD hS (lv_sub hl [0, 1, 2, 3, 4, 5] rfl)
        · have kc_4 : i9.toInt < (σ.1 138).toInt := by have h9 := c_4; simp only [ge_iff_le, gt_iff_lt, x_lt, x_le, x_eq, ne_eq, Int32.not_lt, Int32.not_le] at h9; omega
          refine lv_aload_n hx hb dX7_countWays_26 rfl (lv_at hl 5 rfl) ?_
          refine va_get (D := D) (ci := 6) (v := .ref (ad 174)) (C := RX7) (T := TX7) (N := 5) hx hb hts inX7 hown hK hP 0 slw_o0 rfl 3 (by decide) fl21 (fun _ h9 => h9) rfl dX7_countWays_27 ?_
          refine lv_iload hx hb dX7_countWays_30 (lv_at hl 0 rfl) ?_
          refine lv_iload hx hb dX7_countWays_32 (lv_at hl 0 rfl) ?_
          refine lv_iload_n hx hb dX7_countWays_34 rfl (lv_at hl 2 rfl) ?_
          refine lv_icmp_ne (tgt := 42) hx hb dX7_countWays_35 (by decide) (fun c_25 => ?_) (fun c_25 => ?_)
          · have kc_25 : i9.toInt ≠ i.toInt := by have h9 := c_25; simp only [ge_iff_le, gt_iff_lt, x_lt, x_le, x_eq, ne_eq, Int32.not_lt, Int32.not_le] at h9; omega
            refine lv_iconst (v := 0) hx hb dX7_countWays_42 (by decide) ?_
            refine va_iast hx hb hK hP hD hS 5 2 slw_a5 rfl (x_in (by omega) (by omega)) dX7_countWays_43 (fun H locs hP hD hS => ?_)
            obtain ⟨f_26, ef_26⟩ : ∃ z9 : Nat → Int32, z9 = (upd fh (Int32.toNatClampNeg i9) 0) := ⟨_, rfl⟩
            have hP : va_P D vwCl (slw y ad (tI (tI σ 174 fh) 174 f_26)) H := by rw [ef_26]; exact x_trP hP slw_s5
            have hD : va_D A (slw y ad (tI (tI σ 174 fh) 174 f_26)) := by rw [ef_26]; exact x_trD hD slw_s5
            refine lv_goto (tgt := 130) hx hb dX7_countWays_44 (by decide) ?_
            obtain ⟨i_27, ei_27⟩ : ∃ z9 : Int32, z9 = i9 + 1 := ⟨_, rfl⟩
            have vi_27 : i_27.toInt = i9.toInt + 1 := by have h9 := x_add ei_27 (by omega) (by omega); omega
            refine lv_iinc (v := i_27) (lv' := [(5, .int i_27), (4, .int r_1), (3, .int i), (2, .int q), (1, .ref (ad 130)), (0, .ref (ad 170))]) hx hb dX7_countWays_130 hl (k := 0) rfl (by rw [ei_27]; rfl) (by decide) rfl (fun ls hl => ?_)
            refine lv_goto (tgt := 10) hx hb dX7_countWays_133 (by decide) ?_
            have hP : va_P D vwCl (slw y ad (tI σ 174 f_26)) H := hP
            have hD : va_D A (slw y ad (tI σ 174 f_26)) := hD
            exact ih_loop i_27 f_26 H locs ls (by omega) (by omega) (by omega) hP hD hS (lv_sub hl [0, 1, 2, 3, 4, 5] rfl)
          · have kc_25 : i9.toInt = i.toInt := by have h9 := c_25; simp only [ge_iff_le, gt_iff_lt, x_lt, x_le, x_eq, ne_eq, Int32.not_lt, Int32.not_le] at h9; omega
            refine lv_iconst (v := 1) hx hb dX7_countWays_38 (by decide) ?_
            refine lv_goto (tgt := 43) hx hb dX7_countWays_39 (by decide) ?_
            refine va_iast hx hb hK hP hD hS 5 2 slw_a5 rfl (x_in (by omega) (by omega)) dX7_countWays_43 (fun H locs hP hD hS => ?_)
            obtain ⟨f_28, ef_28⟩ : ∃ z9 : Nat → Int32, z9 = (upd fh (Int32.toNatClampNeg i9) 1) := ⟨_, rfl⟩
            have hP : va_P D vwCl (slw y ad (tI (tI σ 174 fh) 174 f_28)) H := by rw [ef_28]; exact x_trP hP slw_s5
            have hD : va_D A (slw y ad (tI (tI σ 174 fh) 174 f_28)) := by rw [ef_28]; exact x_trD hD slw_s5
            refine lv_goto (tgt := 130) hx hb dX7_countWays_44 (by decide) ?_
            obtain ⟨i_29, ei_29⟩ : ∃ z9 : Int32, z9 = i9 + 1 := ⟨_, rfl⟩
            have vi_29 : i_29.toInt = i9.toInt + 1 := by have h9 := x_add ei_29 (by omega) (by omega); omega
            refine lv_iinc (v := i_29) (lv' := [(5, .int i_29), (4, .int r_1), (3, .int i), (2, .int q), (1, .ref (ad 130)), (0, .ref (ad 170))]) hx hb dX7_countWays_130 hl (k := 0) rfl (by rw [ei_29]; rfl) (by decide) rfl (fun ls hl => ?_)
            refine lv_goto (tgt := 10) hx hb dX7_countWays_133 (by decide) ?_
            have hP : va_P D vwCl (slw y ad (tI σ 174 f_28)) H := hP
            have hD : va_D A (slw y ad (tI σ 174 f_28)) := hD
            exact ih_loop i_29 f_28 H locs ls (by omega) (by omega) (by omega) hP hD hS (lv_sub hl [0, 1, 2, 3, 4, 5] rfl)
  exact loop 1360 0 (σ.2.2.1 174) H locs ls (by decide) (by omega) (by omega) hP hD hS (lv_sub hl [0, 1, 5, 4, 3, 2] rfl)

