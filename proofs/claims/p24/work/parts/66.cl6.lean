abbrev txw_f0 (y : Nat → ClassId) (ad : Nat → Nat) (σ : OS) : List Value := [.ref (ad 21), .int (σ.1 22)]
def txw (y : Nat → ClassId) (ad : Nat → Nat) (σ : OS) : va_W := [((ad 20), .inr (8, txw_f0 y ad σ)), (ad 21, .inl (y 0, 700, .inl (σ.2.2.1 21)))]
theorem txw_o0 {y : Nat → ClassId} {ad : Nat → Nat} {σ : OS} : (txw y ad σ)[0]? = some ((ad 20), .inr (8, txw_f0 y ad σ)) := rfl
theorem txw_p0_1 {y : Nat → ClassId} {ad : Nat → Nat} {σ : OS} {v : Int32} : (txw y ad σ).set 0 ((ad 20), .inr (8, (txw_f0 y ad σ).set 1 (.int v))) = txw y ad (sI σ 22 v) := rfl
theorem txw_a1 {y : Nat → ClassId} {ad : Nat → Nat} {σ : OS} : (txw y ad σ)[1]? = some (ad 21, .inl (y 0, 700, .inl (σ.2.2.1 21))) := rfl
theorem txw_s1 {y : Nat → ClassId} {ad : Nat → Nat} {σ : OS} {g : Nat → Int32} : (txw y ad σ).set 1 (ad 21, .inl (y 0, 700, .inl g)) = txw y ad (tI σ 21 g) := rfl
abbrev tkw_f0 (y : Nat → ClassId) (ad : Nat → Nat) (σ : OS) : List Value := [.ref (ad 41), .ref (ad 42), .ref (ad 43), .ref (ad 44), .int (σ.1 45), .int (σ.1 46)]
abbrev tkw_f1 (y : Nat → ClassId) (ad : Nat → Nat) (σ : OS) : List Value := [.ref (ad 21), .int (σ.1 22)]
def tkw (y : Nat → ClassId) (ad : Nat → Nat) (σ : OS) : va_W := [((ad 40), .inr (9, tkw_f0 y ad σ)), ((ad 20), .inr (8, tkw_f1 y ad σ)), (ad 41, .inl (y 3, 14, .inr (.inl (σ.2.2.2 41)))), (ad 42, .inl (y 2, 700, .inl (σ.2.2.1 42))), (ad 43, .inl (y 2, 700, .inl (σ.2.2.1 43))), (ad 44, .inl (y 3, 700, .inr (.inl (σ.2.2.2 44)))), (ad 21, .inl (y 0, 700, .inl (σ.2.2.1 21)))]
theorem tkw_o0 {y : Nat → ClassId} {ad : Nat → Nat} {σ : OS} : (tkw y ad σ)[0]? = some ((ad 40), .inr (9, tkw_f0 y ad σ)) := rfl
theorem tkw_p0_4 {y : Nat → ClassId} {ad : Nat → Nat} {σ : OS} {v : Int32} : (tkw y ad σ).set 0 ((ad 40), .inr (9, (tkw_f0 y ad σ).set 4 (.int v))) = tkw y ad (sI σ 45 v) := rfl
theorem tkw_p0_5 {y : Nat → ClassId} {ad : Nat → Nat} {σ : OS} {v : Int32} : (tkw y ad σ).set 0 ((ad 40), .inr (9, (tkw_f0 y ad σ).set 5 (.int v))) = tkw y ad (sI σ 46 v) := rfl
theorem tkw_o1 {y : Nat → ClassId} {ad : Nat → Nat} {σ : OS} : (tkw y ad σ)[1]? = some ((ad 20), .inr (8, tkw_f1 y ad σ)) := rfl
theorem tkw_p1_1 {y : Nat → ClassId} {ad : Nat → Nat} {σ : OS} {v : Int32} : (tkw y ad σ).set 1 ((ad 20), .inr (8, (tkw_f1 y ad σ).set 1 (.int v))) = tkw y ad (sI σ 22 v) := rfl
theorem tkw_a2 {y : Nat → ClassId} {ad : Nat → Nat} {σ : OS} : (tkw y ad σ)[2]? = some (ad 41, .inl (y 3, 14, .inr (.inl (σ.2.2.2 41)))) := rfl
theorem tkw_s2 {y : Nat → ClassId} {ad : Nat → Nat} {σ : OS} {g : Nat → Int64} : (tkw y ad σ).set 2 (ad 41, .inl (y 3, 14, .inr (.inl g))) = tkw y ad (tJ σ 41 g) := rfl
theorem tkw_a3 {y : Nat → ClassId} {ad : Nat → Nat} {σ : OS} : (tkw y ad σ)[3]? = some (ad 42, .inl (y 2, 700, .inl (σ.2.2.1 42))) := rfl
theorem tkw_s3 {y : Nat → ClassId} {ad : Nat → Nat} {σ : OS} {g : Nat → Int32} : (tkw y ad σ).set 3 (ad 42, .inl (y 2, 700, .inl g)) = tkw y ad (tI σ 42 g) := rfl
theorem tkw_a4 {y : Nat → ClassId} {ad : Nat → Nat} {σ : OS} : (tkw y ad σ)[4]? = some (ad 43, .inl (y 2, 700, .inl (σ.2.2.1 43))) := rfl
theorem tkw_s4 {y : Nat → ClassId} {ad : Nat → Nat} {σ : OS} {g : Nat → Int32} : (tkw y ad σ).set 4 (ad 43, .inl (y 2, 700, .inl g)) = tkw y ad (tI σ 43 g) := rfl
theorem tkw_a5 {y : Nat → ClassId} {ad : Nat → Nat} {σ : OS} : (tkw y ad σ)[5]? = some (ad 44, .inl (y 3, 700, .inr (.inl (σ.2.2.2 44)))) := rfl
theorem tkw_s5 {y : Nat → ClassId} {ad : Nat → Nat} {σ : OS} {g : Nat → Int64} : (tkw y ad σ).set 5 (ad 44, .inl (y 3, 700, .inr (.inl g))) = tkw y ad (tJ σ 44 g) := rfl
theorem tkw_a6 {y : Nat → ClassId} {ad : Nat → Nat} {σ : OS} : (tkw y ad σ)[6]? = some (ad 21, .inl (y 0, 700, .inl (σ.2.2.1 21))) := rfl
theorem tkw_s6 {y : Nat → ClassId} {ad : Nat → Nat} {σ : OS} {g : Nat → Int32} : (tkw y ad σ).set 6 (ad 21, .inl (y 0, 700, .inl g)) = tkw y ad (tI σ 21 g) := rfl
abbrev pgw_f0 (y : Nat → ClassId) (ad : Nat → Nat) (σ : OS) : List Value := [.int (σ.1 61), .int (σ.1 62), .int (σ.1 63), .int (σ.1 64), .int (σ.1 65), .int (σ.1 66), .ref (ad 67), .int (σ.1 68), .ref (ad 69), .ref (ad 70), .ref (ad 71), .ref (ad 72), .ref (ad 73)]
def pgw (y : Nat → ClassId) (ad : Nat → Nat) (σ : OS) : va_W := [((ad 60), .inr (5, pgw_f0 y ad σ)), (ad 67, .inl (y 2, 4, .inl (σ.2.2.1 67))), (ad 69, .inl (y 3, 24, .inr (.inl (σ.2.2.2 69)))), (ad 70, .inl (y 2, 24, .inl (σ.2.2.1 70))), (ad 71, .inl (y 2, 350, .inl (σ.2.2.1 71))), (ad 72, .inl (y 2, 700, .inl (σ.2.2.1 72))), (ad 73, .inl (y 2, 700, .inl (σ.2.2.1 73)))]
theorem pgw_o0 {y : Nat → ClassId} {ad : Nat → Nat} {σ : OS} : (pgw y ad σ)[0]? = some ((ad 60), .inr (5, pgw_f0 y ad σ)) := rfl
theorem pgw_p0_0 {y : Nat → ClassId} {ad : Nat → Nat} {σ : OS} {v : Int32} : (pgw y ad σ).set 0 ((ad 60), .inr (5, (pgw_f0 y ad σ).set 0 (.int v))) = pgw y ad (sI σ 61 v) := rfl
theorem pgw_p0_1 {y : Nat → ClassId} {ad : Nat → Nat} {σ : OS} {v : Int32} : (pgw y ad σ).set 0 ((ad 60), .inr (5, (pgw_f0 y ad σ).set 1 (.int v))) = pgw y ad (sI σ 62 v) := rfl
theorem pgw_p0_2 {y : Nat → ClassId} {ad : Nat → Nat} {σ : OS} {v : Int32} : (pgw y ad σ).set 0 ((ad 60), .inr (5, (pgw_f0 y ad σ).set 2 (.int v))) = pgw y ad (sI σ 63 v) := rfl
theorem pgw_p0_3 {y : Nat → ClassId} {ad : Nat → Nat} {σ : OS} {v : Int32} : (pgw y ad σ).set 0 ((ad 60), .inr (5, (pgw_f0 y ad σ).set 3 (.int v))) = pgw y ad (sI σ 64 v) := rfl
theorem pgw_p0_4 {y : Nat → ClassId} {ad : Nat → Nat} {σ : OS} {v : Int32} : (pgw y ad σ).set 0 ((ad 60), .inr (5, (pgw_f0 y ad σ).set 4 (.int v))) = pgw y ad (sI σ 65 v) := rfl
theorem pgw_p0_5 {y : Nat → ClassId} {ad : Nat → Nat} {σ : OS} {v : Int32} : (pgw y ad σ).set 0 ((ad 60), .inr (5, (pgw_f0 y ad σ).set 5 (.int v))) = pgw y ad (sI σ 66 v) := rfl
theorem pgw_p0_7 {y : Nat → ClassId} {ad : Nat → Nat} {σ : OS} {v : Int32} : (pgw y ad σ).set 0 ((ad 60), .inr (5, (pgw_f0 y ad σ).set 7 (.int v))) = pgw y ad (sI σ 68 v) := rfl
theorem pgw_a1 {y : Nat → ClassId} {ad : Nat → Nat} {σ : OS} : (pgw y ad σ)[1]? = some (ad 67, .inl (y 2, 4, .inl (σ.2.2.1 67))) := rfl
theorem pgw_s1 {y : Nat → ClassId} {ad : Nat → Nat} {σ : OS} {g : Nat → Int32} : (pgw y ad σ).set 1 (ad 67, .inl (y 2, 4, .inl g)) = pgw y ad (tI σ 67 g) := rfl
theorem pgw_a2 {y : Nat → ClassId} {ad : Nat → Nat} {σ : OS} : (pgw y ad σ)[2]? = some (ad 69, .inl (y 3, 24, .inr (.inl (σ.2.2.2 69)))) := rfl
theorem pgw_s2 {y : Nat → ClassId} {ad : Nat → Nat} {σ : OS} {g : Nat → Int64} : (pgw y ad σ).set 2 (ad 69, .inl (y 3, 24, .inr (.inl g))) = pgw y ad (tJ σ 69 g) := rfl
theorem pgw_a3 {y : Nat → ClassId} {ad : Nat → Nat} {σ : OS} : (pgw y ad σ)[3]? = some (ad 70, .inl (y 2, 24, .inl (σ.2.2.1 70))) := rfl
theorem pgw_s3 {y : Nat → ClassId} {ad : Nat → Nat} {σ : OS} {g : Nat → Int32} : (pgw y ad σ).set 3 (ad 70, .inl (y 2, 24, .inl g)) = pgw y ad (tI σ 70 g) := rfl
theorem pgw_a4 {y : Nat → ClassId} {ad : Nat → Nat} {σ : OS} : (pgw y ad σ)[4]? = some (ad 71, .inl (y 2, 350, .inl (σ.2.2.1 71))) := rfl
theorem pgw_s4 {y : Nat → ClassId} {ad : Nat → Nat} {σ : OS} {g : Nat → Int32} : (pgw y ad σ).set 4 (ad 71, .inl (y 2, 350, .inl g)) = pgw y ad (tI σ 71 g) := rfl
theorem pgw_a5 {y : Nat → ClassId} {ad : Nat → Nat} {σ : OS} : (pgw y ad σ)[5]? = some (ad 72, .inl (y 2, 700, .inl (σ.2.2.1 72))) := rfl
theorem pgw_s5 {y : Nat → ClassId} {ad : Nat → Nat} {σ : OS} {g : Nat → Int32} : (pgw y ad σ).set 5 (ad 72, .inl (y 2, 700, .inl g)) = pgw y ad (tI σ 72 g) := rfl
theorem pgw_a6 {y : Nat → ClassId} {ad : Nat → Nat} {σ : OS} : (pgw y ad σ)[6]? = some (ad 73, .inl (y 2, 700, .inl (σ.2.2.1 73))) := rfl
theorem pgw_s6 {y : Nat → ClassId} {ad : Nat → Nat} {σ : OS} {g : Nat → Int32} : (pgw y ad σ).set 6 (ad 73, .inl (y 2, 700, .inl g)) = pgw y ad (tI σ 73 g) := rfl
theorem dX9_hasRoomFor_0 : decode cX9_hasRoomFor 0 = .ok (.aload_n 0, 1) := by decide +kernel
theorem dX9_hasRoomFor_1 : decode cX9_hasRoomFor 1 = .ok (.getfield 15, 3) := by decide +kernel
theorem dX9_hasRoomFor_4 : decode cX9_hasRoomFor 4 = .ok (.iload_n 1, 1) := by decide +kernel
theorem dX9_hasRoomFor_5 : decode cX9_hasRoomFor 5 = .ok (.iadd, 1) := by decide +kernel
theorem dX9_hasRoomFor_6 : decode cX9_hasRoomFor 6 = .ok (.sipush 700, 3) := by decide +kernel
theorem dX9_hasRoomFor_9 : decode cX9_hasRoomFor 9 = .ok (.if_icmp .gt 7, 3) := by decide +kernel
theorem dX9_hasRoomFor_12 : decode cX9_hasRoomFor 12 = .ok (.iconst 1, 1) := by decide +kernel
theorem dX9_hasRoomFor_13 : decode cX9_hasRoomFor 13 = .ok (.goto 4, 3) := by decide +kernel
theorem dX9_hasRoomFor_16 : decode cX9_hasRoomFor 16 = .ok (.iconst 0, 1) := by decide +kernel
theorem dX9_hasRoomFor_17 : decode cX9_hasRoomFor 17 = .ok (.ireturn, 1) := by decide +kernel
theorem dX9_addFour_0 : decode cX9_addFour 0 = .ok (.bipush 24, 2) := by decide +kernel
theorem dX9_addFour_2 : decode cX9_addFour 2 = .ok (.istore_n 2, 1) := by decide +kernel
theorem dX9_addFour_3 : decode cX9_addFour 3 = .ok (.iload_n 2, 1) := by decide +kernel
theorem dX9_addFour_4 : decode cX9_addFour 4 = .ok (.ifCond .lt 42, 3) := by decide +kernel
theorem dX9_addFour_7 : decode cX9_addFour 7 = .ok (.aload_n 0, 1) := by decide +kernel
theorem dX9_addFour_8 : decode cX9_addFour 8 = .ok (.getfield 15, 3) := by decide +kernel
theorem dX9_addFour_11 : decode cX9_addFour 11 = .ok (.sipush 700, 3) := by decide +kernel
theorem dX9_addFour_14 : decode cX9_addFour 14 = .ok (.if_icmp .ge 32, 3) := by decide +kernel
theorem dX9_addFour_17 : decode cX9_addFour 17 = .ok (.aload_n 0, 1) := by decide +kernel
theorem dX9_addFour_18 : decode cX9_addFour 18 = .ok (.getfield 11, 3) := by decide +kernel
theorem dX9_addFour_21 : decode cX9_addFour 21 = .ok (.aload_n 0, 1) := by decide +kernel
theorem dX9_addFour_22 : decode cX9_addFour 22 = .ok (.getfield 15, 3) := by decide +kernel
theorem dX9_addFour_25 : decode cX9_addFour 25 = .ok (.iload_n 1, 1) := by decide +kernel
theorem dX9_addFour_26 : decode cX9_addFour 26 = .ok (.iload_n 2, 1) := by decide +kernel
theorem dX9_addFour_27 : decode cX9_addFour 27 = .ok (.ishr, 1) := by decide +kernel
theorem dX9_addFour_28 : decode cX9_addFour 28 = .ok (.i2b, 1) := by decide +kernel
theorem dX9_addFour_29 : decode cX9_addFour 29 = .ok (.bastore, 1) := by decide +kernel
theorem dX9_addFour_30 : decode cX9_addFour 30 = .ok (.aload_n 0, 1) := by decide +kernel
theorem dX9_addFour_31 : decode cX9_addFour 31 = .ok (.dup, 1) := by decide +kernel
theorem dX9_addFour_32 : decode cX9_addFour 32 = .ok (.getfield 15, 3) := by decide +kernel
theorem dX9_addFour_35 : decode cX9_addFour 35 = .ok (.iconst 1, 1) := by decide +kernel
theorem dX9_addFour_36 : decode cX9_addFour 36 = .ok (.iadd, 1) := by decide +kernel
theorem dX9_addFour_37 : decode cX9_addFour 37 = .ok (.putfield 15, 3) := by decide +kernel
theorem dX9_addFour_40 : decode cX9_addFour 40 = .ok (.iinc 2 (-8), 3) := by decide +kernel
theorem dX9_addFour_43 : decode cX9_addFour 43 = .ok (.goto (-40), 3) := by decide +kernel
theorem dX9_addFour_46 : decode cX9_addFour 46 = .ok (.return_, 1) := by decide +kernel
theorem dX9_cutTo_0 : decode cX9_cutTo 0 = .ok (.iload_n 1, 1) := by decide +kernel
theorem dX9_cutTo_1 : decode cX9_cutTo 1 = .ok (.ifCond .lt 11, 3) := by decide +kernel
theorem dX9_cutTo_4 : decode cX9_cutTo 4 = .ok (.iload_n 1, 1) := by decide +kernel
theorem dX9_cutTo_5 : decode cX9_cutTo 5 = .ok (.aload_n 0, 1) := by decide +kernel
theorem dX9_cutTo_6 : decode cX9_cutTo 6 = .ok (.getfield 15, 3) := by decide +kernel
theorem dX9_cutTo_9 : decode cX9_cutTo 9 = .ok (.if_icmp .le 5, 3) := by decide +kernel
theorem dX9_cutTo_12 : decode cX9_cutTo 12 = .ok (.iconst 0, 1) := by decide +kernel
theorem dX9_cutTo_13 : decode cX9_cutTo 13 = .ok (.ireturn, 1) := by decide +kernel
theorem dX9_cutTo_14 : decode cX9_cutTo 14 = .ok (.aload_n 0, 1) := by decide +kernel
theorem dX9_cutTo_15 : decode cX9_cutTo 15 = .ok (.iload_n 1, 1) := by decide +kernel
theorem dX9_cutTo_16 : decode cX9_cutTo 16 = .ok (.putfield 15, 3) := by decide +kernel
theorem dX9_cutTo_19 : decode cX9_cutTo 19 = .ok (.iconst 1, 1) := by decide +kernel
theorem dX9_cutTo_20 : decode cX9_cutTo 20 = .ok (.ireturn, 1) := by decide +kernel
theorem dX9_size_0 : decode cX9_size 0 = .ok (.aload_n 0, 1) := by decide +kernel
theorem dX9_size_1 : decode cX9_size 1 = .ok (.getfield 15, 3) := by decide +kernel
theorem dX9_size_4 : decode cX9_size 4 = .ok (.ireturn, 1) := by decide +kernel
theorem dX9_at_0 : decode cX9_at 0 = .ok (.iload_n 1, 1) := by decide +kernel
theorem dX9_at_1 : decode cX9_at 1 = .ok (.ifCond .lt 24, 3) := by decide +kernel
theorem dX9_at_4 : decode cX9_at 4 = .ok (.iload_n 1, 1) := by decide +kernel
theorem dX9_at_5 : decode cX9_at 5 = .ok (.aload_n 0, 1) := by decide +kernel
theorem dX9_at_6 : decode cX9_at 6 = .ok (.getfield 15, 3) := by decide +kernel
theorem dX9_at_9 : decode cX9_at 9 = .ok (.if_icmp .ge 16, 3) := by decide +kernel
theorem dX9_at_12 : decode cX9_at 12 = .ok (.aload_n 0, 1) := by decide +kernel
theorem dX9_at_13 : decode cX9_at 13 = .ok (.getfield 11, 3) := by decide +kernel
theorem dX9_at_16 : decode cX9_at 16 = .ok (.iload_n 1, 1) := by decide +kernel
theorem dX9_at_17 : decode cX9_at 17 = .ok (.baload, 1) := by decide +kernel
theorem dX9_at_18 : decode cX9_at 18 = .ok (.sipush 255, 3) := by decide +kernel
theorem dX9_at_21 : decode cX9_at 21 = .ok (.iand, 1) := by decide +kernel
theorem dX9_at_22 : decode cX9_at 22 = .ok (.goto 4, 3) := by decide +kernel
theorem dX9_at_25 : decode cX9_at 25 = .ok (.iconst (-1), 1) := by decide +kernel
theorem dX9_at_26 : decode cX9_at 26 = .ok (.ireturn, 1) := by decide +kernel
theorem dX10_isBlank_0 : decode cX10_isBlank 0 = .ok (.iload_n 0, 1) := by decide +kernel
theorem dX10_isBlank_1 : decode cX10_isBlank 1 = .ok (.bipush 10, 2) := by decide +kernel
theorem dX10_isBlank_3 : decode cX10_isBlank 3 = .ok (.if_icmp .eq 9, 3) := by decide +kernel
theorem dX10_isBlank_6 : decode cX10_isBlank 6 = .ok (.iload_n 0, 1) := by decide +kernel
theorem dX10_isBlank_7 : decode cX10_isBlank 7 = .ok (.bipush 32, 2) := by decide +kernel
theorem dX10_isBlank_9 : decode cX10_isBlank 9 = .ok (.if_icmp .ne 7, 3) := by decide +kernel
theorem dX10_isBlank_12 : decode cX10_isBlank 12 = .ok (.iconst 1, 1) := by decide +kernel
theorem dX10_isBlank_13 : decode cX10_isBlank 13 = .ok (.goto 4, 3) := by decide +kernel
theorem dX10_isBlank_16 : decode cX10_isBlank 16 = .ok (.iconst 0, 1) := by decide +kernel
theorem dX10_isBlank_17 : decode cX10_isBlank 17 = .ok (.ireturn, 1) := by decide +kernel
theorem dX10_isDigit_0 : decode cX10_isDigit 0 = .ok (.iload_n 0, 1) := by decide +kernel
theorem dX10_isDigit_1 : decode cX10_isDigit 1 = .ok (.bipush 48, 2) := by decide +kernel
theorem dX10_isDigit_3 : decode cX10_isDigit 3 = .ok (.if_icmp .lt 13, 3) := by decide +kernel
theorem dX10_isDigit_6 : decode cX10_isDigit 6 = .ok (.iload_n 0, 1) := by decide +kernel
theorem dX10_isDigit_7 : decode cX10_isDigit 7 = .ok (.bipush 57, 2) := by decide +kernel
theorem dX10_isDigit_9 : decode cX10_isDigit 9 = .ok (.if_icmp .gt 7, 3) := by decide +kernel
theorem dX10_isDigit_12 : decode cX10_isDigit 12 = .ok (.iconst 1, 1) := by decide +kernel
theorem dX10_isDigit_13 : decode cX10_isDigit 13 = .ok (.goto 4, 3) := by decide +kernel
theorem dX10_isDigit_16 : decode cX10_isDigit 16 = .ok (.iconst 0, 1) := by decide +kernel
theorem dX10_isDigit_17 : decode cX10_isDigit 17 = .ok (.ireturn, 1) := by decide +kernel
theorem dX10_isLetter_0 : decode cX10_isLetter 0 = .ok (.iload_n 0, 1) := by decide +kernel
theorem dX10_isLetter_1 : decode cX10_isLetter 1 = .ok (.bipush 97, 2) := by decide +kernel
theorem dX10_isLetter_3 : decode cX10_isLetter 3 = .ok (.if_icmp .lt 9, 3) := by decide +kernel
theorem dX10_isLetter_6 : decode cX10_isLetter 6 = .ok (.iload_n 0, 1) := by decide +kernel
theorem dX10_isLetter_7 : decode cX10_isLetter 7 = .ok (.bipush 122, 2) := by decide +kernel
theorem dX10_isLetter_9 : decode cX10_isLetter 9 = .ok (.if_icmp .le 15, 3) := by decide +kernel
theorem dX10_isLetter_12 : decode cX10_isLetter 12 = .ok (.iload_n 0, 1) := by decide +kernel
theorem dX10_isLetter_13 : decode cX10_isLetter 13 = .ok (.bipush 65, 2) := by decide +kernel
theorem dX10_isLetter_15 : decode cX10_isLetter 15 = .ok (.if_icmp .lt 13, 3) := by decide +kernel
theorem dX10_isLetter_18 : decode cX10_isLetter 18 = .ok (.iload_n 0, 1) := by decide +kernel
theorem dX10_isLetter_19 : decode cX10_isLetter 19 = .ok (.bipush 90, 2) := by decide +kernel
theorem dX10_isLetter_21 : decode cX10_isLetter 21 = .ok (.if_icmp .gt 7, 3) := by decide +kernel
theorem dX10_isLetter_24 : decode cX10_isLetter 24 = .ok (.iconst 1, 1) := by decide +kernel
theorem dX10_isLetter_25 : decode cX10_isLetter 25 = .ok (.goto 4, 3) := by decide +kernel
theorem dX10_isLetter_28 : decode cX10_isLetter 28 = .ok (.iconst 0, 1) := by decide +kernel
theorem dX10_isLetter_29 : decode cX10_isLetter 29 = .ok (.ireturn, 1) := by decide +kernel
theorem dX10_joined_0 : decode cX10_joined 0 = .ok (.lload_n 0, 1) := by decide +kernel
theorem dX10_joined_1 : decode cX10_joined 1 = .ok (.bipush 8, 2) := by decide +kernel
theorem dX10_joined_3 : decode cX10_joined 3 = .ok (.lshl, 1) := by decide +kernel
theorem dX10_joined_4 : decode cX10_joined 4 = .ok (.iload_n 2, 1) := by decide +kernel
theorem dX10_joined_5 : decode cX10_joined 5 = .ok (.i2l, 1) := by decide +kernel
theorem dX10_joined_6 : decode cX10_joined 6 = .ok (.lor, 1) := by decide +kernel
theorem dX10_joined_7 : decode cX10_joined 7 = .ok (.lreturn, 1) := by decide +kernel
theorem dX10_isGlued_0 : decode cX10_isGlued 0 = .ok (.aload_n 0, 1) := by decide +kernel
theorem dX10_isGlued_1 : decode cX10_isGlued 1 = .ok (.iload_n 1, 1) := by decide +kernel
theorem dX10_isGlued_2 : decode cX10_isGlued 2 = .ok (.iconst 1, 1) := by decide +kernel
theorem dX10_isGlued_3 : decode cX10_isGlued 3 = .ok (.isub, 1) := by decide +kernel
theorem dX10_isGlued_4 : decode cX10_isGlued 4 = .ok (.invokevirtual 54, 3) := by decide +kernel
theorem dX10_isGlued_7 : decode cX10_isGlued 7 = .ok (.istore_n 2, 1) := by decide +kernel
theorem dX10_isGlued_8 : decode cX10_isGlued 8 = .ok (.iload_n 2, 1) := by decide +kernel
theorem dX10_isGlued_9 : decode cX10_isGlued 9 = .ok (.invokestatic 58, 3) := by decide +kernel
theorem dX10_isGlued_12 : decode cX10_isGlued 12 = .ok (.ifCond .ne 10, 3) := by decide +kernel
theorem dX10_isGlued_15 : decode cX10_isGlued 15 = .ok (.iload_n 2, 1) := by decide +kernel
theorem dX10_isGlued_16 : decode cX10_isGlued 16 = .ok (.invokestatic 65, 3) := by decide +kernel
theorem dX10_isGlued_19 : decode cX10_isGlued 19 = .ok (.ifCond .eq 7, 3) := by decide +kernel
theorem dX10_isGlued_22 : decode cX10_isGlued 22 = .ok (.iconst 1, 1) := by decide +kernel
theorem dX10_isGlued_23 : decode cX10_isGlued 23 = .ok (.goto 4, 3) := by decide +kernel
theorem dX10_isGlued_26 : decode cX10_isGlued 26 = .ok (.iconst 0, 1) := by decide +kernel
theorem dX10_isGlued_27 : decode cX10_isGlued 27 = .ok (.ireturn, 1) := by decide +kernel
theorem dX10_kindAt_0 : decode cX10_kindAt 0 = .ok (.iload_n 1, 1) := by decide +kernel
theorem dX10_kindAt_1 : decode cX10_kindAt 1 = .ok (.ifCond .lt 20, 3) := by decide +kernel
theorem dX10_kindAt_4 : decode cX10_kindAt 4 = .ok (.iload_n 1, 1) := by decide +kernel
theorem dX10_kindAt_5 : decode cX10_kindAt 5 = .ok (.aload_n 0, 1) := by decide +kernel
theorem dX10_kindAt_6 : decode cX10_kindAt 6 = .ok (.getfield 41, 3) := by decide +kernel
theorem dX10_kindAt_9 : decode cX10_kindAt 9 = .ok (.if_icmp .ge 12, 3) := by decide +kernel
theorem dX10_kindAt_12 : decode cX10_kindAt 12 = .ok (.aload_n 0, 1) := by decide +kernel
theorem dX10_kindAt_13 : decode cX10_kindAt 13 = .ok (.getfield 15, 3) := by decide +kernel
theorem dX10_kindAt_16 : decode cX10_kindAt 16 = .ok (.iload_n 1, 1) := by decide +kernel
theorem dX10_kindAt_17 : decode cX10_kindAt 17 = .ok (.iaload, 1) := by decide +kernel
theorem dX10_kindAt_18 : decode cX10_kindAt 18 = .ok (.goto 6, 3) := by decide +kernel
theorem dX10_kindAt_21 : decode cX10_kindAt 21 = .ok (.sipush 256, 3) := by decide +kernel
theorem dX10_kindAt_24 : decode cX10_kindAt 24 = .ok (.ireturn, 1) := by decide +kernel
theorem dX10_startAt_0 : decode cX10_startAt 0 = .ok (.iload_n 1, 1) := by decide +kernel
theorem dX10_startAt_1 : decode cX10_startAt 1 = .ok (.ifCond .lt 20, 3) := by decide +kernel
theorem dX10_startAt_4 : decode cX10_startAt 4 = .ok (.iload_n 1, 1) := by decide +kernel
theorem dX10_startAt_5 : decode cX10_startAt 5 = .ok (.aload_n 0, 1) := by decide +kernel
theorem dX10_startAt_6 : decode cX10_startAt 6 = .ok (.getfield 41, 3) := by decide +kernel
theorem dX10_startAt_9 : decode cX10_startAt 9 = .ok (.if_icmp .ge 12, 3) := by decide +kernel
theorem dX10_startAt_12 : decode cX10_startAt 12 = .ok (.aload_n 0, 1) := by decide +kernel
theorem dX10_startAt_13 : decode cX10_startAt 13 = .ok (.getfield 19, 3) := by decide +kernel
theorem dX10_startAt_16 : decode cX10_startAt 16 = .ok (.iload_n 1, 1) := by decide +kernel
theorem dX10_startAt_17 : decode cX10_startAt 17 = .ok (.iaload, 1) := by decide +kernel
theorem dX10_startAt_18 : decode cX10_startAt 18 = .ok (.goto 7, 3) := by decide +kernel
theorem dX10_startAt_21 : decode cX10_startAt 21 = .ok (.aload_n 0, 1) := by decide +kernel
theorem dX10_startAt_22 : decode cX10_startAt 22 = .ok (.getfield 48, 3) := by decide +kernel
theorem dX10_startAt_25 : decode cX10_startAt 25 = .ok (.ireturn, 1) := by decide +kernel
theorem dX10_worthAt_0 : decode cX10_worthAt 0 = .ok (.iload_n 1, 1) := by decide +kernel
theorem dX10_worthAt_1 : decode cX10_worthAt 1 = .ok (.ifCond .lt 20, 3) := by decide +kernel
theorem dX10_worthAt_4 : decode cX10_worthAt 4 = .ok (.iload_n 1, 1) := by decide +kernel
theorem dX10_worthAt_5 : decode cX10_worthAt 5 = .ok (.aload_n 0, 1) := by decide +kernel
theorem dX10_worthAt_6 : decode cX10_worthAt 6 = .ok (.getfield 41, 3) := by decide +kernel
theorem dX10_worthAt_9 : decode cX10_worthAt 9 = .ok (.if_icmp .ge 12, 3) := by decide +kernel
theorem dX10_worthAt_12 : decode cX10_worthAt 12 = .ok (.aload_n 0, 1) := by decide +kernel
theorem dX10_worthAt_13 : decode cX10_worthAt 13 = .ok (.getfield 22, 3) := by decide +kernel
theorem dX10_worthAt_16 : decode cX10_worthAt 16 = .ok (.iload_n 1, 1) := by decide +kernel
theorem dX10_worthAt_17 : decode cX10_worthAt 17 = .ok (.laload, 1) := by decide +kernel
theorem dX10_worthAt_18 : decode cX10_worthAt 18 = .ok (.goto 4, 3) := by decide +kernel
theorem dX10_worthAt_21 : decode cX10_worthAt 21 = .ok (.lconst 0, 1) := by decide +kernel
theorem dX10_worthAt_22 : decode cX10_worthAt 22 = .ok (.lreturn, 1) := by decide +kernel
theorem dX10_kindOfWord_0 : decode cX10_kindOfWord 0 = .ok (.iconst 0, 1) := by decide +kernel
theorem dX10_kindOfWord_1 : decode cX10_kindOfWord 1 = .ok (.istore_n 3, 1) := by decide +kernel
theorem dX10_kindOfWord_2 : decode cX10_kindOfWord 2 = .ok (.iload_n 3, 1) := by decide +kernel
theorem dX10_kindOfWord_3 : decode cX10_kindOfWord 3 = .ok (.bipush 14, 2) := by decide +kernel
theorem dX10_kindOfWord_5 : decode cX10_kindOfWord 5 = .ok (.if_icmp .ge 26, 3) := by decide +kernel
theorem dX10_kindOfWord_8 : decode cX10_kindOfWord 8 = .ok (.aload_n 0, 1) := by decide +kernel
theorem dX10_kindOfWord_9 : decode cX10_kindOfWord 9 = .ok (.getfield 9, 3) := by decide +kernel
theorem dX10_kindOfWord_12 : decode cX10_kindOfWord 12 = .ok (.iload_n 3, 1) := by decide +kernel
theorem dX10_kindOfWord_13 : decode cX10_kindOfWord 13 = .ok (.laload, 1) := by decide +kernel
theorem dX10_kindOfWord_14 : decode cX10_kindOfWord 14 = .ok (.lload_n 1, 1) := by decide +kernel
theorem dX10_kindOfWord_15 : decode cX10_kindOfWord 15 = .ok (.lcmp, 1) := by decide +kernel
theorem dX10_kindOfWord_16 : decode cX10_kindOfWord 16 = .ok (.ifCond .ne 9, 3) := by decide +kernel
theorem dX10_kindOfWord_19 : decode cX10_kindOfWord 19 = .ok (.sipush 262, 3) := by decide +kernel
theorem dX10_kindOfWord_22 : decode cX10_kindOfWord 22 = .ok (.iload_n 3, 1) := by decide +kernel
theorem dX10_kindOfWord_23 : decode cX10_kindOfWord 23 = .ok (.iadd, 1) := by decide +kernel
theorem dX10_kindOfWord_24 : decode cX10_kindOfWord 24 = .ok (.ireturn, 1) := by decide +kernel
theorem dX10_kindOfWord_25 : decode cX10_kindOfWord 25 = .ok (.iinc 3 1, 3) := by decide +kernel
theorem dX10_kindOfWord_28 : decode cX10_kindOfWord 28 = .ok (.goto (-26), 3) := by decide +kernel
theorem dX10_kindOfWord_31 : decode cX10_kindOfWord 31 = .ok (.sipush 258, 3) := by decide +kernel
theorem dX10_kindOfWord_34 : decode cX10_kindOfWord 34 = .ok (.ireturn, 1) := by decide +kernel
theorem dX10_add_0 : decode cX10_add 0 = .ok (.aload_n 0, 1) := by decide +kernel
theorem dX10_add_1 : decode cX10_add 1 = .ok (.getfield 41, 3) := by decide +kernel
theorem dX10_add_4 : decode cX10_add 4 = .ok (.sipush 700, 3) := by decide +kernel
theorem dX10_add_7 : decode cX10_add 7 = .ok (.if_icmp .ge 43, 3) := by decide +kernel
theorem dX10_add_10 : decode cX10_add 10 = .ok (.aload_n 0, 1) := by decide +kernel
theorem dX10_add_11 : decode cX10_add 11 = .ok (.getfield 15, 3) := by decide +kernel
theorem dX10_add_14 : decode cX10_add 14 = .ok (.aload_n 0, 1) := by decide +kernel
theorem dX10_add_15 : decode cX10_add 15 = .ok (.getfield 41, 3) := by decide +kernel
theorem dX10_add_18 : decode cX10_add 18 = .ok (.iload_n 1, 1) := by decide +kernel
theorem dX10_add_19 : decode cX10_add 19 = .ok (.iastore, 1) := by decide +kernel
theorem dX10_add_20 : decode cX10_add 20 = .ok (.aload_n 0, 1) := by decide +kernel
theorem dX10_add_21 : decode cX10_add 21 = .ok (.getfield 19, 3) := by decide +kernel
theorem dX10_add_24 : decode cX10_add 24 = .ok (.aload_n 0, 1) := by decide +kernel
theorem dX10_add_25 : decode cX10_add 25 = .ok (.getfield 41, 3) := by decide +kernel
theorem dX10_add_28 : decode cX10_add 28 = .ok (.iload_n 2, 1) := by decide +kernel
theorem dX10_add_29 : decode cX10_add 29 = .ok (.iastore, 1) := by decide +kernel
theorem dX10_add_30 : decode cX10_add 30 = .ok (.aload_n 0, 1) := by decide +kernel
theorem dX10_add_31 : decode cX10_add 31 = .ok (.getfield 22, 3) := by decide +kernel
theorem dX10_add_34 : decode cX10_add 34 = .ok (.aload_n 0, 1) := by decide +kernel
theorem dX10_add_35 : decode cX10_add 35 = .ok (.getfield 41, 3) := by decide +kernel
theorem dX10_add_38 : decode cX10_add 38 = .ok (.lload_n 3, 1) := by decide +kernel
theorem dX10_add_39 : decode cX10_add 39 = .ok (.lastore, 1) := by decide +kernel
theorem dX10_add_40 : decode cX10_add 40 = .ok (.aload_n 0, 1) := by decide +kernel
theorem dX10_add_41 : decode cX10_add 41 = .ok (.dup, 1) := by decide +kernel
theorem dX10_add_42 : decode cX10_add 42 = .ok (.getfield 41, 3) := by decide +kernel
theorem dX10_add_45 : decode cX10_add 45 = .ok (.iconst 1, 1) := by decide +kernel
theorem dX10_add_46 : decode cX10_add 46 = .ok (.iadd, 1) := by decide +kernel
theorem dX10_add_47 : decode cX10_add 47 = .ok (.putfield 41, 3) := by decide +kernel
theorem dX10_add_50 : decode cX10_add 50 = .ok (.return_, 1) := by decide +kernel
theorem dX10_takeWord_0 : decode cX10_takeWord 0 = .ok (.lconst 0, 1) := by decide +kernel
theorem dX10_takeWord_1 : decode cX10_takeWord 1 = .ok (.lstore_n 3, 1) := by decide +kernel
theorem dX10_takeWord_2 : decode cX10_takeWord 2 = .ok (.iload_n 2, 1) := by decide +kernel
theorem dX10_takeWord_3 : decode cX10_takeWord 3 = .ok (.istore 5, 2) := by decide +kernel
theorem dX10_takeWord_5 : decode cX10_takeWord 5 = .ok (.iconst 0, 1) := by decide +kernel
theorem dX10_takeWord_6 : decode cX10_takeWord 6 = .ok (.istore 6, 2) := by decide +kernel
theorem dX10_takeWord_8 : decode cX10_takeWord 8 = .ok (.iload 6, 2) := by decide +kernel
theorem dX10_takeWord_10 : decode cX10_takeWord 10 = .ok (.sipush 700, 3) := by decide +kernel
theorem dX10_takeWord_13 : decode cX10_takeWord 13 = .ok (.if_icmp .ge 35, 3) := by decide +kernel
theorem dX10_takeWord_16 : decode cX10_takeWord 16 = .ok (.aload_n 1, 1) := by decide +kernel
theorem dX10_takeWord_17 : decode cX10_takeWord 17 = .ok (.iload 5, 2) := by decide +kernel
theorem dX10_takeWord_19 : decode cX10_takeWord 19 = .ok (.invokevirtual 54, 3) := by decide +kernel
theorem dX10_takeWord_22 : decode cX10_takeWord 22 = .ok (.invokestatic 58, 3) := by decide +kernel
theorem dX10_takeWord_25 : decode cX10_takeWord 25 = .ok (.ifCond .eq 23, 3) := by decide +kernel
theorem dX10_takeWord_28 : decode cX10_takeWord 28 = .ok (.lload_n 3, 1) := by decide +kernel
theorem dX10_takeWord_29 : decode cX10_takeWord 29 = .ok (.aload_n 1, 1) := by decide +kernel
theorem dX10_takeWord_30 : decode cX10_takeWord 30 = .ok (.iload 5, 2) := by decide +kernel
theorem dX10_takeWord_32 : decode cX10_takeWord 32 = .ok (.invokevirtual 54, 3) := by decide +kernel
theorem dX10_takeWord_35 : decode cX10_takeWord 35 = .ok (.invokestatic 37, 3) := by decide +kernel
theorem dX10_takeWord_38 : decode cX10_takeWord 38 = .ok (.lstore_n 3, 1) := by decide +kernel
theorem dX10_takeWord_39 : decode cX10_takeWord 39 = .ok (.iinc 5 1, 3) := by decide +kernel
theorem dX10_takeWord_42 : decode cX10_takeWord 42 = .ok (.iinc 6 1, 3) := by decide +kernel
theorem dX10_takeWord_45 : decode cX10_takeWord 45 = .ok (.goto (-37), 3) := by decide +kernel
theorem dX10_takeWord_48 : decode cX10_takeWord 48 = .ok (.iload 5, 2) := by decide +kernel
theorem dX10_takeWord_50 : decode cX10_takeWord 50 = .ok (.iload_n 2, 1) := by decide +kernel
theorem dX10_takeWord_51 : decode cX10_takeWord 51 = .ok (.isub, 1) := by decide +kernel
theorem dX10_takeWord_52 : decode cX10_takeWord 52 = .ok (.bipush 6, 2) := by decide +kernel
theorem dX10_takeWord_54 : decode cX10_takeWord 54 = .ok (.if_icmp .le 9, 3) := by decide +kernel
theorem dX10_takeWord_57 : decode cX10_takeWord 57 = .ok (.sipush 259, 3) := by decide +kernel
theorem dX10_takeWord_60 : decode cX10_takeWord 60 = .ok (.goto 8, 3) := by decide +kernel
theorem dX10_takeWord_63 : decode cX10_takeWord 63 = .ok (.aload_n 0, 1) := by decide +kernel
theorem dX10_takeWord_64 : decode cX10_takeWord 64 = .ok (.lload_n 3, 1) := by decide +kernel
theorem dX10_takeWord_65 : decode cX10_takeWord 65 = .ok (.invokevirtual 78, 3) := by decide +kernel
theorem dX10_takeWord_68 : decode cX10_takeWord 68 = .ok (.istore 6, 2) := by decide +kernel
theorem dX10_takeWord_70 : decode cX10_takeWord 70 = .ok (.aload_n 0, 1) := by decide +kernel
theorem dX10_takeWord_71 : decode cX10_takeWord 71 = .ok (.aload_n 1, 1) := by decide +kernel
theorem dX10_takeWord_72 : decode cX10_takeWord 72 = .ok (.iload_n 2, 1) := by decide +kernel
theorem dX10_takeWord_73 : decode cX10_takeWord 73 = .ok (.invokestatic 82, 3) := by decide +kernel
theorem dX10_takeWord_76 : decode cX10_takeWord 76 = .ok (.ifCond .eq 9, 3) := by decide +kernel
theorem dX10_takeWord_79 : decode cX10_takeWord 79 = .ok (.sipush 257, 3) := by decide +kernel
theorem dX10_takeWord_82 : decode cX10_takeWord 82 = .ok (.goto 5, 3) := by decide +kernel
theorem dX10_takeWord_85 : decode cX10_takeWord 85 = .ok (.iload 6, 2) := by decide +kernel
theorem dX10_takeWord_87 : decode cX10_takeWord 87 = .ok (.iload_n 2, 1) := by decide +kernel
theorem dX10_takeWord_88 : decode cX10_takeWord 88 = .ok (.lload_n 3, 1) := by decide +kernel
theorem dX10_takeWord_89 : decode cX10_takeWord 89 = .ok (.invokevirtual 74, 3) := by decide +kernel
theorem dX10_takeWord_92 : decode cX10_takeWord 92 = .ok (.iload 5, 2) := by decide +kernel
theorem dX10_takeWord_94 : decode cX10_takeWord 94 = .ok (.ireturn, 1) := by decide +kernel
theorem dX10_takeNumber_0 : decode cX10_takeNumber 0 = .ok (.iconst 0, 1) := by decide +kernel
theorem dX10_takeNumber_1 : decode cX10_takeNumber 1 = .ok (.istore_n 3, 1) := by decide +kernel
theorem dX10_takeNumber_2 : decode cX10_takeNumber 2 = .ok (.iload_n 2, 1) := by decide +kernel
theorem dX10_takeNumber_3 : decode cX10_takeNumber 3 = .ok (.istore 4, 2) := by decide +kernel
theorem dX10_takeNumber_5 : decode cX10_takeNumber 5 = .ok (.iconst 0, 1) := by decide +kernel
theorem dX10_takeNumber_6 : decode cX10_takeNumber 6 = .ok (.istore 5, 2) := by decide +kernel
theorem dX10_takeNumber_8 : decode cX10_takeNumber 8 = .ok (.iload 5, 2) := by decide +kernel
theorem dX10_takeNumber_10 : decode cX10_takeNumber 10 = .ok (.sipush 700, 3) := by decide +kernel
theorem dX10_takeNumber_13 : decode cX10_takeNumber 13 = .ok (.if_icmp .ge 39, 3) := by decide +kernel
theorem dX10_takeNumber_16 : decode cX10_takeNumber 16 = .ok (.aload_n 1, 1) := by decide +kernel
theorem dX10_takeNumber_17 : decode cX10_takeNumber 17 = .ok (.iload 4, 2) := by decide +kernel
theorem dX10_takeNumber_19 : decode cX10_takeNumber 19 = .ok (.invokevirtual 54, 3) := by decide +kernel
theorem dX10_takeNumber_22 : decode cX10_takeNumber 22 = .ok (.invokestatic 65, 3) := by decide +kernel
theorem dX10_takeNumber_25 : decode cX10_takeNumber 25 = .ok (.ifCond .eq 27, 3) := by decide +kernel
theorem dX10_takeNumber_28 : decode cX10_takeNumber 28 = .ok (.iload_n 3, 1) := by decide +kernel
theorem dX10_takeNumber_29 : decode cX10_takeNumber 29 = .ok (.bipush 10, 2) := by decide +kernel
theorem dX10_takeNumber_31 : decode cX10_takeNumber 31 = .ok (.imul, 1) := by decide +kernel
theorem dX10_takeNumber_32 : decode cX10_takeNumber 32 = .ok (.aload_n 1, 1) := by decide +kernel
theorem dX10_takeNumber_33 : decode cX10_takeNumber 33 = .ok (.iload 4, 2) := by decide +kernel
theorem dX10_takeNumber_35 : decode cX10_takeNumber 35 = .ok (.invokevirtual 54, 3) := by decide +kernel
theorem dX10_takeNumber_38 : decode cX10_takeNumber 38 = .ok (.iadd, 1) := by decide +kernel
theorem dX10_takeNumber_39 : decode cX10_takeNumber 39 = .ok (.bipush 48, 2) := by decide +kernel
theorem dX10_takeNumber_41 : decode cX10_takeNumber 41 = .ok (.isub, 1) := by decide +kernel
theorem dX10_takeNumber_42 : decode cX10_takeNumber 42 = .ok (.istore_n 3, 1) := by decide +kernel
theorem dX10_takeNumber_43 : decode cX10_takeNumber 43 = .ok (.iinc 4 1, 3) := by decide +kernel
theorem dX10_takeNumber_46 : decode cX10_takeNumber 46 = .ok (.iinc 5 1, 3) := by decide +kernel
theorem dX10_takeNumber_49 : decode cX10_takeNumber 49 = .ok (.goto (-41), 3) := by decide +kernel
theorem dX10_takeNumber_52 : decode cX10_takeNumber 52 = .ok (.iload 4, 2) := by decide +kernel
theorem dX10_takeNumber_54 : decode cX10_takeNumber 54 = .ok (.iload_n 2, 1) := by decide +kernel
theorem dX10_takeNumber_55 : decode cX10_takeNumber 55 = .ok (.isub, 1) := by decide +kernel
theorem dX10_takeNumber_56 : decode cX10_takeNumber 56 = .ok (.iconst 4, 1) := by decide +kernel
theorem dX10_takeNumber_57 : decode cX10_takeNumber 57 = .ok (.if_icmp .le 9, 3) := by decide +kernel
theorem dX10_takeNumber_60 : decode cX10_takeNumber 60 = .ok (.sipush 261, 3) := by decide +kernel
theorem dX10_takeNumber_63 : decode cX10_takeNumber 63 = .ok (.goto 6, 3) := by decide +kernel
theorem dX10_takeNumber_66 : decode cX10_takeNumber 66 = .ok (.sipush 260, 3) := by decide +kernel
theorem dX10_takeNumber_69 : decode cX10_takeNumber 69 = .ok (.istore 5, 2) := by decide +kernel
theorem dX10_takeNumber_71 : decode cX10_takeNumber 71 = .ok (.aload_n 0, 1) := by decide +kernel
theorem dX10_takeNumber_72 : decode cX10_takeNumber 72 = .ok (.aload_n 1, 1) := by decide +kernel
theorem dX10_takeNumber_73 : decode cX10_takeNumber 73 = .ok (.iload_n 2, 1) := by decide +kernel
theorem dX10_takeNumber_74 : decode cX10_takeNumber 74 = .ok (.invokestatic 82, 3) := by decide +kernel
theorem dX10_takeNumber_77 : decode cX10_takeNumber 77 = .ok (.ifCond .eq 9, 3) := by decide +kernel
theorem dX10_takeNumber_80 : decode cX10_takeNumber 80 = .ok (.sipush 257, 3) := by decide +kernel
theorem dX10_takeNumber_83 : decode cX10_takeNumber 83 = .ok (.goto 5, 3) := by decide +kernel
theorem dX10_takeNumber_86 : decode cX10_takeNumber 86 = .ok (.iload 5, 2) := by decide +kernel
theorem dX10_takeNumber_88 : decode cX10_takeNumber 88 = .ok (.iload_n 2, 1) := by decide +kernel
theorem dX10_takeNumber_89 : decode cX10_takeNumber 89 = .ok (.iload_n 3, 1) := by decide +kernel
theorem dX10_takeNumber_90 : decode cX10_takeNumber 90 = .ok (.i2l, 1) := by decide +kernel
theorem dX10_takeNumber_91 : decode cX10_takeNumber 91 = .ok (.invokevirtual 74, 3) := by decide +kernel
theorem dX10_takeNumber_94 : decode cX10_takeNumber 94 = .ok (.iload 4, 2) := by decide +kernel
theorem dX10_takeNumber_96 : decode cX10_takeNumber 96 = .ok (.ireturn, 1) := by decide +kernel
theorem dX10_take_0 : decode cX10_take 0 = .ok (.aload_n 1, 1) := by decide +kernel
theorem dX10_take_1 : decode cX10_take 1 = .ok (.iload_n 2, 1) := by decide +kernel
theorem dX10_take_2 : decode cX10_take 2 = .ok (.invokevirtual 54, 3) := by decide +kernel
theorem dX10_take_5 : decode cX10_take 5 = .ok (.istore_n 3, 1) := by decide +kernel
theorem dX10_take_6 : decode cX10_take 6 = .ok (.iload_n 3, 1) := by decide +kernel
theorem dX10_take_7 : decode cX10_take 7 = .ok (.invokestatic 58, 3) := by decide +kernel
theorem dX10_take_10 : decode cX10_take 10 = .ok (.ifCond .eq 10, 3) := by decide +kernel
theorem dX10_take_13 : decode cX10_take 13 = .ok (.aload_n 0, 1) := by decide +kernel
theorem dX10_take_14 : decode cX10_take 14 = .ok (.aload_n 1, 1) := by decide +kernel
theorem dX10_take_15 : decode cX10_take 15 = .ok (.iload_n 2, 1) := by decide +kernel
theorem dX10_take_16 : decode cX10_take 16 = .ok (.invokevirtual 62, 3) := by decide +kernel
theorem dX10_take_19 : decode cX10_take 19 = .ok (.ireturn, 1) := by decide +kernel
theorem dX10_take_20 : decode cX10_take 20 = .ok (.iload_n 3, 1) := by decide +kernel
theorem dX10_take_21 : decode cX10_take 21 = .ok (.invokestatic 65, 3) := by decide +kernel
theorem dX10_take_24 : decode cX10_take 24 = .ok (.ifCond .eq 10, 3) := by decide +kernel
theorem dX10_take_27 : decode cX10_take 27 = .ok (.aload_n 0, 1) := by decide +kernel
theorem dX10_take_28 : decode cX10_take 28 = .ok (.aload_n 1, 1) := by decide +kernel
theorem dX10_take_29 : decode cX10_take 29 = .ok (.iload_n 2, 1) := by decide +kernel
theorem dX10_take_30 : decode cX10_take 30 = .ok (.invokevirtual 68, 3) := by decide +kernel
theorem dX10_take_33 : decode cX10_take 33 = .ok (.ireturn, 1) := by decide +kernel
theorem dX10_take_34 : decode cX10_take 34 = .ok (.iload_n 3, 1) := by decide +kernel
theorem dX10_take_35 : decode cX10_take 35 = .ok (.invokestatic 71, 3) := by decide +kernel
theorem dX10_take_38 : decode cX10_take 38 = .ok (.ifCond .ne 10, 3) := by decide +kernel
theorem dX10_take_41 : decode cX10_take 41 = .ok (.aload_n 0, 1) := by decide +kernel
theorem dX10_take_42 : decode cX10_take 42 = .ok (.iload_n 3, 1) := by decide +kernel
theorem dX10_take_43 : decode cX10_take 43 = .ok (.iload_n 2, 1) := by decide +kernel
theorem dX10_take_44 : decode cX10_take 44 = .ok (.lconst 0, 1) := by decide +kernel
theorem dX10_take_45 : decode cX10_take 45 = .ok (.invokevirtual 74, 3) := by decide +kernel
theorem dX10_take_48 : decode cX10_take 48 = .ok (.iload_n 2, 1) := by decide +kernel
theorem dX10_take_49 : decode cX10_take 49 = .ok (.iconst 1, 1) := by decide +kernel
theorem dX10_take_50 : decode cX10_take 50 = .ok (.iadd, 1) := by decide +kernel
theorem dX10_take_51 : decode cX10_take 51 = .ok (.ireturn, 1) := by decide +kernel
theorem dX10_cut_0 : decode cX10_cut 0 = .ok (.aload_n 0, 1) := by decide +kernel
theorem dX10_cut_1 : decode cX10_cut 1 = .ok (.iconst 0, 1) := by decide +kernel
theorem dX10_cut_2 : decode cX10_cut 2 = .ok (.putfield 41, 3) := by decide +kernel
theorem dX10_cut_5 : decode cX10_cut 5 = .ok (.aload_n 0, 1) := by decide +kernel
theorem dX10_cut_6 : decode cX10_cut 6 = .ok (.aload_n 1, 1) := by decide +kernel
theorem dX10_cut_7 : decode cX10_cut 7 = .ok (.invokevirtual 45, 3) := by decide +kernel
theorem dX10_cut_10 : decode cX10_cut 10 = .ok (.putfield 48, 3) := by decide +kernel
theorem dX10_cut_13 : decode cX10_cut 13 = .ok (.iconst 0, 1) := by decide +kernel
theorem dX10_cut_14 : decode cX10_cut 14 = .ok (.istore_n 2, 1) := by decide +kernel
theorem dX10_cut_15 : decode cX10_cut 15 = .ok (.iconst 0, 1) := by decide +kernel
theorem dX10_cut_16 : decode cX10_cut 16 = .ok (.istore_n 3, 1) := by decide +kernel
theorem dX10_cut_17 : decode cX10_cut 17 = .ok (.iload_n 3, 1) := by decide +kernel
theorem dX10_cut_18 : decode cX10_cut 18 = .ok (.sipush 700, 3) := by decide +kernel
theorem dX10_cut_21 : decode cX10_cut 21 = .ok (.if_icmp .ge 24, 3) := by decide +kernel
theorem dX10_cut_24 : decode cX10_cut 24 = .ok (.iload_n 2, 1) := by decide +kernel
theorem dX10_cut_25 : decode cX10_cut 25 = .ok (.aload_n 0, 1) := by decide +kernel
theorem dX10_cut_26 : decode cX10_cut 26 = .ok (.getfield 48, 3) := by decide +kernel
theorem dX10_cut_29 : decode cX10_cut 29 = .ok (.if_icmp .ge 16, 3) := by decide +kernel
theorem dX10_cut_32 : decode cX10_cut 32 = .ok (.aload_n 0, 1) := by decide +kernel
theorem dX10_cut_33 : decode cX10_cut 33 = .ok (.aload_n 1, 1) := by decide +kernel
theorem dX10_cut_34 : decode cX10_cut 34 = .ok (.iload_n 2, 1) := by decide +kernel
theorem dX10_cut_35 : decode cX10_cut 35 = .ok (.invokevirtual 50, 3) := by decide +kernel
theorem dX10_cut_38 : decode cX10_cut 38 = .ok (.istore_n 2, 1) := by decide +kernel
theorem dX10_cut_39 : decode cX10_cut 39 = .ok (.iinc 3 1, 3) := by decide +kernel
theorem dX10_cut_42 : decode cX10_cut 42 = .ok (.goto (-25), 3) := by decide +kernel
theorem dX10_cut_45 : decode cX10_cut 45 = .ok (.return_, 1) := by decide +kernel
theorem dX6_clear_0 : decode cX6_clear 0 = .ok (.aload_n 0, 1) := by decide +kernel
theorem dX6_clear_1 : decode cX6_clear 1 = .ok (.iconst 0, 1) := by decide +kernel
theorem dX6_clear_2 : decode cX6_clear 2 = .ok (.putfield 33, 3) := by decide +kernel
theorem dX6_clear_5 : decode cX6_clear 5 = .ok (.aload_n 0, 1) := by decide +kernel
theorem dX6_clear_6 : decode cX6_clear 6 = .ok (.iconst 0, 1) := by decide +kernel
theorem dX6_clear_7 : decode cX6_clear 7 = .ok (.putfield 37, 3) := by decide +kernel
theorem dX6_clear_10 : decode cX6_clear 10 = .ok (.aload_n 0, 1) := by decide +kernel
theorem dX6_clear_11 : decode cX6_clear 11 = .ok (.iconst 0, 1) := by decide +kernel
theorem dX6_clear_12 : decode cX6_clear 12 = .ok (.putfield 40, 3) := by decide +kernel
theorem dX6_clear_15 : decode cX6_clear 15 = .ok (.aload_n 0, 1) := by decide +kernel
theorem dX6_clear_16 : decode cX6_clear 16 = .ok (.iconst 0, 1) := by decide +kernel
theorem dX6_clear_17 : decode cX6_clear 17 = .ok (.putfield 43, 3) := by decide +kernel
theorem dX6_clear_20 : decode cX6_clear 20 = .ok (.aload_n 0, 1) := by decide +kernel
theorem dX6_clear_21 : decode cX6_clear 21 = .ok (.iconst 0, 1) := by decide +kernel
theorem dX6_clear_22 : decode cX6_clear 22 = .ok (.putfield 46, 3) := by decide +kernel
theorem dX6_clear_25 : decode cX6_clear 25 = .ok (.aload_n 0, 1) := by decide +kernel
theorem dX6_clear_26 : decode cX6_clear 26 = .ok (.iconst 0, 1) := by decide +kernel
theorem dX6_clear_27 : decode cX6_clear 27 = .ok (.putfield 49, 3) := by decide +kernel
theorem dX6_clear_30 : decode cX6_clear 30 = .ok (.aload_n 0, 1) := by decide +kernel
theorem dX6_clear_31 : decode cX6_clear 31 = .ok (.iconst 0, 1) := by decide +kernel
theorem dX6_clear_32 : decode cX6_clear 32 = .ok (.putfield 52, 3) := by decide +kernel
theorem dX6_clear_35 : decode cX6_clear 35 = .ok (.return_, 1) := by decide +kernel
theorem dX6_emit_0 : decode cX6_emit 0 = .ok (.aload_n 0, 1) := by decide +kernel
theorem dX6_emit_1 : decode cX6_emit 1 = .ok (.getfield 52, 3) := by decide +kernel
theorem dX6_emit_4 : decode cX6_emit 4 = .ok (.sipush 700, 3) := by decide +kernel
theorem dX6_emit_7 : decode cX6_emit 7 = .ok (.if_icmp .ge 32, 3) := by decide +kernel
theorem dX6_emit_10 : decode cX6_emit 10 = .ok (.aload_n 0, 1) := by decide +kernel
theorem dX6_emit_11 : decode cX6_emit 11 = .ok (.getfield 27, 3) := by decide +kernel
theorem dX6_emit_14 : decode cX6_emit 14 = .ok (.aload_n 0, 1) := by decide +kernel
theorem dX6_emit_15 : decode cX6_emit 15 = .ok (.getfield 52, 3) := by decide +kernel
theorem dX6_emit_18 : decode cX6_emit 18 = .ok (.iload_n 1, 1) := by decide +kernel
theorem dX6_emit_19 : decode cX6_emit 19 = .ok (.bipush 12, 2) := by decide +kernel
theorem dX6_emit_21 : decode cX6_emit 21 = .ok (.ishl, 1) := by decide +kernel
theorem dX6_emit_22 : decode cX6_emit 22 = .ok (.iload_n 2, 1) := by decide +kernel
theorem dX6_emit_23 : decode cX6_emit 23 = .ok (.sipush 4095, 3) := by decide +kernel
theorem dX6_emit_26 : decode cX6_emit 26 = .ok (.iand, 1) := by decide +kernel
theorem dX6_emit_27 : decode cX6_emit 27 = .ok (.ior, 1) := by decide +kernel
theorem dX6_emit_28 : decode cX6_emit 28 = .ok (.iastore, 1) := by decide +kernel
theorem dX6_emit_29 : decode cX6_emit 29 = .ok (.aload_n 0, 1) := by decide +kernel
theorem dX6_emit_30 : decode cX6_emit 30 = .ok (.dup, 1) := by decide +kernel
theorem dX6_emit_31 : decode cX6_emit 31 = .ok (.getfield 52, 3) := by decide +kernel
theorem dX6_emit_34 : decode cX6_emit 34 = .ok (.iconst 1, 1) := by decide +kernel
theorem dX6_emit_35 : decode cX6_emit 35 = .ok (.iadd, 1) := by decide +kernel
theorem dX6_emit_36 : decode cX6_emit 36 = .ok (.putfield 52, 3) := by decide +kernel
theorem dX6_emit_39 : decode cX6_emit 39 = .ok (.return_, 1) := by decide +kernel
theorem dX6_emitNumber_0 : decode cX6_emitNumber 0 = .ok (.aload_n 0, 1) := by decide +kernel
theorem dX6_emitNumber_1 : decode cX6_emitNumber 1 = .ok (.getfield 46, 3) := by decide +kernel
theorem dX6_emitNumber_4 : decode cX6_emitNumber 4 = .ok (.sipush 350, 3) := by decide +kernel
theorem dX6_emitNumber_7 : decode cX6_emitNumber 7 = .ok (.if_icmp .ge 32, 3) := by decide +kernel
theorem dX6_emitNumber_10 : decode cX6_emitNumber 10 = .ok (.aload_n 0, 1) := by decide +kernel
theorem dX6_emitNumber_11 : decode cX6_emitNumber 11 = .ok (.getfield 24, 3) := by decide +kernel
theorem dX6_emitNumber_14 : decode cX6_emitNumber 14 = .ok (.aload_n 0, 1) := by decide +kernel
theorem dX6_emitNumber_15 : decode cX6_emitNumber 15 = .ok (.getfield 46, 3) := by decide +kernel
theorem dX6_emitNumber_18 : decode cX6_emitNumber 18 = .ok (.iload_n 1, 1) := by decide +kernel
theorem dX6_emitNumber_19 : decode cX6_emitNumber 19 = .ok (.iastore, 1) := by decide +kernel
theorem dX6_emitNumber_20 : decode cX6_emitNumber 20 = .ok (.aload_n 0, 1) := by decide +kernel
theorem dX6_emitNumber_21 : decode cX6_emitNumber 21 = .ok (.iconst 0, 1) := by decide +kernel
theorem dX6_emitNumber_22 : decode cX6_emitNumber 22 = .ok (.aload_n 0, 1) := by decide +kernel
theorem dX6_emitNumber_23 : decode cX6_emitNumber 23 = .ok (.getfield 46, 3) := by decide +kernel
theorem dX6_emitNumber_26 : decode cX6_emitNumber 26 = .ok (.invokevirtual 55, 3) := by decide +kernel
theorem dX6_emitNumber_29 : decode cX6_emitNumber 29 = .ok (.aload_n 0, 1) := by decide +kernel
theorem dX6_emitNumber_30 : decode cX6_emitNumber 30 = .ok (.dup, 1) := by decide +kernel
theorem dX6_emitNumber_31 : decode cX6_emitNumber 31 = .ok (.getfield 46, 3) := by decide +kernel
theorem dX6_emitNumber_34 : decode cX6_emitNumber 34 = .ok (.iconst 1, 1) := by decide +kernel
theorem dX6_emitNumber_35 : decode cX6_emitNumber 35 = .ok (.iadd, 1) := by decide +kernel
theorem dX6_emitNumber_36 : decode cX6_emitNumber 36 = .ok (.putfield 46, 3) := by decide +kernel
theorem dX6_emitNumber_39 : decode cX6_emitNumber 39 = .ok (.return_, 1) := by decide +kernel
theorem dX6_aimHere_0 : decode cX6_aimHere 0 = .ok (.iload_n 1, 1) := by decide +kernel
theorem dX6_aimHere_1 : decode cX6_aimHere 1 = .ok (.ifCond .lt 32, 3) := by decide +kernel
theorem dX6_aimHere_4 : decode cX6_aimHere 4 = .ok (.iload_n 1, 1) := by decide +kernel
theorem dX6_aimHere_5 : decode cX6_aimHere 5 = .ok (.aload_n 0, 1) := by decide +kernel
theorem dX6_aimHere_6 : decode cX6_aimHere 6 = .ok (.getfield 52, 3) := by decide +kernel
theorem dX6_aimHere_9 : decode cX6_aimHere 9 = .ok (.if_icmp .ge 24, 3) := by decide +kernel
theorem dX6_aimHere_12 : decode cX6_aimHere 12 = .ok (.aload_n 0, 1) := by decide +kernel
theorem dX6_aimHere_13 : decode cX6_aimHere 13 = .ok (.getfield 27, 3) := by decide +kernel
theorem dX6_aimHere_16 : decode cX6_aimHere 16 = .ok (.iload_n 1, 1) := by decide +kernel
theorem dX6_aimHere_17 : decode cX6_aimHere 17 = .ok (.aload_n 0, 1) := by decide +kernel
theorem dX6_aimHere_18 : decode cX6_aimHere 18 = .ok (.getfield 27, 3) := by decide +kernel
theorem dX6_aimHere_21 : decode cX6_aimHere 21 = .ok (.iload_n 1, 1) := by decide +kernel
theorem dX6_aimHere_22 : decode cX6_aimHere 22 = .ok (.iaload, 1) := by decide +kernel
theorem dX6_aimHere_23 : decode cX6_aimHere 23 = .ok (.sipush (-4096), 3) := by decide +kernel
theorem dX6_aimHere_26 : decode cX6_aimHere 26 = .ok (.iand, 1) := by decide +kernel
theorem dX6_aimHere_27 : decode cX6_aimHere 27 = .ok (.aload_n 0, 1) := by decide +kernel
theorem dX6_aimHere_28 : decode cX6_aimHere 28 = .ok (.getfield 52, 3) := by decide +kernel
theorem dX6_aimHere_31 : decode cX6_aimHere 31 = .ok (.ior, 1) := by decide +kernel
theorem dX6_aimHere_32 : decode cX6_aimHere 32 = .ok (.iastore, 1) := by decide +kernel
theorem dX6_aimHere_33 : decode cX6_aimHere 33 = .ok (.return_, 1) := by decide +kernel
theorem dX6_swap_0 : decode cX6_swap 0 = .ok (.iload_n 2, 1) := by decide +kernel
theorem dX6_swap_1 : decode cX6_swap 1 = .ok (.iload_n 1, 1) := by decide +kernel
theorem dX6_swap_2 : decode cX6_swap 2 = .ok (.isub, 1) := by decide +kernel
theorem dX6_swap_3 : decode cX6_swap 3 = .ok (.istore_n 3, 1) := by decide +kernel
theorem dX6_swap_4 : decode cX6_swap 4 = .ok (.aload_n 0, 1) := by decide +kernel
theorem dX6_swap_5 : decode cX6_swap 5 = .ok (.getfield 52, 3) := by decide +kernel
theorem dX6_swap_8 : decode cX6_swap 8 = .ok (.iload_n 2, 1) := by decide +kernel
theorem dX6_swap_9 : decode cX6_swap 9 = .ok (.isub, 1) := by decide +kernel
theorem dX6_swap_10 : decode cX6_swap 10 = .ok (.istore 4, 2) := by decide +kernel
theorem dX6_swap_12 : decode cX6_swap 12 = .ok (.iload_n 1, 1) := by decide +kernel
theorem dX6_swap_13 : decode cX6_swap 13 = .ok (.ifCond .lt 12, 3) := by decide +kernel
theorem dX6_swap_16 : decode cX6_swap 16 = .ok (.iload_n 3, 1) := by decide +kernel
theorem dX6_swap_17 : decode cX6_swap 17 = .ok (.ifCond .le 8, 3) := by decide +kernel
theorem dX6_swap_20 : decode cX6_swap 20 = .ok (.iload 4, 2) := by decide +kernel
theorem dX6_swap_22 : decode cX6_swap 22 = .ok (.ifCond .gt 4, 3) := by decide +kernel
theorem dX6_swap_25 : decode cX6_swap 25 = .ok (.return_, 1) := by decide +kernel
theorem dX6_swap_26 : decode cX6_swap 26 = .ok (.aload_n 0, 1) := by decide +kernel
theorem dX6_swap_27 : decode cX6_swap 27 = .ok (.getfield 27, 3) := by decide +kernel
theorem dX6_swap_30 : decode cX6_swap 30 = .ok (.iload_n 1, 1) := by decide +kernel
theorem dX6_swap_31 : decode cX6_swap 31 = .ok (.aload_n 0, 1) := by decide +kernel
theorem dX6_swap_32 : decode cX6_swap 32 = .ok (.getfield 30, 3) := by decide +kernel
theorem dX6_swap_35 : decode cX6_swap 35 = .ok (.iconst 0, 1) := by decide +kernel
theorem dX6_swap_36 : decode cX6_swap 36 = .ok (.iload_n 3, 1) := by decide +kernel
theorem dX6_swap_37 : decode cX6_swap 37 = .ok (.invokestatic 59, 3) := by decide +kernel
theorem dX6_swap_40 : decode cX6_swap 40 = .ok (.aload_n 0, 1) := by decide +kernel
theorem dX6_swap_41 : decode cX6_swap 41 = .ok (.getfield 27, 3) := by decide +kernel
theorem dX6_swap_44 : decode cX6_swap 44 = .ok (.iload_n 2, 1) := by decide +kernel
theorem dX6_swap_45 : decode cX6_swap 45 = .ok (.aload_n 0, 1) := by decide +kernel
theorem dX6_swap_46 : decode cX6_swap 46 = .ok (.getfield 27, 3) := by decide +kernel
theorem dX6_swap_49 : decode cX6_swap 49 = .ok (.iload_n 1, 1) := by decide +kernel
theorem dX6_swap_50 : decode cX6_swap 50 = .ok (.iload 4, 2) := by decide +kernel
theorem dX6_swap_52 : decode cX6_swap 52 = .ok (.invokestatic 59, 3) := by decide +kernel
theorem dX6_swap_55 : decode cX6_swap 55 = .ok (.aload_n 0, 1) := by decide +kernel
theorem dX6_swap_56 : decode cX6_swap 56 = .ok (.getfield 30, 3) := by decide +kernel
theorem dX6_swap_59 : decode cX6_swap 59 = .ok (.iconst 0, 1) := by decide +kernel
theorem dX6_swap_60 : decode cX6_swap 60 = .ok (.aload_n 0, 1) := by decide +kernel
theorem dX6_swap_61 : decode cX6_swap 61 = .ok (.getfield 27, 3) := by decide +kernel
theorem dX6_swap_64 : decode cX6_swap 64 = .ok (.iload_n 1, 1) := by decide +kernel
theorem dX6_swap_65 : decode cX6_swap 65 = .ok (.iload 4, 2) := by decide +kernel
theorem dX6_swap_67 : decode cX6_swap 67 = .ok (.iadd, 1) := by decide +kernel
theorem dX6_swap_68 : decode cX6_swap 68 = .ok (.iload_n 3, 1) := by decide +kernel
theorem dX6_swap_69 : decode cX6_swap 69 = .ok (.invokestatic 59, 3) := by decide +kernel
theorem dX6_swap_72 : decode cX6_swap 72 = .ok (.return_, 1) := by decide +kernel
theorem dX6_newSlot_0 : decode cX6_newSlot 0 = .ok (.iload_n 1, 1) := by decide +kernel
theorem dX6_newSlot_1 : decode cX6_newSlot 1 = .ok (.lookupswitch 67 #[(262, 27), (263, 44)], 27) := by decide +kernel
theorem dX6_newSlot_28 : decode cX6_newSlot 28 = .ok (.aload_n 0, 1) := by decide +kernel
theorem dX6_newSlot_29 : decode cX6_newSlot 29 = .ok (.dup, 1) := by decide +kernel
theorem dX6_newSlot_30 : decode cX6_newSlot 30 = .ok (.getfield 33, 3) := by decide +kernel
theorem dX6_newSlot_33 : decode cX6_newSlot 33 = .ok (.iconst 1, 1) := by decide +kernel
theorem dX6_newSlot_34 : decode cX6_newSlot 34 = .ok (.iadd, 1) := by decide +kernel
theorem dX6_newSlot_35 : decode cX6_newSlot 35 = .ok (.putfield 33, 3) := by decide +kernel
theorem dX6_newSlot_38 : decode cX6_newSlot 38 = .ok (.aload_n 0, 1) := by decide +kernel
theorem dX6_newSlot_39 : decode cX6_newSlot 39 = .ok (.getfield 33, 3) := by decide +kernel
theorem dX6_newSlot_42 : decode cX6_newSlot 42 = .ok (.iconst 1, 1) := by decide +kernel
theorem dX6_newSlot_43 : decode cX6_newSlot 43 = .ok (.isub, 1) := by decide +kernel
theorem dX6_newSlot_44 : decode cX6_newSlot 44 = .ok (.ireturn, 1) := by decide +kernel
theorem dX6_newSlot_45 : decode cX6_newSlot 45 = .ok (.aload_n 0, 1) := by decide +kernel
theorem dX6_newSlot_46 : decode cX6_newSlot 46 = .ok (.dup, 1) := by decide +kernel
theorem dX6_newSlot_47 : decode cX6_newSlot 47 = .ok (.getfield 37, 3) := by decide +kernel
theorem dX6_newSlot_50 : decode cX6_newSlot 50 = .ok (.iconst 1, 1) := by decide +kernel
theorem dX6_newSlot_51 : decode cX6_newSlot 51 = .ok (.iadd, 1) := by decide +kernel
theorem dX6_newSlot_52 : decode cX6_newSlot 52 = .ok (.putfield 37, 3) := by decide +kernel
theorem dX6_newSlot_55 : decode cX6_newSlot 55 = .ok (.bipush 20, 2) := by decide +kernel
theorem dX6_newSlot_57 : decode cX6_newSlot 57 = .ok (.aload_n 0, 1) := by decide +kernel
theorem dX6_newSlot_58 : decode cX6_newSlot 58 = .ok (.getfield 37, 3) := by decide +kernel
theorem dX6_newSlot_61 : decode cX6_newSlot 61 = .ok (.iconst 1, 1) := by decide +kernel
theorem dX6_newSlot_62 : decode cX6_newSlot 62 = .ok (.isub, 1) := by decide +kernel
theorem dX6_newSlot_63 : decode cX6_newSlot 63 = .ok (.bipush 16, 2) := by decide +kernel
theorem dX6_newSlot_65 : decode cX6_newSlot 65 = .ok (.imul, 1) := by decide +kernel
theorem dX6_newSlot_66 : decode cX6_newSlot 66 = .ok (.iadd, 1) := by decide +kernel
theorem dX6_newSlot_67 : decode cX6_newSlot 67 = .ok (.ireturn, 1) := by decide +kernel
theorem dX6_newSlot_68 : decode cX6_newSlot 68 = .ok (.aload_n 0, 1) := by decide +kernel
theorem dX6_newSlot_69 : decode cX6_newSlot 69 = .ok (.dup, 1) := by decide +kernel
theorem dX6_newSlot_70 : decode cX6_newSlot 70 = .ok (.getfield 40, 3) := by decide +kernel
theorem dX6_newSlot_73 : decode cX6_newSlot 73 = .ok (.iconst 1, 1) := by decide +kernel
theorem dX6_newSlot_74 : decode cX6_newSlot 74 = .ok (.iadd, 1) := by decide +kernel
theorem dX6_newSlot_75 : decode cX6_newSlot 75 = .ok (.putfield 40, 3) := by decide +kernel
theorem dX6_newSlot_78 : decode cX6_newSlot 78 = .ok (.bipush 8, 2) := by decide +kernel
theorem dX6_newSlot_80 : decode cX6_newSlot 80 = .ok (.aload_n 0, 1) := by decide +kernel
theorem dX6_newSlot_81 : decode cX6_newSlot 81 = .ok (.getfield 40, 3) := by decide +kernel
theorem dX6_newSlot_84 : decode cX6_newSlot 84 = .ok (.iadd, 1) := by decide +kernel
theorem dX6_newSlot_85 : decode cX6_newSlot 85 = .ok (.iconst 1, 1) := by decide +kernel
theorem dX6_newSlot_86 : decode cX6_newSlot 86 = .ok (.isub, 1) := by decide +kernel
theorem dX6_newSlot_87 : decode cX6_newSlot 87 = .ok (.ireturn, 1) := by decide +kernel
theorem dX6_addName_0 : decode cX6_addName 0 = .ok (.aload_n 0, 1) := by decide +kernel
theorem dX6_addName_1 : decode cX6_addName 1 = .ok (.getfield 49, 3) := by decide +kernel
theorem dX6_addName_4 : decode cX6_addName 4 = .ok (.bipush 24, 2) := by decide +kernel
theorem dX6_addName_6 : decode cX6_addName 6 = .ok (.if_icmp .ge 37, 3) := by decide +kernel
theorem dX6_addName_9 : decode cX6_addName 9 = .ok (.aload_n 0, 1) := by decide +kernel
theorem dX6_addName_10 : decode cX6_addName 10 = .ok (.getfield 17, 3) := by decide +kernel
theorem dX6_addName_13 : decode cX6_addName 13 = .ok (.aload_n 0, 1) := by decide +kernel
theorem dX6_addName_14 : decode cX6_addName 14 = .ok (.getfield 49, 3) := by decide +kernel
theorem dX6_addName_17 : decode cX6_addName 17 = .ok (.lload_n 2, 1) := by decide +kernel
theorem dX6_addName_18 : decode cX6_addName 18 = .ok (.lastore, 1) := by decide +kernel
theorem dX6_addName_19 : decode cX6_addName 19 = .ok (.aload_n 0, 1) := by decide +kernel
theorem dX6_addName_20 : decode cX6_addName 20 = .ok (.getfield 21, 3) := by decide +kernel
theorem dX6_addName_23 : decode cX6_addName 23 = .ok (.aload_n 0, 1) := by decide +kernel
theorem dX6_addName_24 : decode cX6_addName 24 = .ok (.getfield 49, 3) := by decide +kernel
theorem dX6_addName_27 : decode cX6_addName 27 = .ok (.aload_n 0, 1) := by decide +kernel
theorem dX6_addName_28 : decode cX6_addName 28 = .ok (.iload_n 1, 1) := by decide +kernel
theorem dX6_addName_29 : decode cX6_addName 29 = .ok (.invokevirtual 65, 3) := by decide +kernel
theorem dX6_addName_32 : decode cX6_addName 32 = .ok (.iastore, 1) := by decide +kernel
theorem dX6_addName_33 : decode cX6_addName 33 = .ok (.aload_n 0, 1) := by decide +kernel
theorem dX6_addName_34 : decode cX6_addName 34 = .ok (.dup, 1) := by decide +kernel
theorem dX6_addName_35 : decode cX6_addName 35 = .ok (.getfield 49, 3) := by decide +kernel
theorem dX6_addName_38 : decode cX6_addName 38 = .ok (.iconst 1, 1) := by decide +kernel
theorem dX6_addName_39 : decode cX6_addName 39 = .ok (.iadd, 1) := by decide +kernel
theorem dX6_addName_40 : decode cX6_addName 40 = .ok (.putfield 49, 3) := by decide +kernel
theorem dX6_addName_43 : decode cX6_addName 43 = .ok (.return_, 1) := by decide +kernel
theorem dX6_slotOf_0 : decode cX6_slotOf 0 = .ok (.iconst 0, 1) := by decide +kernel
theorem dX6_slotOf_1 : decode cX6_slotOf 1 = .ok (.istore_n 3, 1) := by decide +kernel
theorem dX6_slotOf_2 : decode cX6_slotOf 2 = .ok (.iload_n 3, 1) := by decide +kernel
theorem dX6_slotOf_3 : decode cX6_slotOf 3 = .ok (.aload_n 0, 1) := by decide +kernel
theorem dX6_slotOf_4 : decode cX6_slotOf 4 = .ok (.getfield 49, 3) := by decide +kernel
theorem dX6_slotOf_7 : decode cX6_slotOf 7 = .ok (.if_icmp .ge 27, 3) := by decide +kernel
theorem dX6_slotOf_10 : decode cX6_slotOf 10 = .ok (.aload_n 0, 1) := by decide +kernel
theorem dX6_slotOf_11 : decode cX6_slotOf 11 = .ok (.getfield 17, 3) := by decide +kernel
theorem dX6_slotOf_14 : decode cX6_slotOf 14 = .ok (.iload_n 3, 1) := by decide +kernel
theorem dX6_slotOf_15 : decode cX6_slotOf 15 = .ok (.laload, 1) := by decide +kernel
theorem dX6_slotOf_16 : decode cX6_slotOf 16 = .ok (.lload_n 1, 1) := by decide +kernel
theorem dX6_slotOf_17 : decode cX6_slotOf 17 = .ok (.lcmp, 1) := by decide +kernel
theorem dX6_slotOf_18 : decode cX6_slotOf 18 = .ok (.ifCond .ne 10, 3) := by decide +kernel
theorem dX6_slotOf_21 : decode cX6_slotOf 21 = .ok (.aload_n 0, 1) := by decide +kernel
theorem dX6_slotOf_22 : decode cX6_slotOf 22 = .ok (.getfield 21, 3) := by decide +kernel
theorem dX6_slotOf_25 : decode cX6_slotOf 25 = .ok (.iload_n 3, 1) := by decide +kernel
theorem dX6_slotOf_26 : decode cX6_slotOf 26 = .ok (.iaload, 1) := by decide +kernel
theorem dX6_slotOf_27 : decode cX6_slotOf 27 = .ok (.ireturn, 1) := by decide +kernel
theorem dX6_slotOf_28 : decode cX6_slotOf 28 = .ok (.iinc 3 1, 3) := by decide +kernel
theorem dX6_slotOf_31 : decode cX6_slotOf 31 = .ok (.goto (-29), 3) := by decide +kernel
theorem dX6_slotOf_34 : decode cX6_slotOf 34 = .ok (.iconst (-1), 1) := by decide +kernel
theorem dX6_slotOf_35 : decode cX6_slotOf 35 = .ok (.ireturn, 1) := by decide +kernel
theorem dX6_sizeLatestRow_0 : decode cX6_sizeLatestRow 0 = .ok (.aload_n 0, 1) := by decide +kernel
theorem dX6_sizeLatestRow_1 : decode cX6_sizeLatestRow 1 = .ok (.getfield 37, 3) := by decide +kernel
theorem dX6_sizeLatestRow_4 : decode cX6_sizeLatestRow 4 = .ok (.iconst 1, 1) := by decide +kernel
theorem dX6_sizeLatestRow_5 : decode cX6_sizeLatestRow 5 = .ok (.if_icmp .lt 23, 3) := by decide +kernel
theorem dX6_sizeLatestRow_8 : decode cX6_sizeLatestRow 8 = .ok (.aload_n 0, 1) := by decide +kernel
theorem dX6_sizeLatestRow_9 : decode cX6_sizeLatestRow 9 = .ok (.getfield 37, 3) := by decide +kernel
theorem dX6_sizeLatestRow_12 : decode cX6_sizeLatestRow 12 = .ok (.iconst 4, 1) := by decide +kernel
theorem dX6_sizeLatestRow_13 : decode cX6_sizeLatestRow 13 = .ok (.if_icmp .gt 15, 3) := by decide +kernel
theorem dX6_sizeLatestRow_16 : decode cX6_sizeLatestRow 16 = .ok (.aload_n 0, 1) := by decide +kernel
theorem dX6_sizeLatestRow_17 : decode cX6_sizeLatestRow 17 = .ok (.getfield 13, 3) := by decide +kernel
theorem dX6_sizeLatestRow_20 : decode cX6_sizeLatestRow 20 = .ok (.aload_n 0, 1) := by decide +kernel
theorem dX6_sizeLatestRow_21 : decode cX6_sizeLatestRow 21 = .ok (.getfield 37, 3) := by decide +kernel
theorem dX6_sizeLatestRow_24 : decode cX6_sizeLatestRow 24 = .ok (.iconst 1, 1) := by decide +kernel
theorem dX6_sizeLatestRow_25 : decode cX6_sizeLatestRow 25 = .ok (.isub, 1) := by decide +kernel
theorem dX6_sizeLatestRow_26 : decode cX6_sizeLatestRow 26 = .ok (.iload_n 1, 1) := by decide +kernel
theorem dX6_sizeLatestRow_27 : decode cX6_sizeLatestRow 27 = .ok (.iastore, 1) := by decide +kernel
theorem dX6_sizeLatestRow_28 : decode cX6_sizeLatestRow 28 = .ok (.return_, 1) := by decide +kernel
theorem dX6_rowOf_0 : decode cX6_rowOf 0 = .ok (.iload_n 0, 1) := by decide +kernel
theorem dX6_rowOf_1 : decode cX6_rowOf 1 = .ok (.bipush 20, 2) := by decide +kernel
theorem dX6_rowOf_3 : decode cX6_rowOf 3 = .ok (.isub, 1) := by decide +kernel
theorem dX6_rowOf_4 : decode cX6_rowOf 4 = .ok (.bipush 16, 2) := by decide +kernel
theorem dX6_rowOf_6 : decode cX6_rowOf 6 = .ok (.idiv, 1) := by decide +kernel
theorem dX6_rowOf_7 : decode cX6_rowOf 7 = .ok (.ireturn, 1) := by decide +kernel
def v_x_hasRoomFor : List Cond := .code yX9_hasRoomFor cX9_hasRoomFor 2 (some .boolean) :: ([.fieldLink RX9 15 "SlopeRunner$Text" "length" "I"] ++ wsX90)
set_option maxHeartbeats 4000000 in
set_option maxRecDepth 100000 in
theorem x_hasRoomFor (l : Launch) (D : va_G) (y : Nat → ClassId) (sz : Nat) (ad : Nat → Nat) (σ : OS) (q : Int32) (hq0 : 0 ≤ q.toInt) (hq1 : q.toInt ≤ 1000) (htl0 : 0 ≤ (σ.1 22).toInt) (htl1 : (σ.1 22).toInt ≤ 700) : Met l yX9_hasRoomFor v_x_hasRoomFor ({ frames := 0, cells := 0, slots := 0, locals := 0 } : Room) (va_Pc [.ref (ad 20), .int q] (xPre D (xT y) (txw y ad σ) sz)) (va_Qi (fun (r : Int32) (_ : Unit) => (r.toInt = 1 ∧ (σ.1 22).toInt + q.toInt ≤ 700) ∨ (r.toInt = 0 ∧ 700 < (σ.1 22).toInt + q.toInt)) (fun (u : Unit) => xB D (xT y) (va_A (txw y ad σ) sz) (txw y ad σ)) (va_A (txw y ad σ) sz)) 0 0 (va_A (txw y ad σ) sz) := by
  refine x_meti (cc := cX9_hasRoomFor) (maxL := 2) (by decide) rfl (Nat.le_of_ble_eq_true rfl) ?_
  intro p e s m below meth c A H locs Q hx hb hml hown hts hr hlocks hmn hA hP hK hD hS ls hl hQ
  have hl : lv_has ls 2 [(0, .ref (ad 20)), (1, .int q)] := hl
  have fl15 := hts (.fieldLink RX9 15 "SlopeRunner$Text" "length" "I") (List.mem_of_getElem? (i := 1) rfl)
  have inX9 : ∀ w ∈ wsX90, w ∈ v_x_hasRoomFor := (fun w h => List.mem_cons_of_mem _ (List.mem_append_right _ h))
  have kk_700 : (700 : Int32).toInt = 700 := rfl
  have kk_0 : (0 : Int32).toInt = 0 := rfl
  have kk_1 : (1 : Int32).toInt = 1 := rfl
  refine lv_aload_n hx hb dX9_hasRoomFor_0 rfl (lv_at hl 0 rfl) ?_
  refine va_get (D := D) (ci := 8) (v := .int (σ.1 22)) (C := RX9) (T := TX9) (N := 2) hx hb hts inX9 hown hK hP 0 txw_o0 rfl 1 (by decide) fl15 (fun _ h9 => h9) rfl dX9_hasRoomFor_1 ?_
  refine lv_iload_n hx hb dX9_hasRoomFor_4 rfl (lv_at hl 1 rfl) ?_
  refine lv_iadd hx hb dX9_hasRoomFor_5 ?_
  refine lv_topi (fun i_1 ei_1 => ?_)
  have vi_1 : i_1.toInt = (σ.1 22).toInt + q.toInt := by have h9 := x_add ei_1 (by omega) (by omega); omega
  refine lv_sipush (v := 700) hx hb dX9_hasRoomFor_6 (by decide) ?_
  refine lv_icmp_gt (tgt := 16) hx hb dX9_hasRoomFor_9 (by decide) (fun c_2 => ?_) (fun c_2 => ?_)
  · have kc_2 : i_1.toInt > 700 := by have h9 := c_2; simp only [ge_iff_le, gt_iff_lt, x_lt, x_le, x_eq, ne_eq, Int32.not_lt, Int32.not_le] at h9; simp only [Int32.reduceToInt] at h9; omega
    refine lv_iconst (v := 0) hx hb dX9_hasRoomFor_16 (by decide) ?_
    exact x_zretW (v := 0) (u := ()) hx hb hr hQ rfl (by omega) hP hD hK hS dX9_hasRoomFor_17 hlocks
  · have kc_2 : i_1.toInt ≤ 700 := by have h9 := c_2; simp only [ge_iff_le, gt_iff_lt, x_lt, x_le, x_eq, ne_eq, Int32.not_lt, Int32.not_le] at h9; simp only [Int32.reduceToInt] at h9; omega
    refine lv_iconst (v := 1) hx hb dX9_hasRoomFor_12 (by decide) ?_
    refine lv_goto (tgt := 17) hx hb dX9_hasRoomFor_13 (by decide) ?_
    exact x_zretW (v := 1) (u := ()) hx hb hr hQ rfl (by omega) hP hD hK hS dX9_hasRoomFor_17 hlocks

def v_x_addFour : List Cond := .code yX9_addFour cX9_addFour 3 none :: ([.fieldLink RX9 15 "SlopeRunner$Text" "length" "I", .fieldLink RX9 11 "SlopeRunner$Text" "bytes" "[B"] ++ wsX90)
set_option maxHeartbeats 4000000 in
set_option maxRecDepth 100000 in
theorem x_addFour (l : Launch) (D : va_G) (y : Nat → ClassId) (sz : Nat) (ad : Nat → Nat) (σ : OS) (q : Int32) (htl0 : 0 ≤ (σ.1 22).toInt) (htl1 : (σ.1 22).toInt ≤ 696) : Met l yX9_addFour v_x_addFour ({ frames := 0, cells := 0, slots := 0, locals := 0 } : Room) (va_Pc [.ref (ad 20), .int q] (xPre D (xT y) (txw y ad σ) sz)) (va_Qv (fun (u : (Nat → Int32) × Int32) => u.2.toInt = (σ.1 22).toInt + 4) (fun (u : (Nat → Int32) × Int32) => xB D (xT y) (va_A (txw y ad σ) sz) (txw y ad (sI (tI σ 21 u.1) 22 u.2))) (va_A (txw y ad σ) sz)) 0 0 (va_A (txw y ad σ) sz) := by
  refine x_metv (cc := cX9_addFour) (maxL := 3) (by decide) rfl (Nat.le_of_ble_eq_true rfl) ?_
  intro p e s m below meth c A H locs Q hx hb hml hown hts hr hlocks hmn hA hP hK hD hS ls hl hQ
  have hl : lv_has ls 3 [(0, .ref (ad 20)), (1, .int q)] := hl
  have kk_0 : (0 : Int32).toInt = 0 := rfl
  have fl15 := hts (.fieldLink RX9 15 "SlopeRunner$Text" "length" "I") (List.mem_of_getElem? (i := 1) rfl)
  have inX9 : ∀ w ∈ wsX90, w ∈ v_x_addFour := (fun w h => List.mem_cons_of_mem _ (List.mem_append_right _ h))
  have kk_700 : (700 : Int32).toInt = 700 := rfl
  have fl11 := hts (.fieldLink RX9 11 "SlopeRunner$Text" "bytes" "[B") (List.mem_of_getElem? (i := 2) rfl)
  have kk_1 : (1 : Int32).toInt = 1 := rfl
  have kk_m8 : ((-8) : Int32).toInt = -8 := rfl
  refine lv_bipush (v := 24) hx hb dX9_addFour_0 (by decide) ?_
  refine lv_istore_n (lv' := [(2, .int 24), (0, .ref (ad 20)), (1, .int q)]) hx hb dX9_addFour_2 rfl hl (by decide) rfl (fun ls hl => ?_)
  have l24 : (24 : Int32).toInt = 24 := rfl
  have hP : va_P D vwCl (txw y ad (tI (sI σ 22 (σ.1 22)) 21 (σ.2.2.1 21))) H := hP
  have hD : va_D A (txw y ad (tI (sI σ 22 (σ.1 22)) 21 (σ.2.2.1 21))) := hD
  have loop : ∀ (fu : Nat) (sh : Int32) (ln : Int32) (fb : Nat → Int32) (H : Heap) (locs : List Loc) (ls : Array Slot), (-8 ≤ sh.toInt) → (sh.toInt ≤ 24) → (8 * (ln.toInt - (σ.1 22).toInt) + sh.toInt = 24) → (sh.toInt + 8 < (fu : Int)) → va_P D vwCl (txw y ad (tI (sI σ 22 ln) 21 fb)) H → va_D A (txw y ad (tI (sI σ 22 ln) 21 fb)) → va_S A s.heap H locs → lv_has ls 3 [(2, .int sh), (1, .int q), (0, .ref (ad 20))] → W p l e ({ frames := 0, cells := 0, slots := 0, locals := 0 } : Room) s m ([.ref (ad 20), .int q] : List Value).toArray below meth c H locs 0 0 Q (F0 m 3 ls []) := by
    intro fu
    induction fu with
    | zero =>
      intro sh ln fb H locs ls hs0 hs1 hsl hm
      exact absurd hm (by omega)
    | succ fu ih_loop =>
      intro sh ln fb H locs ls hs0 hs1 hsl hm hP hD hS hl
      refine lv_iload_n hx hb dX9_addFour_3 rfl (lv_at hl 0 rfl) ?_
      refine lv_if_lt (tgt := 46) hx hb dX9_addFour_4 (by decide) (fun c_1 => ?_) (fun c_1 => ?_)
      · have kc_1 : sh.toInt < 0 := by have h9 := c_1; simp only [ge_iff_le, gt_iff_lt, x_lt, x_le, x_eq, ne_eq, Int32.not_lt, Int32.not_le] at h9; simp only [Int32.reduceToInt] at h9; omega
        have hP : va_P D vwCl (txw y ad (sI (tI σ 21 fb) 22 ln)) H := hP
        have hD : va_D A (txw y ad (sI (tI σ 21 fb) 22 ln)) := hD
        exact x_vretW (u := (fb, ln)) hx hb hr hQ (by (try dsimp only); exact (by omega)) hP hD hK hS dX9_addFour_46 hlocks
      · have kc_1 : sh.toInt ≥ 0 := by have h9 := c_1; simp only [ge_iff_le, gt_iff_lt, x_lt, x_le, x_eq, ne_eq, Int32.not_lt, Int32.not_le] at h9; simp only [Int32.reduceToInt] at h9; omega
        refine lv_aload_n hx hb dX9_addFour_7 rfl (lv_at hl 2 rfl) ?_
        refine va_get (D := D) (ci := 8) (v := .int ln) (C := RX9) (T := TX9) (N := 2) hx hb hts inX9 hown hK hP 0 txw_o0 rfl 1 (by decide) fl15 (fun _ h9 => h9) rfl dX9_addFour_8 ?_
        refine lv_sipush (v := 700) hx hb dX9_addFour_11 (by decide) ?_
        refine lv_icmp_ge (tgt := 46) hx hb dX9_addFour_14 (by decide) (fun c_2 => ?_) (fun c_2 => ?_)
        · have kc_2 : ln.toInt ≥ 700 := by have h9 := c_2; simp only [ge_iff_le, gt_iff_lt, x_lt, x_le, x_eq, ne_eq, Int32.not_lt, Int32.not_le] at h9; simp only [Int32.reduceToInt] at h9; omega
          have hP : va_P D vwCl (txw y ad (sI (tI σ 21 fb) 22 ln)) H := hP
          have hD : va_D A (txw y ad (sI (tI σ 21 fb) 22 ln)) := hD
          exact x_vretW (u := (fb, ln)) hx hb hr hQ (by (try dsimp only); exact (by omega)) hP hD hK hS dX9_addFour_46 hlocks
        · have kc_2 : ln.toInt < 700 := by have h9 := c_2; simp only [ge_iff_le, gt_iff_lt, x_lt, x_le, x_eq, ne_eq, Int32.not_lt, Int32.not_le] at h9; simp only [Int32.reduceToInt] at h9; omega
          refine lv_aload_n hx hb dX9_addFour_17 rfl (lv_at hl 2 rfl) ?_
          refine va_get (D := D) (ci := 8) (v := .ref (ad 21)) (C := RX9) (T := TX9) (N := 2) hx hb hts inX9 hown hK hP 0 txw_o0 rfl 0 (by decide) fl11 (fun _ h9 => h9) rfl dX9_addFour_18 ?_
          refine lv_aload_n hx hb dX9_addFour_21 rfl (lv_at hl 2 rfl) ?_
          refine va_get (D := D) (ci := 8) (v := .int ln) (C := RX9) (T := TX9) (N := 2) hx hb hts inX9 hown hK hP 0 txw_o0 rfl 1 (by decide) fl15 (fun _ h9 => h9) rfl dX9_addFour_22 ?_
          refine lv_iload_n hx hb dX9_addFour_25 rfl (lv_at hl 1 rfl) ?_
          refine lv_iload_n hx hb dX9_addFour_26 rfl (lv_at hl 0 rfl) ?_
          refine lv_ishr hx hb dX9_addFour_27 ?_
          refine lv_topi (fun i_3 ei_3 => ?_)
          refine lv_i2b hx hb dX9_addFour_28 rfl ?_
          refine lv_topi (fun i_4 ei_4 => ?_)
          refine va_bast hx hb hK hP hD hS 1 0 txw_a1 rfl (x_in (by omega) (by omega)) dX9_addFour_29 (fun H locs hP hD hS => ?_)
          obtain ⟨f_5, ef_5⟩ : ∃ z9 : Nat → Int32, z9 = (upd fb (Int32.toNatClampNeg ln) (vp_nar .byte i_4)) := ⟨_, rfl⟩
          have hP : va_P D vwCl (txw y ad (tI (tI (sI σ 22 ln) 21 fb) 21 f_5)) H := by rw [ef_5]; exact x_trP hP txw_s1
          have hD : va_D A (txw y ad (tI (tI (sI σ 22 ln) 21 fb) 21 f_5)) := by rw [ef_5]; exact x_trD hD txw_s1
          refine lv_aload_n hx hb dX9_addFour_30 rfl (lv_at hl 2 rfl) ?_
          refine lv_dup hx hb dX9_addFour_31 rfl ?_
          refine va_get (D := D) (ci := 8) (v := .int ln) (C := RX9) (T := TX9) (N := 2) hx hb hts inX9 hown hK hP 0 txw_o0 rfl 1 (by decide) fl15 (fun _ h9 => h9) rfl dX9_addFour_32 ?_
          refine lv_iconst (v := 1) hx hb dX9_addFour_35 (by decide) ?_
          refine lv_iadd hx hb dX9_addFour_36 ?_
          refine lv_topi (fun i_6 ei_6 => ?_)
          have vi_6 : i_6.toInt = ln.toInt + 1 := by have h9 := x_add ei_6 (by omega) (by omega); omega
          refine va_put (D := D) (ci := 8) (v := .int i_6) (ty := .int) (C := RX9) (T := TX9) (N := 2) hx hb hts inX9 tyX9 tyX9_ok nmX9 hown hK hP hD hS 0 txw_o0 rfl 1 (by decide) fl15 (fun _ h9 => h9) rfl (by decide +kernel) rfl rfl (Nat.le_of_ble_eq_true rfl) dX9_addFour_37 (fun H locs hP hD hS => ?_)
          have hP : va_P D vwCl (txw y ad (sI (tI (tI (sI σ 22 ln) 21 fb) 21 f_5) 22 i_6)) H := x_trP hP txw_p0_1
          have hD : va_D A (txw y ad (sI (tI (tI (sI σ 22 ln) 21 fb) 21 f_5) 22 i_6)) := x_trD hD txw_p0_1
          obtain ⟨i_7, ei_7⟩ : ∃ z9 : Int32, z9 = sh + (-8) := ⟨_, rfl⟩
          have vi_7 : i_7.toInt = sh.toInt + (-8) := by have h9 := x_add ei_7 (by omega) (by omega); omega
          refine lv_iinc (v := i_7) (lv' := [(2, .int i_7), (1, .int q), (0, .ref (ad 20))]) hx hb dX9_addFour_40 hl (k := 0) rfl (by rw [ei_7]; rfl) (by decide) rfl (fun ls hl => ?_)
          refine lv_goto (tgt := 3) hx hb dX9_addFour_43 (by decide) ?_
          have hP : va_P D vwCl (txw y ad (tI (sI σ 22 i_6) 21 f_5)) H := hP
          have hD : va_D A (txw y ad (tI (sI σ 22 i_6) 21 f_5)) := hD
          exact ih_loop i_7 i_6 f_5 H locs ls (by omega) (by omega) (by omega) (by omega) hP hD hS (lv_sub hl [0, 1, 2] rfl)
  exact loop 33 24 (σ.1 22) (σ.2.2.1 21) H locs ls (by omega) (by omega) (by omega) (by omega) hP hD hS (lv_sub hl [0, 2, 1] rfl)

def v_x_cutTo : List Cond := .code yX9_cutTo cX9_cutTo 2 (some .boolean) :: ([.fieldLink RX9 15 "SlopeRunner$Text" "length" "I"] ++ wsX90)
set_option maxHeartbeats 4000000 in
set_option maxRecDepth 100000 in
theorem x_cutTo (l : Launch) (D : va_G) (y : Nat → ClassId) (sz : Nat) (ad : Nat → Nat) (σ : OS) (q : Int32) (htl0 : 0 ≤ (σ.1 22).toInt) (htl1 : (σ.1 22).toInt ≤ 700) : Met l yX9_cutTo v_x_cutTo ({ frames := 0, cells := 0, slots := 0, locals := 0 } : Room) (va_Pc [.ref (ad 20), .int q] (xPre D (xT y) (txw y ad σ) sz)) (va_Qi (fun (r : Int32) (u : Int32) => (r.toInt = 0 ∧ (q.toInt < 0 ∨ (σ.1 22).toInt < q.toInt) ∧ u = σ.1 22) ∨ (r.toInt = 1 ∧ 0 ≤ q.toInt ∧ q.toInt ≤ (σ.1 22).toInt ∧ u = q)) (fun (u : Int32) => xB D (xT y) (va_A (txw y ad σ) sz) (txw y ad (sI σ 22 u))) (va_A (txw y ad σ) sz)) 0 0 (va_A (txw y ad σ) sz) := by
  refine x_meti (cc := cX9_cutTo) (maxL := 2) (by decide) rfl (Nat.le_of_ble_eq_true rfl) ?_
  intro p e s m below meth c A H locs Q hx hb hml hown hts hr hlocks hmn hA hP hK hD hS ls hl hQ
  have hl : lv_has ls 2 [(0, .ref (ad 20)), (1, .int q)] := hl
  have kk_0 : (0 : Int32).toInt = 0 := rfl
  have fl15 := hts (.fieldLink RX9 15 "SlopeRunner$Text" "length" "I") (List.mem_of_getElem? (i := 1) rfl)
  have inX9 : ∀ w ∈ wsX90, w ∈ v_x_cutTo := (fun w h => List.mem_cons_of_mem _ (List.mem_append_right _ h))
  have kk_1 : (1 : Int32).toInt = 1 := rfl
  refine lv_iload_n hx hb dX9_cutTo_0 rfl (lv_at hl 1 rfl) ?_
  refine lv_if_lt (tgt := 12) hx hb dX9_cutTo_1 (by decide) (fun c_1 => ?_) (fun c_1 => ?_)
  · have kc_1 : q.toInt < 0 := by have h9 := c_1; simp only [ge_iff_le, gt_iff_lt, x_lt, x_le, x_eq, ne_eq, Int32.not_lt, Int32.not_le] at h9; simp only [Int32.reduceToInt] at h9; omega
    refine lv_iconst (v := 0) hx hb dX9_cutTo_12 (by decide) ?_
    have hP : va_P D vwCl (txw y ad (sI σ 22 (σ.1 22))) H := hP
    have hD : va_D A (txw y ad (sI σ 22 (σ.1 22))) := hD
    exact x_zretW (v := 0) (u := (σ.1 22)) hx hb hr hQ rfl (by first | exact Or.inl ⟨rfl, by omega, rfl⟩ | exact Or.inr ⟨rfl, by omega, by omega, rfl⟩) hP hD hK hS dX9_cutTo_13 hlocks
  · have kc_1 : q.toInt ≥ 0 := by have h9 := c_1; simp only [ge_iff_le, gt_iff_lt, x_lt, x_le, x_eq, ne_eq, Int32.not_lt, Int32.not_le] at h9; simp only [Int32.reduceToInt] at h9; omega
    refine lv_iload_n hx hb dX9_cutTo_4 rfl (lv_at hl 1 rfl) ?_
    refine lv_aload_n hx hb dX9_cutTo_5 rfl (lv_at hl 0 rfl) ?_
    refine va_get (D := D) (ci := 8) (v := .int (σ.1 22)) (C := RX9) (T := TX9) (N := 2) hx hb hts inX9 hown hK hP 0 txw_o0 rfl 1 (by decide) fl15 (fun _ h9 => h9) rfl dX9_cutTo_6 ?_
    refine lv_icmp_le (tgt := 14) hx hb dX9_cutTo_9 (by decide) (fun c_2 => ?_) (fun c_2 => ?_)
    · have kc_2 : q.toInt ≤ (σ.1 22).toInt := by have h9 := c_2; simp only [ge_iff_le, gt_iff_lt, x_lt, x_le, x_eq, ne_eq, Int32.not_lt, Int32.not_le] at h9; omega
      refine lv_aload_n hx hb dX9_cutTo_14 rfl (lv_at hl 0 rfl) ?_
      refine lv_iload_n hx hb dX9_cutTo_15 rfl (lv_at hl 1 rfl) ?_
      refine va_put (D := D) (ci := 8) (v := .int q) (ty := .int) (C := RX9) (T := TX9) (N := 2) hx hb hts inX9 tyX9 tyX9_ok nmX9 hown hK hP hD hS 0 txw_o0 rfl 1 (by decide) fl15 (fun _ h9 => h9) rfl (by decide +kernel) rfl rfl (Nat.le_of_ble_eq_true rfl) dX9_cutTo_16 (fun H locs hP hD hS => ?_)
      have hP : va_P D vwCl (txw y ad (sI σ 22 q)) H := x_trP hP txw_p0_1
      have hD : va_D A (txw y ad (sI σ 22 q)) := x_trD hD txw_p0_1
      refine lv_iconst (v := 1) hx hb dX9_cutTo_19 (by decide) ?_
      exact x_zretW (v := 1) (u := q) hx hb hr hQ rfl (by first | exact Or.inl ⟨rfl, by omega, rfl⟩ | exact Or.inr ⟨rfl, by omega, by omega, rfl⟩) hP hD hK hS dX9_cutTo_20 hlocks
    · have kc_2 : q.toInt > (σ.1 22).toInt := by have h9 := c_2; simp only [ge_iff_le, gt_iff_lt, x_lt, x_le, x_eq, ne_eq, Int32.not_lt, Int32.not_le] at h9; omega
      refine lv_iconst (v := 0) hx hb dX9_cutTo_12 (by decide) ?_
      have hP : va_P D vwCl (txw y ad (sI σ 22 (σ.1 22))) H := hP
      have hD : va_D A (txw y ad (sI σ 22 (σ.1 22))) := hD
      exact x_zretW (v := 0) (u := (σ.1 22)) hx hb hr hQ rfl (by first | exact Or.inl ⟨rfl, by omega, rfl⟩ | exact Or.inr ⟨rfl, by omega, by omega, rfl⟩) hP hD hK hS dX9_cutTo_13 hlocks

def v_x_size : List Cond := .code yX9_size cX9_size 1 (some .int) :: ([.fieldLink RX9 15 "SlopeRunner$Text" "length" "I"] ++ wsX90)
set_option maxHeartbeats 4000000 in
set_option maxRecDepth 100000 in
theorem x_size (l : Launch) (D : va_G) (y : Nat → ClassId) (sz : Nat) (ad : Nat → Nat) (σ : OS)  : Met l yX9_size v_x_size ({ frames := 0, cells := 0, slots := 0, locals := 0 } : Room) (va_Pc [.ref (ad 20)] (xPre D (xT y) (txw y ad σ) sz)) (va_Qi (fun (r : Int32) (_ : Unit) => r = σ.1 22) (fun (u : Unit) => xB D (xT y) (va_A (txw y ad σ) sz) (txw y ad σ)) (va_A (txw y ad σ) sz)) 0 0 (va_A (txw y ad σ) sz) := by
  refine x_meti (cc := cX9_size) (maxL := 1) (by decide) rfl (Nat.le_of_ble_eq_true rfl) ?_
  intro p e s m below meth c A H locs Q hx hb hml hown hts hr hlocks hmn hA hP hK hD hS ls hl hQ
  have hl : lv_has ls 1 [(0, .ref (ad 20))] := hl
  have fl15 := hts (.fieldLink RX9 15 "SlopeRunner$Text" "length" "I") (List.mem_of_getElem? (i := 1) rfl)
  have inX9 : ∀ w ∈ wsX90, w ∈ v_x_size := (fun w h => List.mem_cons_of_mem _ (List.mem_append_right _ h))
  refine lv_aload_n hx hb dX9_size_0 rfl (lv_at hl 0 rfl) ?_
  refine va_get (D := D) (ci := 8) (v := .int (σ.1 22)) (C := RX9) (T := TX9) (N := 2) hx hb hts inX9 hown hK hP 0 txw_o0 rfl 1 (by decide) fl15 (fun _ h9 => h9) rfl dX9_size_1 ?_
  exact x_iretW (v := (σ.1 22)) (u := ()) hx hb hr hQ rfl hP hD hK hS dX9_size_4 hlocks

def v_x_at : List Cond := .code yX9_at cX9_at 2 (some .int) :: ([.fieldLink RX9 15 "SlopeRunner$Text" "length" "I", .fieldLink RX9 11 "SlopeRunner$Text" "bytes" "[B"] ++ wsX90)
set_option maxHeartbeats 4000000 in
set_option maxRecDepth 100000 in
theorem x_at (l : Launch) (D : va_G) (y : Nat → ClassId) (sz : Nat) (ad : Nat → Nat) (σ : OS) (q : Int32) (htl0 : 0 ≤ (σ.1 22).toInt) (htl1 : (σ.1 22).toInt ≤ 700) : Met l yX9_at v_x_at ({ frames := 0, cells := 0, slots := 0, locals := 0 } : Room) (va_Pc [.ref (ad 20), .int q] (xPre D (xT y) (txw y ad σ) sz)) (va_Qi (fun (r : Int32) (_ : Unit) => True) (fun (u : Unit) => xB D (xT y) (va_A (txw y ad σ) sz) (txw y ad σ)) (va_A (txw y ad σ) sz)) 0 0 (va_A (txw y ad σ) sz) := by
  refine x_meti (cc := cX9_at) (maxL := 2) (by decide) rfl (Nat.le_of_ble_eq_true rfl) ?_
  intro p e s m below meth c A H locs Q hx hb hml hown hts hr hlocks hmn hA hP hK hD hS ls hl hQ
  have hl : lv_has ls 2 [(0, .ref (ad 20)), (1, .int q)] := hl
  have kk_0 : (0 : Int32).toInt = 0 := rfl
  have kk_m1 : ((-1) : Int32).toInt = -1 := rfl
  have fl15 := hts (.fieldLink RX9 15 "SlopeRunner$Text" "length" "I") (List.mem_of_getElem? (i := 1) rfl)
  have inX9 : ∀ w ∈ wsX90, w ∈ v_x_at := (fun w h => List.mem_cons_of_mem _ (List.mem_append_right _ h))
  have fl11 := hts (.fieldLink RX9 11 "SlopeRunner$Text" "bytes" "[B") (List.mem_of_getElem? (i := 2) rfl)
  refine lv_iload_n hx hb dX9_at_0 rfl (lv_at hl 1 rfl) ?_
  refine lv_if_lt (tgt := 25) hx hb dX9_at_1 (by decide) (fun c_1 => ?_) (fun c_1 => ?_)
  · have kc_1 : q.toInt < 0 := by have h9 := c_1; simp only [ge_iff_le, gt_iff_lt, x_lt, x_le, x_eq, ne_eq, Int32.not_lt, Int32.not_le] at h9; simp only [Int32.reduceToInt] at h9; omega
    refine lv_iconst (v := (-1)) hx hb dX9_at_25 (by decide) ?_
    exact x_iretW (v := (-1)) (u := ()) hx hb hr hQ trivial hP hD hK hS dX9_at_26 hlocks
  · have kc_1 : q.toInt ≥ 0 := by have h9 := c_1; simp only [ge_iff_le, gt_iff_lt, x_lt, x_le, x_eq, ne_eq, Int32.not_lt, Int32.not_le] at h9; simp only [Int32.reduceToInt] at h9; omega
    refine lv_iload_n hx hb dX9_at_4 rfl (lv_at hl 1 rfl) ?_
    refine lv_aload_n hx hb dX9_at_5 rfl (lv_at hl 0 rfl) ?_
    refine va_get (D := D) (ci := 8) (v := .int (σ.1 22)) (C := RX9) (T := TX9) (N := 2) hx hb hts inX9 hown hK hP 0 txw_o0 rfl 1 (by decide) fl15 (fun _ h9 => h9) rfl dX9_at_6 ?_
    refine lv_icmp_ge (tgt := 25) hx hb dX9_at_9 (by decide) (fun c_2 => ?_) (fun c_2 => ?_)
    · have kc_2 : q.toInt ≥ (σ.1 22).toInt := by have h9 := c_2; simp only [ge_iff_le, gt_iff_lt, x_lt, x_le, x_eq, ne_eq, Int32.not_lt, Int32.not_le] at h9; omega
      refine lv_iconst (v := (-1)) hx hb dX9_at_25 (by decide) ?_
      exact x_iretW (v := (-1)) (u := ()) hx hb hr hQ trivial hP hD hK hS dX9_at_26 hlocks
    · have kc_2 : q.toInt < (σ.1 22).toInt := by have h9 := c_2; simp only [ge_iff_le, gt_iff_lt, x_lt, x_le, x_eq, ne_eq, Int32.not_lt, Int32.not_le] at h9; omega
      refine lv_aload_n hx hb dX9_at_12 rfl (lv_at hl 0 rfl) ?_
      refine va_get (D := D) (ci := 8) (v := .ref (ad 21)) (C := RX9) (T := TX9) (N := 2) hx hb hts inX9 hown hK hP 0 txw_o0 rfl 0 (by decide) fl11 (fun _ h9 => h9) rfl dX9_at_13 ?_
      refine lv_iload_n hx hb dX9_at_16 rfl (lv_at hl 1 rfl) ?_
      refine va_bald hx hb hK hP 1 0 txw_a1 rfl (x_in (by omega) (by omega)) dX9_at_17 ?_
      refine lv_topi (fun i_3 ei_3 => ?_)
      have ei_3 : i_3 = (σ.2.2.1 21) (Int32.toNatClampNeg q) := ei_3
      refine lv_sipush (v := 255) hx hb dX9_at_18 (by decide) ?_
      refine lv_iand hx hb dX9_at_21 ?_
      refine lv_topi (fun i_4 ei_4 => ?_)
      refine lv_goto (tgt := 26) hx hb dX9_at_22 (by decide) ?_
      exact x_iretW (v := i_4) (u := ()) hx hb hr hQ trivial hP hD hK hS dX9_at_26 hlocks

def v_o_isBlank : List Cond := .code yX10_isBlank cX10_isBlank 1 (some .boolean) :: []
set_option maxHeartbeats 4000000 in
set_option maxRecDepth 100000 in
theorem o_isBlank (l : Launch) (D : va_G) (y : Nat → ClassId) (sz : Nat) (q : Int32) : Met l yX10_isBlank v_o_isBlank ({ frames := 0, cells := 0, slots := 0, locals := 0 } : Room) (va_Pc [.int q] (xPre D (xT y) [] sz)) (va_Qi (fun (r : Int32) (_ : Unit) => r.toInt = 0 ∨ r.toInt = 1) (fun (u : Unit) => xB D (xT y) (va_A [] sz) []) (va_A [] sz)) 0 0 (va_A [] sz) := by
  refine x_meti (cc := cX10_isBlank) (maxL := 1) (by decide) rfl (Nat.le_of_ble_eq_true rfl) ?_
  intro p e s m below meth c A H locs Q hx hb hml hown hts hr hlocks hmn hA hP hK hD hS ls hl hQ
  have hl : lv_has ls 1 [(0, .int q)] := hl
  have kk_10 : (10 : Int32).toInt = 10 := rfl
  have kk_1 : (1 : Int32).toInt = 1 := rfl
  have kk_32 : (32 : Int32).toInt = 32 := rfl
  have kk_0 : (0 : Int32).toInt = 0 := rfl
  refine lv_iload_n hx hb dX10_isBlank_0 rfl (lv_at hl 0 rfl) ?_
  refine lv_bipush (v := 10) hx hb dX10_isBlank_1 (by decide) ?_
  refine lv_icmp_eq (tgt := 12) hx hb dX10_isBlank_3 (by decide) (fun c_1 => ?_) (fun c_1 => ?_)
  · have kc_1 : q.toInt = 10 := by have h9 := c_1; simp only [ge_iff_le, gt_iff_lt, x_lt, x_le, x_eq, ne_eq, Int32.not_lt, Int32.not_le] at h9; simp only [Int32.reduceToInt] at h9; omega
    refine lv_iconst (v := 1) hx hb dX10_isBlank_12 (by decide) ?_
    refine lv_goto (tgt := 17) hx hb dX10_isBlank_13 (by decide) ?_
    exact x_zretW (v := 1) (u := ()) hx hb hr hQ rfl (by decide) (x_nilP D H) (x_nilD A) hK hS dX10_isBlank_17 hlocks
  · have kc_1 : q.toInt ≠ 10 := by have h9 := c_1; simp only [ge_iff_le, gt_iff_lt, x_lt, x_le, x_eq, ne_eq, Int32.not_lt, Int32.not_le] at h9; simp only [Int32.reduceToInt] at h9; omega
    refine lv_iload_n hx hb dX10_isBlank_6 rfl (lv_at hl 0 rfl) ?_
    refine lv_bipush (v := 32) hx hb dX10_isBlank_7 (by decide) ?_
    refine lv_icmp_ne (tgt := 16) hx hb dX10_isBlank_9 (by decide) (fun c_2 => ?_) (fun c_2 => ?_)
    · have kc_2 : q.toInt ≠ 32 := by have h9 := c_2; simp only [ge_iff_le, gt_iff_lt, x_lt, x_le, x_eq, ne_eq, Int32.not_lt, Int32.not_le] at h9; simp only [Int32.reduceToInt] at h9; omega
      refine lv_iconst (v := 0) hx hb dX10_isBlank_16 (by decide) ?_
      exact x_zretW (v := 0) (u := ()) hx hb hr hQ rfl (by decide) (x_nilP D H) (x_nilD A) hK hS dX10_isBlank_17 hlocks
    · have kc_2 : q.toInt = 32 := by have h9 := c_2; simp only [ge_iff_le, gt_iff_lt, x_lt, x_le, x_eq, ne_eq, Int32.not_lt, Int32.not_le] at h9; simp only [Int32.reduceToInt] at h9; omega
      refine lv_iconst (v := 1) hx hb dX10_isBlank_12 (by decide) ?_
      refine lv_goto (tgt := 17) hx hb dX10_isBlank_13 (by decide) ?_
      exact x_zretW (v := 1) (u := ()) hx hb hr hQ rfl (by decide) (x_nilP D H) (x_nilD A) hK hS dX10_isBlank_17 hlocks

def v_o_isDigit : List Cond := .code yX10_isDigit cX10_isDigit 1 (some .boolean) :: []
set_option maxHeartbeats 4000000 in
set_option maxRecDepth 100000 in
theorem o_isDigit (l : Launch) (D : va_G) (y : Nat → ClassId) (sz : Nat) (q : Int32) : Met l yX10_isDigit v_o_isDigit ({ frames := 0, cells := 0, slots := 0, locals := 0 } : Room) (va_Pc [.int q] (xPre D (xT y) [] sz)) (va_Qi (fun (r : Int32) (_ : Unit) => r.toInt = 0 ∨ r.toInt = 1) (fun (u : Unit) => xB D (xT y) (va_A [] sz) []) (va_A [] sz)) 0 0 (va_A [] sz) := by
  refine x_meti (cc := cX10_isDigit) (maxL := 1) (by decide) rfl (Nat.le_of_ble_eq_true rfl) ?_
  intro p e s m below meth c A H locs Q hx hb hml hown hts hr hlocks hmn hA hP hK hD hS ls hl hQ
  have hl : lv_has ls 1 [(0, .int q)] := hl
  have kk_48 : (48 : Int32).toInt = 48 := rfl
  have kk_0 : (0 : Int32).toInt = 0 := rfl
  have kk_57 : (57 : Int32).toInt = 57 := rfl
  have kk_1 : (1 : Int32).toInt = 1 := rfl
  refine lv_iload_n hx hb dX10_isDigit_0 rfl (lv_at hl 0 rfl) ?_
  refine lv_bipush (v := 48) hx hb dX10_isDigit_1 (by decide) ?_
  refine lv_icmp_lt (tgt := 16) hx hb dX10_isDigit_3 (by decide) (fun c_1 => ?_) (fun c_1 => ?_)
  · have kc_1 : q.toInt < 48 := by have h9 := c_1; simp only [ge_iff_le, gt_iff_lt, x_lt, x_le, x_eq, ne_eq, Int32.not_lt, Int32.not_le] at h9; simp only [Int32.reduceToInt] at h9; omega
    refine lv_iconst (v := 0) hx hb dX10_isDigit_16 (by decide) ?_
    exact x_zretW (v := 0) (u := ()) hx hb hr hQ rfl (by decide) (x_nilP D H) (x_nilD A) hK hS dX10_isDigit_17 hlocks
  · have kc_1 : q.toInt ≥ 48 := by have h9 := c_1; simp only [ge_iff_le, gt_iff_lt, x_lt, x_le, x_eq, ne_eq, Int32.not_lt, Int32.not_le] at h9; simp only [Int32.reduceToInt] at h9; omega
    refine lv_iload_n hx hb dX10_isDigit_6 rfl (lv_at hl 0 rfl) ?_
    refine lv_bipush (v := 57) hx hb dX10_isDigit_7 (by decide) ?_
    refine lv_icmp_gt (tgt := 16) hx hb dX10_isDigit_9 (by decide) (fun c_2 => ?_) (fun c_2 => ?_)
    · have kc_2 : q.toInt > 57 := by have h9 := c_2; simp only [ge_iff_le, gt_iff_lt, x_lt, x_le, x_eq, ne_eq, Int32.not_lt, Int32.not_le] at h9; simp only [Int32.reduceToInt] at h9; omega
      refine lv_iconst (v := 0) hx hb dX10_isDigit_16 (by decide) ?_
      exact x_zretW (v := 0) (u := ()) hx hb hr hQ rfl (by decide) (x_nilP D H) (x_nilD A) hK hS dX10_isDigit_17 hlocks
    · have kc_2 : q.toInt ≤ 57 := by have h9 := c_2; simp only [ge_iff_le, gt_iff_lt, x_lt, x_le, x_eq, ne_eq, Int32.not_lt, Int32.not_le] at h9; simp only [Int32.reduceToInt] at h9; omega
      refine lv_iconst (v := 1) hx hb dX10_isDigit_12 (by decide) ?_
      refine lv_goto (tgt := 17) hx hb dX10_isDigit_13 (by decide) ?_
      exact x_zretW (v := 1) (u := ()) hx hb hr hQ rfl (by decide) (x_nilP D H) (x_nilD A) hK hS dX10_isDigit_17 hlocks

def v_o_isLetter : List Cond := .code yX10_isLetter cX10_isLetter 1 (some .boolean) :: []
set_option maxHeartbeats 4000000 in
set_option maxRecDepth 100000 in
theorem o_isLetter (l : Launch) (D : va_G) (y : Nat → ClassId) (sz : Nat) (q : Int32) : Met l yX10_isLetter v_o_isLetter ({ frames := 0, cells := 0, slots := 0, locals := 0 } : Room) (va_Pc [.int q] (xPre D (xT y) [] sz)) (va_Qi (fun (r : Int32) (_ : Unit) => r.toInt = 0 ∨ r.toInt = 1) (fun (u : Unit) => xB D (xT y) (va_A [] sz) []) (va_A [] sz)) 0 0 (va_A [] sz) := by
  refine x_meti (cc := cX10_isLetter) (maxL := 1) (by decide) rfl (Nat.le_of_ble_eq_true rfl) ?_
  intro p e s m below meth c A H locs Q hx hb hml hown hts hr hlocks hmn hA hP hK hD hS ls hl hQ
  have hl : lv_has ls 1 [(0, .int q)] := hl
  have kk_97 : (97 : Int32).toInt = 97 := rfl
  have kk_65 : (65 : Int32).toInt = 65 := rfl
  have kk_0 : (0 : Int32).toInt = 0 := rfl
  have kk_90 : (90 : Int32).toInt = 90 := rfl
  have kk_1 : (1 : Int32).toInt = 1 := rfl
  have kk_122 : (122 : Int32).toInt = 122 := rfl
  refine lv_iload_n hx hb dX10_isLetter_0 rfl (lv_at hl 0 rfl) ?_
  refine lv_bipush (v := 97) hx hb dX10_isLetter_1 (by decide) ?_
  refine lv_icmp_lt (tgt := 12) hx hb dX10_isLetter_3 (by decide) (fun c_1 => ?_) (fun c_1 => ?_)
  · have kc_1 : q.toInt < 97 := by have h9 := c_1; simp only [ge_iff_le, gt_iff_lt, x_lt, x_le, x_eq, ne_eq, Int32.not_lt, Int32.not_le] at h9; simp only [Int32.reduceToInt] at h9; omega
    refine lv_iload_n hx hb dX10_isLetter_12 rfl (lv_at hl 0 rfl) ?_
    refine lv_bipush (v := 65) hx hb dX10_isLetter_13 (by decide) ?_
    refine lv_icmp_lt (tgt := 28) hx hb dX10_isLetter_15 (by decide) (fun c_2 => ?_) (fun c_2 => ?_)
    · have kc_2 : q.toInt < 65 := by have h9 := c_2; simp only [ge_iff_le, gt_iff_lt, x_lt, x_le, x_eq, ne_eq, Int32.not_lt, Int32.not_le] at h9; simp only [Int32.reduceToInt] at h9; omega
      refine lv_iconst (v := 0) hx hb dX10_isLetter_28 (by decide) ?_
      exact x_zretW (v := 0) (u := ()) hx hb hr hQ rfl (by decide) (x_nilP D H) (x_nilD A) hK hS dX10_isLetter_29 hlocks
    · have kc_2 : q.toInt ≥ 65 := by have h9 := c_2; simp only [ge_iff_le, gt_iff_lt, x_lt, x_le, x_eq, ne_eq, Int32.not_lt, Int32.not_le] at h9; simp only [Int32.reduceToInt] at h9; omega
      refine lv_iload_n hx hb dX10_isLetter_18 rfl (lv_at hl 0 rfl) ?_
      refine lv_bipush (v := 90) hx hb dX10_isLetter_19 (by decide) ?_
      refine lv_icmp_gt (tgt := 28) hx hb dX10_isLetter_21 (by decide) (fun c_3 => ?_) (fun c_3 => ?_)
      · have kc_3 : q.toInt > 90 := by have h9 := c_3; simp only [ge_iff_le, gt_iff_lt, x_lt, x_le, x_eq, ne_eq, Int32.not_lt, Int32.not_le] at h9; simp only [Int32.reduceToInt] at h9; omega
        refine lv_iconst (v := 0) hx hb dX10_isLetter_28 (by decide) ?_
        exact x_zretW (v := 0) (u := ()) hx hb hr hQ rfl (by decide) (x_nilP D H) (x_nilD A) hK hS dX10_isLetter_29 hlocks
      · have kc_3 : q.toInt ≤ 90 := by have h9 := c_3; simp only [ge_iff_le, gt_iff_lt, x_lt, x_le, x_eq, ne_eq, Int32.not_lt, Int32.not_le] at h9; simp only [Int32.reduceToInt] at h9; omega
        refine lv_iconst (v := 1) hx hb dX10_isLetter_24 (by decide) ?_
        refine lv_goto (tgt := 29) hx hb dX10_isLetter_25 (by decide) ?_
        exact x_zretW (v := 1) (u := ()) hx hb hr hQ rfl (by decide) (x_nilP D H) (x_nilD A) hK hS dX10_isLetter_29 hlocks
  · have kc_1 : q.toInt ≥ 97 := by have h9 := c_1; simp only [ge_iff_le, gt_iff_lt, x_lt, x_le, x_eq, ne_eq, Int32.not_lt, Int32.not_le] at h9; simp only [Int32.reduceToInt] at h9; omega
    refine lv_iload_n hx hb dX10_isLetter_6 rfl (lv_at hl 0 rfl) ?_
    refine lv_bipush (v := 122) hx hb dX10_isLetter_7 (by decide) ?_
    refine lv_icmp_le (tgt := 24) hx hb dX10_isLetter_9 (by decide) (fun c_4 => ?_) (fun c_4 => ?_)
    · have kc_4 : q.toInt ≤ 122 := by have h9 := c_4; simp only [ge_iff_le, gt_iff_lt, x_lt, x_le, x_eq, ne_eq, Int32.not_lt, Int32.not_le] at h9; simp only [Int32.reduceToInt] at h9; omega
      refine lv_iconst (v := 1) hx hb dX10_isLetter_24 (by decide) ?_
      refine lv_goto (tgt := 29) hx hb dX10_isLetter_25 (by decide) ?_
      exact x_zretW (v := 1) (u := ()) hx hb hr hQ rfl (by decide) (x_nilP D H) (x_nilD A) hK hS dX10_isLetter_29 hlocks
    · have kc_4 : q.toInt > 122 := by have h9 := c_4; simp only [ge_iff_le, gt_iff_lt, x_lt, x_le, x_eq, ne_eq, Int32.not_lt, Int32.not_le] at h9; simp only [Int32.reduceToInt] at h9; omega
      refine lv_iload_n hx hb dX10_isLetter_12 rfl (lv_at hl 0 rfl) ?_
      refine lv_bipush (v := 65) hx hb dX10_isLetter_13 (by decide) ?_
      refine lv_icmp_lt (tgt := 28) hx hb dX10_isLetter_15 (by decide) (fun c_5 => ?_) (fun c_5 => ?_)
      · have kc_5 : q.toInt < 65 := by have h9 := c_5; simp only [ge_iff_le, gt_iff_lt, x_lt, x_le, x_eq, ne_eq, Int32.not_lt, Int32.not_le] at h9; simp only [Int32.reduceToInt] at h9; omega
        refine lv_iconst (v := 0) hx hb dX10_isLetter_28 (by decide) ?_
        exact x_zretW (v := 0) (u := ()) hx hb hr hQ rfl (by decide) (x_nilP D H) (x_nilD A) hK hS dX10_isLetter_29 hlocks
      · have kc_5 : q.toInt ≥ 65 := by have h9 := c_5; simp only [ge_iff_le, gt_iff_lt, x_lt, x_le, x_eq, ne_eq, Int32.not_lt, Int32.not_le] at h9; simp only [Int32.reduceToInt] at h9; omega
        refine lv_iload_n hx hb dX10_isLetter_18 rfl (lv_at hl 0 rfl) ?_
        refine lv_bipush (v := 90) hx hb dX10_isLetter_19 (by decide) ?_
        refine lv_icmp_gt (tgt := 28) hx hb dX10_isLetter_21 (by decide) (fun c_6 => ?_) (fun c_6 => ?_)
        · have kc_6 : q.toInt > 90 := by have h9 := c_6; simp only [ge_iff_le, gt_iff_lt, x_lt, x_le, x_eq, ne_eq, Int32.not_lt, Int32.not_le] at h9; simp only [Int32.reduceToInt] at h9; omega
          refine lv_iconst (v := 0) hx hb dX10_isLetter_28 (by decide) ?_
          exact x_zretW (v := 0) (u := ()) hx hb hr hQ rfl (by decide) (x_nilP D H) (x_nilD A) hK hS dX10_isLetter_29 hlocks
        · have kc_6 : q.toInt ≤ 90 := by have h9 := c_6; simp only [ge_iff_le, gt_iff_lt, x_lt, x_le, x_eq, ne_eq, Int32.not_lt, Int32.not_le] at h9; simp only [Int32.reduceToInt] at h9; omega
          refine lv_iconst (v := 1) hx hb dX10_isLetter_24 (by decide) ?_
          refine lv_goto (tgt := 29) hx hb dX10_isLetter_25 (by decide) ?_
          exact x_zretW (v := 1) (u := ()) hx hb hr hQ rfl (by decide) (x_nilP D H) (x_nilD A) hK hS dX10_isLetter_29 hlocks

def v_o_joined : List Cond := .code yX10_joined cX10_joined 3 (some .long) :: []
set_option maxHeartbeats 4000000 in
set_option maxRecDepth 100000 in
theorem o_joined (l : Launch) (D : va_G) (y : Nat → ClassId) (sz : Nat) (x : Int64) (q : Int32) : Met l yX10_joined v_o_joined ({ frames := 0, cells := 0, slots := 0, locals := 0 } : Room) (va_Pc [.long x, .int q] (xPre D (xT y) [] sz)) (va_Ql (fun (r : Int64) (_ : Unit) => True) (fun (u : Unit) => xB D (xT y) (va_A [] sz) []) (va_A [] sz)) 0 0 (va_A [] sz) := by
  refine x_metl (cc := cX10_joined) (maxL := 3) (by decide) rfl (Nat.le_of_ble_eq_true rfl) ?_
  intro p e s m below meth c A H locs Q hx hb hml hown hts hr hlocks hmn hA hP hK hD hS ls hl hQ
  have hl : lv_has ls 3 [(0, .long x), (2, .int q)] := hl
  refine lv_lload_n hx hb dX10_joined_0 rfl (lv_at hl 0 rfl) ?_
  refine lv_bipush (v := 8) hx hb dX10_joined_1 (by decide) ?_
  refine lv_lshl hx hb dX10_joined_3 rfl ?_
  refine lv_topl (fun j_1 ej_1 => ?_)
  refine lv_iload_n hx hb dX10_joined_4 rfl (lv_at hl 1 rfl) ?_
  refine lv_i2l hx hb dX10_joined_5 rfl ?_
  refine lv_topl (fun j_2 ej_2 => ?_)
  have vj_2 : j_2.toInt = q.toInt := by rw [ej_2]; exact Int32.toInt_toInt64 _
  refine lv_lor hx hb dX10_joined_6 ?_
  refine lv_topl (fun j_3 ej_3 => ?_)
  exact x_lretW (v := j_3) (u := ()) hx hb hr hQ trivial (x_nilP D H) (x_nilD A) hK hS dX10_joined_7 hlocks

def v_o_isGlued : List Cond := .code yX10_isGlued cX10_isGlued 3 (some .boolean) :: ([] ++ ((wsV RX10 54 RX9 yX9_at v_x_at) ++ ((wsS RX10 58 yX10_isLetter v_o_isLetter) ++ (wsS RX10 65 yX10_isDigit v_o_isDigit))))
theorem g_o_isGlued_0 : GoodIn v_o_isGlued (wsV RX10 54 RX9 yX9_at v_x_at) := goodIn_sub (fun w h => List.mem_cons_of_mem _ (List.mem_append_right _ (List.mem_append_left _ h))) (by decide +kernel)
theorem g_o_isGlued_1 : GoodIn v_o_isGlued (wsS RX10 58 yX10_isLetter v_o_isLetter) := goodIn_sub (fun w h => List.mem_cons_of_mem _ (List.mem_append_right _ (List.mem_append_right _ (List.mem_append_left _ h)))) (by decide +kernel)
theorem g_o_isGlued_2 : GoodIn v_o_isGlued (wsS RX10 65 yX10_isDigit v_o_isDigit) := goodIn_sub (fun w h => List.mem_cons_of_mem _ (List.mem_append_right _ (List.mem_append_right _ (List.mem_append_right _ h)))) (by decide +kernel)
set_option maxHeartbeats 4000000 in
set_option maxRecDepth 100000 in
theorem o_isGlued (l : Launch) (D : va_G) (y : Nat → ClassId) (sz : Nat) (ad : Nat → Nat) (σ : OS) (q : Int32) (htl0 : 0 ≤ (σ.1 22).toInt) (htl1 : (σ.1 22).toInt ≤ 700) : Met l yX10_isGlued v_o_isGlued ({ frames := 1, cells := 0, slots := 0, locals := 21 } : Room) (va_Pc [.ref (ad 20), .int q] (xPre D (xT y) (txw y ad σ) sz)) (va_Qi (fun (r : Int32) (_ : Unit) => r.toInt = 0 ∨ r.toInt = 1) (fun (u : Unit) => xB D (xT y) (va_A (txw y ad σ) sz) (txw y ad σ)) (va_A (txw y ad σ) sz)) 0 0 (va_A (txw y ad σ) sz) := by
  refine x_meti (cc := cX10_isGlued) (maxL := 3) (by decide) rfl (Nat.le_of_ble_eq_true rfl) ?_
  intro p e s m below meth c A H locs Q hx hb hml hown hts hr hlocks hmn hA hP hK hD hS ls hl hQ
  have hl : lv_has ls 3 [(0, .ref (ad 20)), (1, .int q)] := hl
  have kk_0 : (0 : Int32).toInt = 0 := rfl
  have kk_1 : (1 : Int32).toInt = 1 := rfl
  refine lv_aload_n hx hb dX10_isGlued_0 rfl (lv_at hl 0 rfl) ?_
  refine lv_iload_n hx hb dX10_isGlued_1 rfl (lv_at hl 1 rfl) ?_
  refine lv_iconst (v := 1) hx hb dX10_isGlued_2 (by decide) ?_
  refine lv_isub hx hb dX10_isGlued_3 ?_
  refine lv_topi (fun i_1 ei_1 => ?_)
  refine x_calliW (va_runV (As := [.int i_1]) (rest := []) ⟨hx, hb, hml, hown, hts⟩ (x_at l D y H.size ad σ i_1 (show 0 ≤ ((σ.1 22)).toInt from by first | omega | decide) (show ((σ.1 22)).toInt ≤ 700 from by first | omega | decide)) (cwV 1 hts g_o_isGlued_0 rfl rfl rfl (by decide +kernel) ⟨Nat.le_of_ble_eq_true rfl, Nat.le_of_ble_eq_true rfl⟩) (x_preV (q := (RX9, TX9, 2)) hK hP hD (ci := 8) (q0 := 0) rfl txw_o0) rfl rfl hl.1 rfl (lv_room (Nat.le_of_ble_eq_true rfl)) dX10_isGlued_4 ⟨Nat.le_of_ble_eq_true rfl, Nat.le_of_ble_eq_true rfl⟩) hP hD hS hA (fun r_2 u H locs hw hP hD hS => ?_)
  try dsimp only at hw
  have hP : va_P D vwCl (txw y ad σ) H := hP
  have hD : va_D A (txw y ad σ) := hD
  refine lv_istore_n (lv' := [(2, .int r_2), (0, .ref (ad 20)), (1, .int q)]) hx hb dX10_isGlued_7 rfl hl (by decide) rfl (fun ls hl => ?_)
  refine lv_iload_n hx hb dX10_isGlued_8 rfl (lv_at hl 0 rfl) ?_
  refine x_calliN (va_runS (As := [.int r_2]) (rest := []) ⟨hx, hb, hml, hown, hts⟩ (o_isLetter l D y H.size r_2) (cwS 1 hts g_o_isGlued_1 rfl rfl rfl (by decide +kernel) ⟨Nat.le_of_ble_eq_true rfl, Nat.le_of_ble_eq_true rfl⟩) (x_preS hK (x_nilP D H) (x_nilD A)) rfl rfl hl.1 rfl (lv_room (Nat.le_of_ble_eq_true rfl)) dX10_isGlued_9 ⟨Nat.le_of_ble_eq_true rfl, Nat.le_of_ble_eq_true rfl⟩) hP hD hS hA (fun r_3 u H locs hw hP hD hS => ?_)
  try dsimp only at hw
  refine lv_if_ne (tgt := 22) hx hb dX10_isGlued_12 (by decide) (fun c_4 => ?_) (fun c_4 => ?_)
  · have kc_4 : r_3.toInt ≠ 0 := by have h9 := c_4; simp only [ge_iff_le, gt_iff_lt, x_lt, x_le, x_eq, ne_eq, Int32.not_lt, Int32.not_le] at h9; simp only [Int32.reduceToInt] at h9; omega
    refine lv_iconst (v := 1) hx hb dX10_isGlued_22 (by decide) ?_
    refine lv_goto (tgt := 27) hx hb dX10_isGlued_23 (by decide) ?_
    exact x_zretW (v := 1) (u := ()) hx hb hr hQ rfl (by decide) hP hD hK hS dX10_isGlued_27 hlocks
  · have kc_4 : r_3.toInt = 0 := by have h9 := c_4; simp only [ge_iff_le, gt_iff_lt, x_lt, x_le, x_eq, ne_eq, Int32.not_lt, Int32.not_le] at h9; simp only [Int32.reduceToInt] at h9; omega
    refine lv_iload_n hx hb dX10_isGlued_15 rfl (lv_at hl 0 rfl) ?_
    refine x_calliN (va_runS (As := [.int r_2]) (rest := []) ⟨hx, hb, hml, hown, hts⟩ (o_isDigit l D y H.size r_2) (cwS 1 hts g_o_isGlued_2 rfl rfl rfl (by decide +kernel) ⟨Nat.le_of_ble_eq_true rfl, Nat.le_of_ble_eq_true rfl⟩) (x_preS hK (x_nilP D H) (x_nilD A)) rfl rfl hl.1 rfl (lv_room (Nat.le_of_ble_eq_true rfl)) dX10_isGlued_16 ⟨Nat.le_of_ble_eq_true rfl, Nat.le_of_ble_eq_true rfl⟩) hP hD hS hA (fun r_5 u H locs hw hP hD hS => ?_)
    try dsimp only at hw
    refine lv_if_eq (tgt := 26) hx hb dX10_isGlued_19 (by decide) (fun c_6 => ?_) (fun c_6 => ?_)
    · have kc_6 : r_5.toInt = 0 := by have h9 := c_6; simp only [ge_iff_le, gt_iff_lt, x_lt, x_le, x_eq, ne_eq, Int32.not_lt, Int32.not_le] at h9; simp only [Int32.reduceToInt] at h9; omega
      refine lv_iconst (v := 0) hx hb dX10_isGlued_26 (by decide) ?_
      exact x_zretW (v := 0) (u := ()) hx hb hr hQ rfl (by decide) hP hD hK hS dX10_isGlued_27 hlocks
    · have kc_6 : r_5.toInt ≠ 0 := by have h9 := c_6; simp only [ge_iff_le, gt_iff_lt, x_lt, x_le, x_eq, ne_eq, Int32.not_lt, Int32.not_le] at h9; simp only [Int32.reduceToInt] at h9; omega
      refine lv_iconst (v := 1) hx hb dX10_isGlued_22 (by decide) ?_
      refine lv_goto (tgt := 27) hx hb dX10_isGlued_23 (by decide) ?_
      exact x_zretW (v := 1) (u := ()) hx hb hr hQ rfl (by decide) hP hD hK hS dX10_isGlued_27 hlocks

def v_o_kindAt : List Cond := .code yX10_kindAt cX10_kindAt 2 (some .int) :: ([.fieldLink RX10 41 "SlopeRunner$Tokens" "count" "I", .fieldLink RX10 15 "SlopeRunner$Tokens" "kind" "[I"] ++ wsX100)
set_option maxHeartbeats 4000000 in
set_option maxRecDepth 100000 in
theorem o_kindAt (l : Launch) (D : va_G) (y : Nat → ClassId) (sz : Nat) (ad : Nat → Nat) (σ : OS) (q : Int32) (hct0 : 0 ≤ (σ.1 45).toInt) (hct1 : (σ.1 45).toInt ≤ 700) : Met l yX10_kindAt v_o_kindAt ({ frames := 0, cells := 0, slots := 0, locals := 0 } : Room) (va_Pc [.ref (ad 40), .int q] (xPre D (xT y) (tkw y ad σ) sz)) (va_Qi (fun (r : Int32) (_ : Unit) => True) (fun (u : Unit) => xB D (xT y) (va_A (tkw y ad σ) sz) (tkw y ad σ)) (va_A (tkw y ad σ) sz)) 0 0 (va_A (tkw y ad σ) sz) := by
  refine x_meti (cc := cX10_kindAt) (maxL := 2) (by decide) rfl (Nat.le_of_ble_eq_true rfl) ?_
  intro p e s m below meth c A H locs Q hx hb hml hown hts hr hlocks hmn hA hP hK hD hS ls hl hQ
  have hl : lv_has ls 2 [(0, .ref (ad 40)), (1, .int q)] := hl
  have kk_0 : (0 : Int32).toInt = 0 := rfl
  have kk_256 : (256 : Int32).toInt = 256 := rfl
  have fl41 := hts (.fieldLink RX10 41 "SlopeRunner$Tokens" "count" "I") (List.mem_of_getElem? (i := 1) rfl)
  have inX10 : ∀ w ∈ wsX100, w ∈ v_o_kindAt := (fun w h => List.mem_cons_of_mem _ (List.mem_append_right _ h))
  have fl15 := hts (.fieldLink RX10 15 "SlopeRunner$Tokens" "kind" "[I") (List.mem_of_getElem? (i := 2) rfl)
  refine lv_iload_n hx hb dX10_kindAt_0 rfl (lv_at hl 1 rfl) ?_
  refine lv_if_lt (tgt := 21) hx hb dX10_kindAt_1 (by decide) (fun c_1 => ?_) (fun c_1 => ?_)
  · have kc_1 : q.toInt < 0 := by have h9 := c_1; simp only [ge_iff_le, gt_iff_lt, x_lt, x_le, x_eq, ne_eq, Int32.not_lt, Int32.not_le] at h9; simp only [Int32.reduceToInt] at h9; omega
    refine lv_sipush (v := 256) hx hb dX10_kindAt_21 (by decide) ?_
    exact x_iretW (v := 256) (u := ()) hx hb hr hQ trivial hP hD hK hS dX10_kindAt_24 hlocks
  · have kc_1 : q.toInt ≥ 0 := by have h9 := c_1; simp only [ge_iff_le, gt_iff_lt, x_lt, x_le, x_eq, ne_eq, Int32.not_lt, Int32.not_le] at h9; simp only [Int32.reduceToInt] at h9; omega
    refine lv_iload_n hx hb dX10_kindAt_4 rfl (lv_at hl 1 rfl) ?_
    refine lv_aload_n hx hb dX10_kindAt_5 rfl (lv_at hl 0 rfl) ?_
    refine va_get (D := D) (ci := 9) (v := .int (σ.1 45)) (C := RX10) (T := TX10) (N := 6) hx hb hts inX10 hown hK hP 0 tkw_o0 rfl 4 (by decide) fl41 (fun _ h9 => h9) rfl dX10_kindAt_6 ?_
    refine lv_icmp_ge (tgt := 21) hx hb dX10_kindAt_9 (by decide) (fun c_2 => ?_) (fun c_2 => ?_)
    · have kc_2 : q.toInt ≥ (σ.1 45).toInt := by have h9 := c_2; simp only [ge_iff_le, gt_iff_lt, x_lt, x_le, x_eq, ne_eq, Int32.not_lt, Int32.not_le] at h9; omega
      refine lv_sipush (v := 256) hx hb dX10_kindAt_21 (by decide) ?_
      exact x_iretW (v := 256) (u := ()) hx hb hr hQ trivial hP hD hK hS dX10_kindAt_24 hlocks
    · have kc_2 : q.toInt < (σ.1 45).toInt := by have h9 := c_2; simp only [ge_iff_le, gt_iff_lt, x_lt, x_le, x_eq, ne_eq, Int32.not_lt, Int32.not_le] at h9; omega
      refine lv_aload_n hx hb dX10_kindAt_12 rfl (lv_at hl 0 rfl) ?_
      refine va_get (D := D) (ci := 9) (v := .ref (ad 42)) (C := RX10) (T := TX10) (N := 6) hx hb hts inX10 hown hK hP 0 tkw_o0 rfl 1 (by decide) fl15 (fun _ h9 => h9) rfl dX10_kindAt_13 ?_
      refine lv_iload_n hx hb dX10_kindAt_16 rfl (lv_at hl 1 rfl) ?_
      refine va_iald hx hb hK hP 3 2 tkw_a3 rfl (x_in (by omega) (by omega)) dX10_kindAt_17 ?_
      refine lv_topi (fun i_3 ei_3 => ?_)
      have ei_3 : i_3 = (σ.2.2.1 42) (Int32.toNatClampNeg q) := ei_3
      refine lv_goto (tgt := 24) hx hb dX10_kindAt_18 (by decide) ?_
      exact x_iretW (v := i_3) (u := ()) hx hb hr hQ trivial hP hD hK hS dX10_kindAt_24 hlocks

def v_o_startAt : List Cond := .code yX10_startAt cX10_startAt 2 (some .int) :: ([.fieldLink RX10 48 "SlopeRunner$Tokens" "length" "I", .fieldLink RX10 41 "SlopeRunner$Tokens" "count" "I", .fieldLink RX10 19 "SlopeRunner$Tokens" "start" "[I"] ++ wsX100)
set_option maxHeartbeats 4000000 in
set_option maxRecDepth 100000 in
theorem o_startAt (l : Launch) (D : va_G) (y : Nat → ClassId) (sz : Nat) (ad : Nat → Nat) (σ : OS) (q : Int32) (hct0 : 0 ≤ (σ.1 45).toInt) (hct1 : (σ.1 45).toInt ≤ 700) : Met l yX10_startAt v_o_startAt ({ frames := 0, cells := 0, slots := 0, locals := 0 } : Room) (va_Pc [.ref (ad 40), .int q] (xPre D (xT y) (tkw y ad σ) sz)) (va_Qi (fun (r : Int32) (_ : Unit) => True) (fun (u : Unit) => xB D (xT y) (va_A (tkw y ad σ) sz) (tkw y ad σ)) (va_A (tkw y ad σ) sz)) 0 0 (va_A (tkw y ad σ) sz) := by
  refine x_meti (cc := cX10_startAt) (maxL := 2) (by decide) rfl (Nat.le_of_ble_eq_true rfl) ?_
  intro p e s m below meth c A H locs Q hx hb hml hown hts hr hlocks hmn hA hP hK hD hS ls hl hQ
  have hl : lv_has ls 2 [(0, .ref (ad 40)), (1, .int q)] := hl
  have kk_0 : (0 : Int32).toInt = 0 := rfl
  have fl48 := hts (.fieldLink RX10 48 "SlopeRunner$Tokens" "length" "I") (List.mem_of_getElem? (i := 1) rfl)
  have inX10 : ∀ w ∈ wsX100, w ∈ v_o_startAt := (fun w h => List.mem_cons_of_mem _ (List.mem_append_right _ h))
  have fl41 := hts (.fieldLink RX10 41 "SlopeRunner$Tokens" "count" "I") (List.mem_of_getElem? (i := 2) rfl)
  have fl19 := hts (.fieldLink RX10 19 "SlopeRunner$Tokens" "start" "[I") (List.mem_of_getElem? (i := 3) rfl)
  refine lv_iload_n hx hb dX10_startAt_0 rfl (lv_at hl 1 rfl) ?_
  refine lv_if_lt (tgt := 21) hx hb dX10_startAt_1 (by decide) (fun c_1 => ?_) (fun c_1 => ?_)
  · have kc_1 : q.toInt < 0 := by have h9 := c_1; simp only [ge_iff_le, gt_iff_lt, x_lt, x_le, x_eq, ne_eq, Int32.not_lt, Int32.not_le] at h9; simp only [Int32.reduceToInt] at h9; omega
    refine lv_aload_n hx hb dX10_startAt_21 rfl (lv_at hl 0 rfl) ?_
    refine va_get (D := D) (ci := 9) (v := .int (σ.1 46)) (C := RX10) (T := TX10) (N := 6) hx hb hts inX10 hown hK hP 0 tkw_o0 rfl 5 (by decide) fl48 (fun _ h9 => h9) rfl dX10_startAt_22 ?_
    exact x_iretW (v := (σ.1 46)) (u := ()) hx hb hr hQ trivial hP hD hK hS dX10_startAt_25 hlocks
  · have kc_1 : q.toInt ≥ 0 := by have h9 := c_1; simp only [ge_iff_le, gt_iff_lt, x_lt, x_le, x_eq, ne_eq, Int32.not_lt, Int32.not_le] at h9; simp only [Int32.reduceToInt] at h9; omega
    refine lv_iload_n hx hb dX10_startAt_4 rfl (lv_at hl 1 rfl) ?_
    refine lv_aload_n hx hb dX10_startAt_5 rfl (lv_at hl 0 rfl) ?_
    refine va_get (D := D) (ci := 9) (v := .int (σ.1 45)) (C := RX10) (T := TX10) (N := 6) hx hb hts inX10 hown hK hP 0 tkw_o0 rfl 4 (by decide) fl41 (fun _ h9 => h9) rfl dX10_startAt_6 ?_
    refine lv_icmp_ge (tgt := 21) hx hb dX10_startAt_9 (by decide) (fun c_2 => ?_) (fun c_2 => ?_)
    · have kc_2 : q.toInt ≥ (σ.1 45).toInt := by have h9 := c_2; simp only [ge_iff_le, gt_iff_lt, x_lt, x_le, x_eq, ne_eq, Int32.not_lt, Int32.not_le] at h9; omega
      refine lv_aload_n hx hb dX10_startAt_21 rfl (lv_at hl 0 rfl) ?_
      refine va_get (D := D) (ci := 9) (v := .int (σ.1 46)) (C := RX10) (T := TX10) (N := 6) hx hb hts inX10 hown hK hP 0 tkw_o0 rfl 5 (by decide) fl48 (fun _ h9 => h9) rfl dX10_startAt_22 ?_
      exact x_iretW (v := (σ.1 46)) (u := ()) hx hb hr hQ trivial hP hD hK hS dX10_startAt_25 hlocks
    · have kc_2 : q.toInt < (σ.1 45).toInt := by have h9 := c_2; simp only [ge_iff_le, gt_iff_lt, x_lt, x_le, x_eq, ne_eq, Int32.not_lt, Int32.not_le] at h9; omega
      refine lv_aload_n hx hb dX10_startAt_12 rfl (lv_at hl 0 rfl) ?_
      refine va_get (D := D) (ci := 9) (v := .ref (ad 43)) (C := RX10) (T := TX10) (N := 6) hx hb hts inX10 hown hK hP 0 tkw_o0 rfl 2 (by decide) fl19 (fun _ h9 => h9) rfl dX10_startAt_13 ?_
      refine lv_iload_n hx hb dX10_startAt_16 rfl (lv_at hl 1 rfl) ?_
      refine va_iald hx hb hK hP 4 2 tkw_a4 rfl (x_in (by omega) (by omega)) dX10_startAt_17 ?_
      refine lv_topi (fun i_3 ei_3 => ?_)
      have ei_3 : i_3 = (σ.2.2.1 43) (Int32.toNatClampNeg q) := ei_3
      refine lv_goto (tgt := 25) hx hb dX10_startAt_18 (by decide) ?_
      exact x_iretW (v := i_3) (u := ()) hx hb hr hQ trivial hP hD hK hS dX10_startAt_25 hlocks

def v_o_worthAt : List Cond := .code yX10_worthAt cX10_worthAt 2 (some .long) :: ([.fieldLink RX10 41 "SlopeRunner$Tokens" "count" "I", .fieldLink RX10 22 "SlopeRunner$Tokens" "worth" "[J"] ++ wsX100)
set_option maxHeartbeats 4000000 in
set_option maxRecDepth 100000 in
theorem o_worthAt (l : Launch) (D : va_G) (y : Nat → ClassId) (sz : Nat) (ad : Nat → Nat) (σ : OS) (q : Int32) (hct0 : 0 ≤ (σ.1 45).toInt) (hct1 : (σ.1 45).toInt ≤ 700) : Met l yX10_worthAt v_o_worthAt ({ frames := 0, cells := 0, slots := 0, locals := 0 } : Room) (va_Pc [.ref (ad 40), .int q] (xPre D (xT y) (tkw y ad σ) sz)) (va_Ql (fun (r : Int64) (_ : Unit) => True) (fun (u : Unit) => xB D (xT y) (va_A (tkw y ad σ) sz) (tkw y ad σ)) (va_A (tkw y ad σ) sz)) 0 0 (va_A (tkw y ad σ) sz) := by
  refine x_metl (cc := cX10_worthAt) (maxL := 2) (by decide) rfl (Nat.le_of_ble_eq_true rfl) ?_
  intro p e s m below meth c A H locs Q hx hb hml hown hts hr hlocks hmn hA hP hK hD hS ls hl hQ
  have hl : lv_has ls 2 [(0, .ref (ad 40)), (1, .int q)] := hl
  have kk_0 : (0 : Int32).toInt = 0 := rfl
  have fl41 := hts (.fieldLink RX10 41 "SlopeRunner$Tokens" "count" "I") (List.mem_of_getElem? (i := 1) rfl)
  have inX10 : ∀ w ∈ wsX100, w ∈ v_o_worthAt := (fun w h => List.mem_cons_of_mem _ (List.mem_append_right _ h))
  have fl22 := hts (.fieldLink RX10 22 "SlopeRunner$Tokens" "worth" "[J") (List.mem_of_getElem? (i := 2) rfl)
  refine lv_iload_n hx hb dX10_worthAt_0 rfl (lv_at hl 1 rfl) ?_
  refine lv_if_lt (tgt := 21) hx hb dX10_worthAt_1 (by decide) (fun c_1 => ?_) (fun c_1 => ?_)
  · have kc_1 : q.toInt < 0 := by have h9 := c_1; simp only [ge_iff_le, gt_iff_lt, x_lt, x_le, x_eq, ne_eq, Int32.not_lt, Int32.not_le] at h9; simp only [Int32.reduceToInt] at h9; omega
    refine lv_lconst (v := 0) hx hb dX10_worthAt_21 (by decide) ?_
    exact x_lretW (v := 0) (u := ()) hx hb hr hQ trivial hP hD hK hS dX10_worthAt_22 hlocks
  · have kc_1 : q.toInt ≥ 0 := by have h9 := c_1; simp only [ge_iff_le, gt_iff_lt, x_lt, x_le, x_eq, ne_eq, Int32.not_lt, Int32.not_le] at h9; simp only [Int32.reduceToInt] at h9; omega
    refine lv_iload_n hx hb dX10_worthAt_4 rfl (lv_at hl 1 rfl) ?_
    refine lv_aload_n hx hb dX10_worthAt_5 rfl (lv_at hl 0 rfl) ?_
    refine va_get (D := D) (ci := 9) (v := .int (σ.1 45)) (C := RX10) (T := TX10) (N := 6) hx hb hts inX10 hown hK hP 0 tkw_o0 rfl 4 (by decide) fl41 (fun _ h9 => h9) rfl dX10_worthAt_6 ?_
    refine lv_icmp_ge (tgt := 21) hx hb dX10_worthAt_9 (by decide) (fun c_2 => ?_) (fun c_2 => ?_)
    · have kc_2 : q.toInt ≥ (σ.1 45).toInt := by have h9 := c_2; simp only [ge_iff_le, gt_iff_lt, x_lt, x_le, x_eq, ne_eq, Int32.not_lt, Int32.not_le] at h9; omega
      refine lv_lconst (v := 0) hx hb dX10_worthAt_21 (by decide) ?_
      exact x_lretW (v := 0) (u := ()) hx hb hr hQ trivial hP hD hK hS dX10_worthAt_22 hlocks
    · have kc_2 : q.toInt < (σ.1 45).toInt := by have h9 := c_2; simp only [ge_iff_le, gt_iff_lt, x_lt, x_le, x_eq, ne_eq, Int32.not_lt, Int32.not_le] at h9; omega
      refine lv_aload_n hx hb dX10_worthAt_12 rfl (lv_at hl 0 rfl) ?_
      refine va_get (D := D) (ci := 9) (v := .ref (ad 44)) (C := RX10) (T := TX10) (N := 6) hx hb hts inX10 hown hK hP 0 tkw_o0 rfl 3 (by decide) fl22 (fun _ h9 => h9) rfl dX10_worthAt_13 ?_
      refine lv_iload_n hx hb dX10_worthAt_16 rfl (lv_at hl 1 rfl) ?_
      refine va_lald hx hb hK hP 5 3 tkw_a5 rfl (x_in (by omega) (by omega)) dX10_worthAt_17 ?_
      refine lv_topl (fun j_3 ej_3 => ?_)
      have ej_3 : j_3 = (σ.2.2.2 44) (Int32.toNatClampNeg q) := ej_3
      refine lv_goto (tgt := 22) hx hb dX10_worthAt_18 (by decide) ?_
      exact x_lretW (v := j_3) (u := ()) hx hb hr hQ trivial hP hD hK hS dX10_worthAt_22 hlocks

def v_o_kindOfWord : List Cond := .code yX10_kindOfWord cX10_kindOfWord 4 (some .int) :: ([.fieldLink RX10 9 "SlopeRunner$Tokens" "own" "[J"] ++ wsX100)
set_option maxHeartbeats 4000000 in
set_option maxRecDepth 100000 in
theorem o_kindOfWord (l : Launch) (D : va_G) (y : Nat → ClassId) (sz : Nat) (ad : Nat → Nat) (σ : OS) (x : Int64) : Met l yX10_kindOfWord v_o_kindOfWord ({ frames := 0, cells := 0, slots := 0, locals := 0 } : Room) (va_Pc [.ref (ad 40), .long x] (xPre D (xT y) (tkw y ad σ) sz)) (va_Qi (fun (r : Int32) (_ : Unit) => True) (fun (u : Unit) => xB D (xT y) (va_A (tkw y ad σ) sz) (tkw y ad σ)) (va_A (tkw y ad σ) sz)) 0 0 (va_A (tkw y ad σ) sz) := by
  refine x_meti (cc := cX10_kindOfWord) (maxL := 4) (by decide) rfl (Nat.le_of_ble_eq_true rfl) ?_
  intro p e s m below meth c A H locs Q hx hb hml hown hts hr hlocks hmn hA hP hK hD hS ls hl hQ
  have hl : lv_has ls 4 [(0, .ref (ad 40)), (1, .long x)] := hl
  have kk_14 : (14 : Int32).toInt = 14 := rfl
  have kk_258 : (258 : Int32).toInt = 258 := rfl
  have fl9 := hts (.fieldLink RX10 9 "SlopeRunner$Tokens" "own" "[J") (List.mem_of_getElem? (i := 1) rfl)
  have inX10 : ∀ w ∈ wsX100, w ∈ v_o_kindOfWord := (fun w h => List.mem_cons_of_mem _ (List.mem_append_right _ h))
  have kk_1 : (1 : Int32).toInt = 1 := rfl
  refine lv_iconst (v := 0) hx hb dX10_kindOfWord_0 (by decide) ?_
  refine lv_istore_n (lv' := [(3, .int 0), (0, .ref (ad 40)), (1, .long x)]) hx hb dX10_kindOfWord_1 rfl hl (by decide) rfl (fun ls hl => ?_)
  have l00 : (0 : Int32).toInt = 0 := rfl
  have loop : ∀ (fu : Nat) (i : Int32) (H : Heap) (locs : List Loc) (ls : Array Slot), (0 ≤ i.toInt) → (i.toInt ≤ 14) → (14 - i.toInt < (fu : Int)) → va_P D vwCl (tkw y ad σ) H → va_D A (tkw y ad σ) → va_S A s.heap H locs → lv_has ls 4 [(3, .int i), (1, .long x), (0, .ref (ad 40))] → W p l e ({ frames := 0, cells := 0, slots := 0, locals := 0 } : Room) s m ([.ref (ad 40), .long x] : List Value).toArray below meth c H locs 0 0 Q (F0 m 2 ls []) := by
    intro fu
    induction fu with
    | zero =>
      intro i H locs ls hi0 hi1 hm
      exact absurd hm (by omega)
    | succ fu ih_loop =>
      intro i H locs ls hi0 hi1 hm hP hD hS hl
      refine lv_iload_n hx hb dX10_kindOfWord_2 rfl (lv_at hl 0 rfl) ?_
      refine lv_bipush (v := 14) hx hb dX10_kindOfWord_3 (by decide) ?_
      refine lv_icmp_ge (tgt := 31) hx hb dX10_kindOfWord_5 (by decide) (fun c_1 => ?_) (fun c_1 => ?_)
      · have kc_1 : i.toInt ≥ 14 := by have h9 := c_1; simp only [ge_iff_le, gt_iff_lt, x_lt, x_le, x_eq, ne_eq, Int32.not_lt, Int32.not_le] at h9; simp only [Int32.reduceToInt] at h9; omega
        refine lv_sipush (v := 258) hx hb dX10_kindOfWord_31 (by decide) ?_
        exact x_iretW (v := 258) (u := ()) hx hb hr hQ trivial hP hD hK hS dX10_kindOfWord_34 hlocks
      · have kc_1 : i.toInt < 14 := by have h9 := c_1; simp only [ge_iff_le, gt_iff_lt, x_lt, x_le, x_eq, ne_eq, Int32.not_lt, Int32.not_le] at h9; simp only [Int32.reduceToInt] at h9; omega
        refine lv_aload_n hx hb dX10_kindOfWord_8 rfl (lv_at hl 2 rfl) ?_
        refine va_get (D := D) (ci := 9) (v := .ref (ad 41)) (C := RX10) (T := TX10) (N := 6) hx hb hts inX10 hown hK hP 0 tkw_o0 rfl 0 (by decide) fl9 (fun _ h9 => h9) rfl dX10_kindOfWord_9 ?_
        refine lv_iload_n hx hb dX10_kindOfWord_12 rfl (lv_at hl 0 rfl) ?_
        refine va_lald hx hb hK hP 2 3 tkw_a2 rfl (x_in (by omega) (by omega)) dX10_kindOfWord_13 ?_
        refine lv_topl (fun j_2 ej_2 => ?_)
        have ej_2 : j_2 = (σ.2.2.2 41) (Int32.toNatClampNeg i) := ej_2
        refine lv_lload_n hx hb dX10_kindOfWord_14 rfl (lv_at hl 1 rfl) ?_
        refine W.lcmp hx hb dX10_kindOfWord_15 ?_
        refine lv_if_ne (tgt := 25) hx hb dX10_kindOfWord_16 (by decide) (fun c_3 => ?_) (fun c_3 => ?_)
        · have kc_3 : j_2.toInt ≠ x.toInt := by have h9 := x_tri j_2 x; (try simp only [Int64.reduceToInt] at h9); rcases h9 with ⟨g1, g2⟩ | ⟨g1, g2⟩ | ⟨g1, g2⟩ <;> first | omega | (exfalso; rw [g1] at c_3; revert c_3; decide)
          obtain ⟨i_4, ei_4⟩ : ∃ z9 : Int32, z9 = i + 1 := ⟨_, rfl⟩
          have vi_4 : i_4.toInt = i.toInt + 1 := by have h9 := x_add ei_4 (by omega) (by omega); omega
          refine lv_iinc (v := i_4) (lv' := [(3, .int i_4), (1, .long x), (0, .ref (ad 40))]) hx hb dX10_kindOfWord_25 hl (k := 0) rfl (by rw [ei_4]; rfl) (by decide) rfl (fun ls hl => ?_)
          refine lv_goto (tgt := 2) hx hb dX10_kindOfWord_28 (by decide) ?_
          exact ih_loop i_4 H locs ls (by omega) (by omega) (by omega) hP hD hS (lv_sub hl [0, 1, 2] rfl)
        · have kc_3 : j_2.toInt = x.toInt := by have h9 := x_tri j_2 x; (try simp only [Int64.reduceToInt] at h9); rcases h9 with ⟨g1, g2⟩ | ⟨g1, g2⟩ | ⟨g1, g2⟩ <;> first | omega | (exfalso; rw [g1] at c_3; revert c_3; decide)
          refine lv_sipush (v := 262) hx hb dX10_kindOfWord_19 (by decide) ?_
          refine lv_iload_n hx hb dX10_kindOfWord_22 rfl (lv_at hl 0 rfl) ?_
          refine lv_iadd hx hb dX10_kindOfWord_23 ?_
          refine lv_topi (fun i_5 ei_5 => ?_)
          exact x_iretW (v := i_5) (u := ()) hx hb hr hQ trivial hP hD hK hS dX10_kindOfWord_24 hlocks
  exact loop 15 0 H locs ls (by decide) (by decide) (by omega) hP hD hS (lv_sub hl [0, 2, 1] rfl)

def v_o_add : List Cond := .code yX10_add cX10_add 5 none :: ([.fieldLink RX10 41 "SlopeRunner$Tokens" "count" "I", .fieldLink RX10 15 "SlopeRunner$Tokens" "kind" "[I", .fieldLink RX10 19 "SlopeRunner$Tokens" "start" "[I", .fieldLink RX10 22 "SlopeRunner$Tokens" "worth" "[J"] ++ wsX100)
set_option maxHeartbeats 4000000 in
set_option maxRecDepth 100000 in
theorem o_add (l : Launch) (D : va_G) (y : Nat → ClassId) (sz : Nat) (ad : Nat → Nat) (σ : OS) (q i : Int32) (x : Int64) (hct0 : 0 ≤ (σ.1 45).toInt) (hct1 : (σ.1 45).toInt ≤ 700) : Met l yX10_add v_o_add ({ frames := 0, cells := 0, slots := 0, locals := 0 } : Room) (va_Pc [.ref (ad 40), .int q, .int i, .long x] (xPre D (xT y) (tkw y ad σ) sz)) (va_Qv (fun (u : (Nat → Int32) × (Nat → Int32) × (Nat → Int64) × Int32) => 0 ≤ u.2.2.2.toInt ∧ u.2.2.2.toInt ≤ 700) (fun (u : (Nat → Int32) × (Nat → Int32) × (Nat → Int64) × Int32) => xB D (xT y) (va_A (tkw y ad σ) sz) (tkw y ad (sI (tJ (tI (tI σ 42 u.1) 43 u.2.1) 44 u.2.2.1) 45 u.2.2.2))) (va_A (tkw y ad σ) sz)) 0 0 (va_A (tkw y ad σ) sz) := by
  refine x_metv (cc := cX10_add) (maxL := 5) (by decide) rfl (Nat.le_of_ble_eq_true rfl) ?_
  intro p e s m below meth c A H locs Q hx hb hml hown hts hr hlocks hmn hA hP hK hD hS ls hl hQ
  have hl : lv_has ls 5 [(0, .ref (ad 40)), (1, .int q), (2, .int i), (3, .long x)] := hl
  have fl41 := hts (.fieldLink RX10 41 "SlopeRunner$Tokens" "count" "I") (List.mem_of_getElem? (i := 1) rfl)
  have inX10 : ∀ w ∈ wsX100, w ∈ v_o_add := (fun w h => List.mem_cons_of_mem _ (List.mem_append_right _ h))
  have kk_700 : (700 : Int32).toInt = 700 := rfl
  have fl15 := hts (.fieldLink RX10 15 "SlopeRunner$Tokens" "kind" "[I") (List.mem_of_getElem? (i := 2) rfl)
  have fl19 := hts (.fieldLink RX10 19 "SlopeRunner$Tokens" "start" "[I") (List.mem_of_getElem? (i := 3) rfl)
  have fl22 := hts (.fieldLink RX10 22 "SlopeRunner$Tokens" "worth" "[J") (List.mem_of_getElem? (i := 4) rfl)
  have kk_1 : (1 : Int32).toInt = 1 := rfl
  refine lv_aload_n hx hb dX10_add_0 rfl (lv_at hl 0 rfl) ?_
  refine va_get (D := D) (ci := 9) (v := .int (σ.1 45)) (C := RX10) (T := TX10) (N := 6) hx hb hts inX10 hown hK hP 0 tkw_o0 rfl 4 (by decide) fl41 (fun _ h9 => h9) rfl dX10_add_1 ?_
  refine lv_sipush (v := 700) hx hb dX10_add_4 (by decide) ?_
  refine lv_icmp_ge (tgt := 50) hx hb dX10_add_7 (by decide) (fun c_1 => ?_) (fun c_1 => ?_)
  · have kc_1 : (σ.1 45).toInt ≥ 700 := by have h9 := c_1; simp only [ge_iff_le, gt_iff_lt, x_lt, x_le, x_eq, ne_eq, Int32.not_lt, Int32.not_le] at h9; simp only [Int32.reduceToInt] at h9; omega
    have hP : va_P D vwCl (tkw y ad (sI (tJ (tI (tI σ 42 (σ.2.2.1 42)) 43 (σ.2.2.1 43)) 44 (σ.2.2.2 44)) 45 (σ.1 45))) H := hP
    have hD : va_D A (tkw y ad (sI (tJ (tI (tI σ 42 (σ.2.2.1 42)) 43 (σ.2.2.1 43)) 44 (σ.2.2.2 44)) 45 (σ.1 45))) := hD
    exact x_vretW (u := ((σ.2.2.1 42), (σ.2.2.1 43), (σ.2.2.2 44), (σ.1 45))) hx hb hr hQ (by (try dsimp only); exact ⟨by omega, by omega⟩) hP hD hK hS dX10_add_50 hlocks
  · have kc_1 : (σ.1 45).toInt < 700 := by have h9 := c_1; simp only [ge_iff_le, gt_iff_lt, x_lt, x_le, x_eq, ne_eq, Int32.not_lt, Int32.not_le] at h9; simp only [Int32.reduceToInt] at h9; omega
    refine lv_aload_n hx hb dX10_add_10 rfl (lv_at hl 0 rfl) ?_
    refine va_get (D := D) (ci := 9) (v := .ref (ad 42)) (C := RX10) (T := TX10) (N := 6) hx hb hts inX10 hown hK hP 0 tkw_o0 rfl 1 (by decide) fl15 (fun _ h9 => h9) rfl dX10_add_11 ?_
    refine lv_aload_n hx hb dX10_add_14 rfl (lv_at hl 0 rfl) ?_
    refine va_get (D := D) (ci := 9) (v := .int (σ.1 45)) (C := RX10) (T := TX10) (N := 6) hx hb hts inX10 hown hK hP 0 tkw_o0 rfl 4 (by decide) fl41 (fun _ h9 => h9) rfl dX10_add_15 ?_
    refine lv_iload_n hx hb dX10_add_18 rfl (lv_at hl 1 rfl) ?_
    refine va_iast hx hb hK hP hD hS 3 2 tkw_a3 rfl (x_in (by omega) (by omega)) dX10_add_19 (fun H locs hP hD hS => ?_)
    obtain ⟨f_2, ef_2⟩ : ∃ z9 : Nat → Int32, z9 = (upd (σ.2.2.1 42) (Int32.toNatClampNeg (σ.1 45)) q) := ⟨_, rfl⟩
    have hP : va_P D vwCl (tkw y ad (tI σ 42 f_2)) H := by rw [ef_2]; exact x_trP hP tkw_s3
    have hD : va_D A (tkw y ad (tI σ 42 f_2)) := by rw [ef_2]; exact x_trD hD tkw_s3
    refine lv_aload_n hx hb dX10_add_20 rfl (lv_at hl 0 rfl) ?_
    refine va_get (D := D) (ci := 9) (v := .ref (ad 43)) (C := RX10) (T := TX10) (N := 6) hx hb hts inX10 hown hK hP 0 tkw_o0 rfl 2 (by decide) fl19 (fun _ h9 => h9) rfl dX10_add_21 ?_
    refine lv_aload_n hx hb dX10_add_24 rfl (lv_at hl 0 rfl) ?_
    refine va_get (D := D) (ci := 9) (v := .int (σ.1 45)) (C := RX10) (T := TX10) (N := 6) hx hb hts inX10 hown hK hP 0 tkw_o0 rfl 4 (by decide) fl41 (fun _ h9 => h9) rfl dX10_add_25 ?_
    refine lv_iload_n hx hb dX10_add_28 rfl (lv_at hl 2 rfl) ?_
    refine va_iast hx hb hK hP hD hS 4 2 tkw_a4 rfl (x_in (by omega) (by omega)) dX10_add_29 (fun H locs hP hD hS => ?_)
    obtain ⟨f_3, ef_3⟩ : ∃ z9 : Nat → Int32, z9 = (upd (σ.2.2.1 43) (Int32.toNatClampNeg (σ.1 45)) i) := ⟨_, rfl⟩
    have hP : va_P D vwCl (tkw y ad (tI (tI σ 42 f_2) 43 f_3)) H := by rw [ef_3]; exact x_trP hP tkw_s4
    have hD : va_D A (tkw y ad (tI (tI σ 42 f_2) 43 f_3)) := by rw [ef_3]; exact x_trD hD tkw_s4
    refine lv_aload_n hx hb dX10_add_30 rfl (lv_at hl 0 rfl) ?_
    refine va_get (D := D) (ci := 9) (v := .ref (ad 44)) (C := RX10) (T := TX10) (N := 6) hx hb hts inX10 hown hK hP 0 tkw_o0 rfl 3 (by decide) fl22 (fun _ h9 => h9) rfl dX10_add_31 ?_
    refine lv_aload_n hx hb dX10_add_34 rfl (lv_at hl 0 rfl) ?_
    refine va_get (D := D) (ci := 9) (v := .int (σ.1 45)) (C := RX10) (T := TX10) (N := 6) hx hb hts inX10 hown hK hP 0 tkw_o0 rfl 4 (by decide) fl41 (fun _ h9 => h9) rfl dX10_add_35 ?_
    refine lv_lload_n hx hb dX10_add_38 rfl (lv_at hl 3 rfl) ?_
    refine va_last hx hb hK hP hD hS 5 3 tkw_a5 rfl (x_in (by omega) (by omega)) dX10_add_39 (fun H locs hP hD hS => ?_)
    obtain ⟨f_4, ef_4⟩ : ∃ z9 : Nat → Int64, z9 = (vp_updL (σ.2.2.2 44) (Int32.toNatClampNeg (σ.1 45)) x) := ⟨_, rfl⟩
    have hP : va_P D vwCl (tkw y ad (tJ (tI (tI σ 42 f_2) 43 f_3) 44 f_4)) H := by rw [ef_4]; exact x_trP hP tkw_s5
    have hD : va_D A (tkw y ad (tJ (tI (tI σ 42 f_2) 43 f_3) 44 f_4)) := by rw [ef_4]; exact x_trD hD tkw_s5
    refine lv_aload_n hx hb dX10_add_40 rfl (lv_at hl 0 rfl) ?_
    refine lv_dup hx hb dX10_add_41 rfl ?_
    refine va_get (D := D) (ci := 9) (v := .int (σ.1 45)) (C := RX10) (T := TX10) (N := 6) hx hb hts inX10 hown hK hP 0 tkw_o0 rfl 4 (by decide) fl41 (fun _ h9 => h9) rfl dX10_add_42 ?_
    refine lv_iconst (v := 1) hx hb dX10_add_45 (by decide) ?_
    refine lv_iadd hx hb dX10_add_46 ?_
    refine lv_topi (fun i_5 ei_5 => ?_)
    have vi_5 : i_5.toInt = (σ.1 45).toInt + 1 := by have h9 := x_add ei_5 (by omega) (by omega); omega
    refine va_put (D := D) (ci := 9) (v := .int i_5) (ty := .int) (C := RX10) (T := TX10) (N := 6) hx hb hts inX10 tyX10 tyX10_ok nmX10 hown hK hP hD hS 0 tkw_o0 rfl 4 (by decide) fl41 (fun _ h9 => h9) rfl (by decide +kernel) rfl rfl (Nat.le_of_ble_eq_true rfl) dX10_add_47 (fun H locs hP hD hS => ?_)
    have hP : va_P D vwCl (tkw y ad (sI (tJ (tI (tI σ 42 f_2) 43 f_3) 44 f_4) 45 i_5)) H := x_trP hP tkw_p0_4
    have hD : va_D A (tkw y ad (sI (tJ (tI (tI σ 42 f_2) 43 f_3) 44 f_4) 45 i_5)) := x_trD hD tkw_p0_4
    exact x_vretW (u := (f_2, f_3, f_4, i_5)) hx hb hr hQ (by (try dsimp only); exact ⟨by omega, by omega⟩) hP hD hK hS dX10_add_50 hlocks

def v_o_takeWord : List Cond := .code yX10_takeWord cX10_takeWord 7 (some .int) :: ([] ++ ((wsV RX10 78 RX10 yX10_kindOfWord v_o_kindOfWord) ++ ((wsS RX10 82 yX10_isGlued v_o_isGlued) ++ ((wsV RX10 74 RX10 yX10_add v_o_add) ++ ((wsV RX10 54 RX9 yX9_at v_x_at) ++ ((wsS RX10 58 yX10_isLetter v_o_isLetter) ++ (wsS RX10 37 yX10_joined v_o_joined)))))))
theorem g_o_takeWord_0 : GoodIn v_o_takeWord (wsV RX10 78 RX10 yX10_kindOfWord v_o_kindOfWord) := goodIn_sub (fun w h => List.mem_cons_of_mem _ (List.mem_append_right _ (List.mem_append_left _ h))) (by decide +kernel)
theorem g_o_takeWord_1 : GoodIn v_o_takeWord (wsS RX10 82 yX10_isGlued v_o_isGlued) := goodIn_sub (fun w h => List.mem_cons_of_mem _ (List.mem_append_right _ (List.mem_append_right _ (List.mem_append_left _ h)))) (by decide +kernel)
theorem g_o_takeWord_2 : GoodIn v_o_takeWord (wsV RX10 74 RX10 yX10_add v_o_add) := goodIn_sub (fun w h => List.mem_cons_of_mem _ (List.mem_append_right _ (List.mem_append_right _ (List.mem_append_right _ (List.mem_append_left _ h))))) (by decide +kernel)
theorem g_o_takeWord_3 : GoodIn v_o_takeWord (wsV RX10 54 RX9 yX9_at v_x_at) := goodIn_sub (fun w h => List.mem_cons_of_mem _ (List.mem_append_right _ (List.mem_append_right _ (List.mem_append_right _ (List.mem_append_right _ (List.mem_append_left _ h)))))) (by decide +kernel)
theorem g_o_takeWord_4 : GoodIn v_o_takeWord (wsS RX10 58 yX10_isLetter v_o_isLetter) := goodIn_sub (fun w h => List.mem_cons_of_mem _ (List.mem_append_right _ (List.mem_append_right _ (List.mem_append_right _ (List.mem_append_right _ (List.mem_append_right _ (List.mem_append_left _ h))))))) (by decide +kernel)
theorem g_o_takeWord_5 : GoodIn v_o_takeWord (wsS RX10 37 yX10_joined v_o_joined) := goodIn_sub (fun w h => List.mem_cons_of_mem _ (List.mem_append_right _ (List.mem_append_right _ (List.mem_append_right _ (List.mem_append_right _ (List.mem_append_right _ (List.mem_append_right _ h))))))) (by decide +kernel)
set_option maxHeartbeats 4000000 in
set_option maxRecDepth 100000 in
theorem o_takeWord (l : Launch) (D : va_G) (y : Nat → ClassId) (sz : Nat) (ad : Nat → Nat) (σ : OS) (q : Int32) (hct0 : 0 ≤ (σ.1 45).toInt) (hct1 : (σ.1 45).toInt ≤ 700) (htl0 : 0 ≤ (σ.1 22).toInt) (htl1 : (σ.1 22).toInt ≤ 700) : Met l yX10_takeWord v_o_takeWord ({ frames := 2, cells := 0, slots := 0, locals := 43 } : Room) (va_Pc [.ref (ad 40), .ref (ad 20), .int q] (xPre D (xT y) (tkw y ad σ) sz)) (va_Qi (fun (r : Int32) (u : (Nat → Int32) × (Nat → Int32) × (Nat → Int64) × Int32) => 0 ≤ u.2.2.2.toInt ∧ u.2.2.2.toInt ≤ 700) (fun (u : (Nat → Int32) × (Nat → Int32) × (Nat → Int64) × Int32) => xB D (xT y) (va_A (tkw y ad σ) sz) (tkw y ad (sI (tJ (tI (tI σ 42 u.1) 43 u.2.1) 44 u.2.2.1) 45 u.2.2.2))) (va_A (tkw y ad σ) sz)) 0 0 (va_A (tkw y ad σ) sz) := by
  refine x_meti (cc := cX10_takeWord) (maxL := 7) (by decide) rfl (Nat.le_of_ble_eq_true rfl) ?_
  intro p e s m below meth c A H locs Q hx hb hml hown hts hr hlocks hmn hA hP hK hD hS ls hl hQ
  have hl : lv_has ls 7 [(0, .ref (ad 40)), (1, .ref (ad 20)), (2, .int q)] := hl
  have kk_700 : (700 : Int32).toInt = 700 := rfl
  have kk_6 : (6 : Int32).toInt = 6 := rfl
  have kk_0 : (0 : Int32).toInt = 0 := rfl
  have kk_257 : (257 : Int32).toInt = 257 := rfl
  have kk_259 : (259 : Int32).toInt = 259 := rfl
  have kk_1 : (1 : Int32).toInt = 1 := rfl
  refine lv_lconst (v := 0) hx hb dX10_takeWord_0 (by decide) ?_
  refine lv_lstore_n (lv' := [(3, .long 0), (0, .ref (ad 40)), (1, .ref (ad 20)), (2, .int q)]) hx hb dX10_takeWord_1 rfl hl (by decide) rfl (fun ls hl => ?_)
  refine lv_iload_n hx hb dX10_takeWord_2 rfl (lv_at hl 3 rfl) ?_
  refine lv_istore (lv' := [(5, .int q), (3, .long 0), (0, .ref (ad 40)), (1, .ref (ad 20)), (2, .int q)]) hx hb dX10_takeWord_3 hl (by decide) rfl (fun ls hl => ?_)
  refine lv_iconst (v := 0) hx hb dX10_takeWord_5 (by decide) ?_
  refine lv_istore (lv' := [(6, .int 0), (5, .int q), (3, .long 0), (0, .ref (ad 40)), (1, .ref (ad 20)), (2, .int q)]) hx hb dX10_takeWord_6 hl (by decide) rfl (fun ls hl => ?_)
  have l00 : (0 : Int32).toInt = 0 := rfl
  have loop : ∀ (fu : Nat) (i : Int32) (z5 : Int32) (z3 : Int64) (H : Heap) (locs : List Loc) (ls : Array Slot), (0 ≤ i.toInt) → (i.toInt ≤ 700) → (700 - i.toInt < (fu : Int)) → va_P D vwCl (tkw y ad σ) H → va_D A (tkw y ad σ) → va_S A s.heap H locs → lv_has ls 7 [(6, .int i), (5, .int z5), (3, .long z3), (2, .int q), (1, .ref (ad 20)), (0, .ref (ad 40))] → W p l e ({ frames := 2, cells := 0, slots := 0, locals := 43 } : Room) s m ([.ref (ad 40), .ref (ad 20), .int q] : List Value).toArray below meth c H locs 0 0 Q (F0 m 8 ls []) := by
    intro fu
    induction fu with
    | zero =>
      intro i z5 z3 H locs ls hi0 hi1 hm
      exact absurd hm (by omega)
    | succ fu ih_loop =>
      intro i z5 z3 H locs ls hi0 hi1 hm hP hD hS hl
      refine lv_iload hx hb dX10_takeWord_8 (lv_at hl 0 rfl) ?_
      refine lv_sipush (v := 700) hx hb dX10_takeWord_10 (by decide) ?_
      refine lv_icmp_ge (tgt := 48) hx hb dX10_takeWord_13 (by decide) (fun c_1 => ?_) (fun c_1 => ?_)
      · have kc_1 : i.toInt ≥ 700 := by have h9 := c_1; simp only [ge_iff_le, gt_iff_lt, x_lt, x_le, x_eq, ne_eq, Int32.not_lt, Int32.not_le] at h9; simp only [Int32.reduceToInt] at h9; omega
        refine lv_iload hx hb dX10_takeWord_48 (lv_at hl 1 rfl) ?_
        refine lv_iload_n hx hb dX10_takeWord_50 rfl (lv_at hl 3 rfl) ?_
        refine lv_isub hx hb dX10_takeWord_51 ?_
        refine lv_topi (fun i_2 ei_2 => ?_)
        refine lv_bipush (v := 6) hx hb dX10_takeWord_52 (by decide) ?_
        refine lv_icmp_le (tgt := 63) hx hb dX10_takeWord_54 (by decide) (fun c_3 => ?_) (fun c_3 => ?_)
        · have kc_3 : i_2.toInt ≤ 6 := by have h9 := c_3; simp only [ge_iff_le, gt_iff_lt, x_lt, x_le, x_eq, ne_eq, Int32.not_lt, Int32.not_le] at h9; simp only [Int32.reduceToInt] at h9; omega
          refine lv_aload_n hx hb dX10_takeWord_63 rfl (lv_at hl 5 rfl) ?_
          refine lv_lload_n hx hb dX10_takeWord_64 rfl (lv_at hl 2 rfl) ?_
          refine x_calliW (va_runV (As := [.long z3]) (rest := []) ⟨hx, hb, hml, hown, hts⟩ (o_kindOfWord l D y H.size ad σ z3) (cwV 1 hts g_o_takeWord_0 rfl rfl rfl (by decide +kernel) ⟨Nat.le_of_ble_eq_true rfl, Nat.le_of_ble_eq_true rfl⟩) (x_preV (q := (RX10, TX10, 6)) hK hP hD (ci := 9) (q0 := 0) rfl tkw_o0) rfl rfl hl.1 rfl (lv_room (Nat.le_of_ble_eq_true rfl)) dX10_takeWord_65 ⟨Nat.le_of_ble_eq_true rfl, Nat.le_of_ble_eq_true rfl⟩) hP hD hS hA (fun r_4 u H locs hw hP hD hS => ?_)
          try dsimp only at hw
          have hP : va_P D vwCl (tkw y ad σ) H := hP
          have hD : va_D A (tkw y ad σ) := hD
          refine lv_istore (lv' := [(6, .int r_4), (5, .int z5), (3, .long z3), (2, .int q), (1, .ref (ad 20)), (0, .ref (ad 40))]) hx hb dX10_takeWord_68 hl (by decide) rfl (fun ls hl => ?_)
          refine lv_aload_n hx hb dX10_takeWord_70 rfl (lv_at hl 5 rfl) ?_
          refine lv_aload_n hx hb dX10_takeWord_71 rfl (lv_at hl 4 rfl) ?_
          refine lv_iload_n hx hb dX10_takeWord_72 rfl (lv_at hl 3 rfl) ?_
          have hPs : va_P D vwCl (txw y ad σ) H := x_suP hP [1, 6] rfl
          have hDs : va_D A (txw y ad σ) := x_suD hD [1, 6] rfl (by decide)
          refine x_calliS (b1 := fun (u : Unit) => (tkw y ad σ)) [1, 6] (va_runS (As := [.ref (ad 20), .int q]) (rest := [.ref (ad 40)]) ⟨hx, hb, hml, hown, hts⟩ (o_isGlued l D y H.size ad σ q (show 0 ≤ ((σ.1 22)).toInt from by first | omega | decide) (show ((σ.1 22)).toInt ≤ 700 from by first | omega | decide)) (cwS 2 hts g_o_takeWord_1 rfl rfl rfl (by decide +kernel) ⟨Nat.le_of_ble_eq_true rfl, Nat.le_of_ble_eq_true rfl⟩) (x_preS hK hPs hDs) rfl rfl hl.1 rfl (lv_room (Nat.le_of_ble_eq_true rfl)) dX10_takeWord_73 ⟨Nat.le_of_ble_eq_true rfl, Nat.le_of_ble_eq_true rfl⟩) hP hD hS hA rfl (fun _ => rfl) (fun _ => rfl) (fun _ => rfl) (fun r_5 u H locs hw hP hD hS => ?_)
          try dsimp only at hw
          have hP : va_P D vwCl (tkw y ad σ) H := hP
          have hD : va_D A (tkw y ad σ) := hD
          refine lv_if_eq (tgt := 85) hx hb dX10_takeWord_76 (by decide) (fun c_6 => ?_) (fun c_6 => ?_)
          · have kc_6 : r_5.toInt = 0 := by have h9 := c_6; simp only [ge_iff_le, gt_iff_lt, x_lt, x_le, x_eq, ne_eq, Int32.not_lt, Int32.not_le] at h9; simp only [Int32.reduceToInt] at h9; omega
            refine lv_iload hx hb dX10_takeWord_85 (lv_at hl 0 rfl) ?_
            refine lv_iload_n hx hb dX10_takeWord_87 rfl (lv_at hl 3 rfl) ?_
            refine lv_lload_n hx hb dX10_takeWord_88 rfl (lv_at hl 2 rfl) ?_
            refine x_callvW (va_runV (As := [.int r_4, .int q, .long z3]) (rest := []) ⟨hx, hb, hml, hown, hts⟩ (o_add l D y H.size ad σ r_4 q z3 (show 0 ≤ ((σ.1 45)).toInt from by first | omega | decide) (show ((σ.1 45)).toInt ≤ 700 from by first | omega | decide)) (cwV 3 hts g_o_takeWord_2 rfl rfl rfl (by decide +kernel) ⟨Nat.le_of_ble_eq_true rfl, Nat.le_of_ble_eq_true rfl⟩) (x_preV (q := (RX10, TX10, 6)) hK hP hD (ci := 9) (q0 := 0) rfl tkw_o0) rfl rfl hl.1 rfl (lv_room (Nat.le_of_ble_eq_true rfl)) dX10_takeWord_89 ⟨Nat.le_of_ble_eq_true rfl, Nat.le_of_ble_eq_true rfl⟩) hP hD hS hA (fun u H locs hw hP hD hS => ?_)
            obtain ⟨f_7, f_8, f_9, n_10⟩ := u
            try dsimp only at hw
            have hP : va_P D vwCl (tkw y ad (sI (tJ (tI (tI σ 42 f_7) 43 f_8) 44 f_9) 45 n_10)) H := hP
            have hD : va_D A (tkw y ad (sI (tJ (tI (tI σ 42 f_7) 43 f_8) 44 f_9) 45 n_10)) := hD
            replace hw : 0 ≤ n_10.toInt ∧ n_10.toInt ≤ 700 := hw
            refine lv_iload hx hb dX10_takeWord_92 (lv_at hl 1 rfl) ?_
            exact x_iretW (v := z5) (u := (f_7, f_8, f_9, n_10)) hx hb hr hQ (by (try dsimp only); exact ⟨by omega, by omega⟩) hP hD hK hS dX10_takeWord_94 hlocks
          · have kc_6 : r_5.toInt ≠ 0 := by have h9 := c_6; simp only [ge_iff_le, gt_iff_lt, x_lt, x_le, x_eq, ne_eq, Int32.not_lt, Int32.not_le] at h9; simp only [Int32.reduceToInt] at h9; omega
            refine lv_sipush (v := 257) hx hb dX10_takeWord_79 (by decide) ?_
            refine lv_goto (tgt := 87) hx hb dX10_takeWord_82 (by decide) ?_
            refine lv_iload_n hx hb dX10_takeWord_87 rfl (lv_at hl 3 rfl) ?_
            refine lv_lload_n hx hb dX10_takeWord_88 rfl (lv_at hl 2 rfl) ?_
            refine x_callvW (va_runV (As := [.int 257, .int q, .long z3]) (rest := []) ⟨hx, hb, hml, hown, hts⟩ (o_add l D y H.size ad σ 257 q z3 (show 0 ≤ ((σ.1 45)).toInt from by first | omega | decide) (show ((σ.1 45)).toInt ≤ 700 from by first | omega | decide)) (cwV 3 hts g_o_takeWord_2 rfl rfl rfl (by decide +kernel) ⟨Nat.le_of_ble_eq_true rfl, Nat.le_of_ble_eq_true rfl⟩) (x_preV (q := (RX10, TX10, 6)) hK hP hD (ci := 9) (q0 := 0) rfl tkw_o0) rfl rfl hl.1 rfl (lv_room (Nat.le_of_ble_eq_true rfl)) dX10_takeWord_89 ⟨Nat.le_of_ble_eq_true rfl, Nat.le_of_ble_eq_true rfl⟩) hP hD hS hA (fun u H locs hw hP hD hS => ?_)
            obtain ⟨f_11, f_12, f_13, n_14⟩ := u
            try dsimp only at hw
            have hP : va_P D vwCl (tkw y ad (sI (tJ (tI (tI σ 42 f_11) 43 f_12) 44 f_13) 45 n_14)) H := hP
            have hD : va_D A (tkw y ad (sI (tJ (tI (tI σ 42 f_11) 43 f_12) 44 f_13) 45 n_14)) := hD
            replace hw : 0 ≤ n_14.toInt ∧ n_14.toInt ≤ 700 := hw
            refine lv_iload hx hb dX10_takeWord_92 (lv_at hl 1 rfl) ?_
            exact x_iretW (v := z5) (u := (f_11, f_12, f_13, n_14)) hx hb hr hQ (by (try dsimp only); exact ⟨by omega, by omega⟩) hP hD hK hS dX10_takeWord_94 hlocks
        · have kc_3 : i_2.toInt > 6 := by have h9 := c_3; simp only [ge_iff_le, gt_iff_lt, x_lt, x_le, x_eq, ne_eq, Int32.not_lt, Int32.not_le] at h9; simp only [Int32.reduceToInt] at h9; omega
          refine lv_sipush (v := 259) hx hb dX10_takeWord_57 (by decide) ?_
          refine lv_goto (tgt := 68) hx hb dX10_takeWord_60 (by decide) ?_
          refine lv_istore (lv' := [(6, .int 259), (5, .int z5), (3, .long z3), (2, .int q), (1, .ref (ad 20)), (0, .ref (ad 40))]) hx hb dX10_takeWord_68 hl (by decide) rfl (fun ls hl => ?_)
          refine lv_aload_n hx hb dX10_takeWord_70 rfl (lv_at hl 5 rfl) ?_
          refine lv_aload_n hx hb dX10_takeWord_71 rfl (lv_at hl 4 rfl) ?_
          refine lv_iload_n hx hb dX10_takeWord_72 rfl (lv_at hl 3 rfl) ?_
          have hPs : va_P D vwCl (txw y ad σ) H := x_suP hP [1, 6] rfl
          have hDs : va_D A (txw y ad σ) := x_suD hD [1, 6] rfl (by decide)
          refine x_calliS (b1 := fun (u : Unit) => (tkw y ad σ)) [1, 6] (va_runS (As := [.ref (ad 20), .int q]) (rest := [.ref (ad 40)]) ⟨hx, hb, hml, hown, hts⟩ (o_isGlued l D y H.size ad σ q (show 0 ≤ ((σ.1 22)).toInt from by first | omega | decide) (show ((σ.1 22)).toInt ≤ 700 from by first | omega | decide)) (cwS 2 hts g_o_takeWord_1 rfl rfl rfl (by decide +kernel) ⟨Nat.le_of_ble_eq_true rfl, Nat.le_of_ble_eq_true rfl⟩) (x_preS hK hPs hDs) rfl rfl hl.1 rfl (lv_room (Nat.le_of_ble_eq_true rfl)) dX10_takeWord_73 ⟨Nat.le_of_ble_eq_true rfl, Nat.le_of_ble_eq_true rfl⟩) hP hD hS hA rfl (fun _ => rfl) (fun _ => rfl) (fun _ => rfl) (fun r_15 u H locs hw hP hD hS => ?_)
          try dsimp only at hw
          have hP : va_P D vwCl (tkw y ad σ) H := hP
          have hD : va_D A (tkw y ad σ) := hD
          refine lv_if_eq (tgt := 85) hx hb dX10_takeWord_76 (by decide) (fun c_16 => ?_) (fun c_16 => ?_)
          · have kc_16 : r_15.toInt = 0 := by have h9 := c_16; simp only [ge_iff_le, gt_iff_lt, x_lt, x_le, x_eq, ne_eq, Int32.not_lt, Int32.not_le] at h9; simp only [Int32.reduceToInt] at h9; omega
            refine lv_iload hx hb dX10_takeWord_85 (lv_at hl 0 rfl) ?_
            refine lv_iload_n hx hb dX10_takeWord_87 rfl (lv_at hl 3 rfl) ?_
            refine lv_lload_n hx hb dX10_takeWord_88 rfl (lv_at hl 2 rfl) ?_
            refine x_callvW (va_runV (As := [.int 259, .int q, .long z3]) (rest := []) ⟨hx, hb, hml, hown, hts⟩ (o_add l D y H.size ad σ 259 q z3 (show 0 ≤ ((σ.1 45)).toInt from by first | omega | decide) (show ((σ.1 45)).toInt ≤ 700 from by first | omega | decide)) (cwV 3 hts g_o_takeWord_2 rfl rfl rfl (by decide +kernel) ⟨Nat.le_of_ble_eq_true rfl, Nat.le_of_ble_eq_true rfl⟩) (x_preV (q := (RX10, TX10, 6)) hK hP hD (ci := 9) (q0 := 0) rfl tkw_o0) rfl rfl hl.1 rfl (lv_room (Nat.le_of_ble_eq_true rfl)) dX10_takeWord_89 ⟨Nat.le_of_ble_eq_true rfl, Nat.le_of_ble_eq_true rfl⟩) hP hD hS hA (fun u H locs hw hP hD hS => ?_)
            obtain ⟨f_17, f_18, f_19, n_20⟩ := u
            try dsimp only at hw
            have hP : va_P D vwCl (tkw y ad (sI (tJ (tI (tI σ 42 f_17) 43 f_18) 44 f_19) 45 n_20)) H := hP
            have hD : va_D A (tkw y ad (sI (tJ (tI (tI σ 42 f_17) 43 f_18) 44 f_19) 45 n_20)) := hD
            replace hw : 0 ≤ n_20.toInt ∧ n_20.toInt ≤ 700 := hw
            refine lv_iload hx hb dX10_takeWord_92 (lv_at hl 1 rfl) ?_
            exact x_iretW (v := z5) (u := (f_17, f_18, f_19, n_20)) hx hb hr hQ (by (try dsimp only); exact ⟨by omega, by omega⟩) hP hD hK hS dX10_takeWord_94 hlocks
          · have kc_16 : r_15.toInt ≠ 0 := by have h9 := c_16; simp only [ge_iff_le, gt_iff_lt, x_lt, x_le, x_eq, ne_eq, Int32.not_lt, Int32.not_le] at h9; simp only [Int32.reduceToInt] at h9; omega
            refine lv_sipush (v := 257) hx hb dX10_takeWord_79 (by decide) ?_
            refine lv_goto (tgt := 87) hx hb dX10_takeWord_82 (by decide) ?_
            refine lv_iload_n hx hb dX10_takeWord_87 rfl (lv_at hl 3 rfl) ?_
            refine lv_lload_n hx hb dX10_takeWord_88 rfl (lv_at hl 2 rfl) ?_
            refine x_callvW (va_runV (As := [.int 257, .int q, .long z3]) (rest := []) ⟨hx, hb, hml, hown, hts⟩ (o_add l D y H.size ad σ 257 q z3 (show 0 ≤ ((σ.1 45)).toInt from by first | omega | decide) (show ((σ.1 45)).toInt ≤ 700 from by first | omega | decide)) (cwV 3 hts g_o_takeWord_2 rfl rfl rfl (by decide +kernel) ⟨Nat.le_of_ble_eq_true rfl, Nat.le_of_ble_eq_true rfl⟩) (x_preV (q := (RX10, TX10, 6)) hK hP hD (ci := 9) (q0 := 0) rfl tkw_o0) rfl rfl hl.1 rfl (lv_room (Nat.le_of_ble_eq_true rfl)) dX10_takeWord_89 ⟨Nat.le_of_ble_eq_true rfl, Nat.le_of_ble_eq_true rfl⟩) hP hD hS hA (fun u H locs hw hP hD hS => ?_)
            obtain ⟨f_21, f_22, f_23, n_24⟩ := u
            try dsimp only at hw
            have hP : va_P D vwCl (tkw y ad (sI (tJ (tI (tI σ 42 f_21) 43 f_22) 44 f_23) 45 n_24)) H := hP
            have hD : va_D A (tkw y ad (sI (tJ (tI (tI σ 42 f_21) 43 f_22) 44 f_23) 45 n_24)) := hD
            replace hw : 0 ≤ n_24.toInt ∧ n_24.toInt ≤ 700 := hw
            refine lv_iload hx hb dX10_takeWord_92 (lv_at hl 1 rfl) ?_
            exact x_iretW (v := z5) (u := (f_21, f_22, f_23, n_24)) hx hb hr hQ (by (try dsimp only); exact ⟨by omega, by omega⟩) hP hD hK hS dX10_takeWord_94 hlocks
      · have kc_1 : i.toInt < 700 := by have h9 := c_1; simp only [ge_iff_le, gt_iff_lt, x_lt, x_le, x_eq, ne_eq, Int32.not_lt, Int32.not_le] at h9; simp only [Int32.reduceToInt] at h9; omega
        refine lv_aload_n hx hb dX10_takeWord_16 rfl (lv_at hl 4 rfl) ?_
        refine lv_iload hx hb dX10_takeWord_17 (lv_at hl 1 rfl) ?_
        have hPs : va_P D vwCl (txw y ad σ) H := x_suP hP [1, 6] rfl
        have hDs : va_D A (txw y ad σ) := x_suD hD [1, 6] rfl (by decide)
        refine x_calliS (b1 := fun (u : Unit) => (tkw y ad σ)) [1, 6] (va_runV (As := [.int z5]) (rest := []) ⟨hx, hb, hml, hown, hts⟩ (x_at l D y H.size ad σ z5 (show 0 ≤ ((σ.1 22)).toInt from by first | omega | decide) (show ((σ.1 22)).toInt ≤ 700 from by first | omega | decide)) (cwV 1 hts g_o_takeWord_3 rfl rfl rfl (by decide +kernel) ⟨Nat.le_of_ble_eq_true rfl, Nat.le_of_ble_eq_true rfl⟩) (x_preV (q := (RX9, TX9, 2)) hK hPs hDs (ci := 8) (q0 := 0) rfl txw_o0) rfl rfl hl.1 rfl (lv_room (Nat.le_of_ble_eq_true rfl)) dX10_takeWord_19 ⟨Nat.le_of_ble_eq_true rfl, Nat.le_of_ble_eq_true rfl⟩) hP hD hS hA rfl (fun _ => rfl) (fun _ => rfl) (fun _ => rfl) (fun r_25 u H locs hw hP hD hS => ?_)
        try dsimp only at hw
        have hP : va_P D vwCl (tkw y ad σ) H := hP
        have hD : va_D A (tkw y ad σ) := hD
        refine x_calliN (va_runS (As := [.int r_25]) (rest := []) ⟨hx, hb, hml, hown, hts⟩ (o_isLetter l D y H.size r_25) (cwS 1 hts g_o_takeWord_4 rfl rfl rfl (by decide +kernel) ⟨Nat.le_of_ble_eq_true rfl, Nat.le_of_ble_eq_true rfl⟩) (x_preS hK (x_nilP D H) (x_nilD A)) rfl rfl hl.1 rfl (lv_room (Nat.le_of_ble_eq_true rfl)) dX10_takeWord_22 ⟨Nat.le_of_ble_eq_true rfl, Nat.le_of_ble_eq_true rfl⟩) hP hD hS hA (fun r_26 u H locs hw hP hD hS => ?_)
        try dsimp only at hw
        refine lv_if_eq (tgt := 48) hx hb dX10_takeWord_25 (by decide) (fun c_27 => ?_) (fun c_27 => ?_)
        · have kc_27 : r_26.toInt = 0 := by have h9 := c_27; simp only [ge_iff_le, gt_iff_lt, x_lt, x_le, x_eq, ne_eq, Int32.not_lt, Int32.not_le] at h9; simp only [Int32.reduceToInt] at h9; omega
          refine lv_iload hx hb dX10_takeWord_48 (lv_at hl 1 rfl) ?_
          refine lv_iload_n hx hb dX10_takeWord_50 rfl (lv_at hl 3 rfl) ?_
          refine lv_isub hx hb dX10_takeWord_51 ?_
          refine lv_topi (fun i_28 ei_28 => ?_)
          refine lv_bipush (v := 6) hx hb dX10_takeWord_52 (by decide) ?_
          refine lv_icmp_le (tgt := 63) hx hb dX10_takeWord_54 (by decide) (fun c_29 => ?_) (fun c_29 => ?_)
          · have kc_29 : i_28.toInt ≤ 6 := by have h9 := c_29; simp only [ge_iff_le, gt_iff_lt, x_lt, x_le, x_eq, ne_eq, Int32.not_lt, Int32.not_le] at h9; simp only [Int32.reduceToInt] at h9; omega
            refine lv_aload_n hx hb dX10_takeWord_63 rfl (lv_at hl 5 rfl) ?_
            refine lv_lload_n hx hb dX10_takeWord_64 rfl (lv_at hl 2 rfl) ?_
            refine x_calliW (va_runV (As := [.long z3]) (rest := []) ⟨hx, hb, hml, hown, hts⟩ (o_kindOfWord l D y H.size ad σ z3) (cwV 1 hts g_o_takeWord_0 rfl rfl rfl (by decide +kernel) ⟨Nat.le_of_ble_eq_true rfl, Nat.le_of_ble_eq_true rfl⟩) (x_preV (q := (RX10, TX10, 6)) hK hP hD (ci := 9) (q0 := 0) rfl tkw_o0) rfl rfl hl.1 rfl (lv_room (Nat.le_of_ble_eq_true rfl)) dX10_takeWord_65 ⟨Nat.le_of_ble_eq_true rfl, Nat.le_of_ble_eq_true rfl⟩) hP hD hS hA (fun r_30 u H locs hw hP hD hS => ?_)
            try dsimp only at hw
            have hP : va_P D vwCl (tkw y ad σ) H := hP
            have hD : va_D A (tkw y ad σ) := hD
            refine lv_istore (lv' := [(6, .int r_30), (5, .int z5), (3, .long z3), (2, .int q), (1, .ref (ad 20)), (0, .ref (ad 40))]) hx hb dX10_takeWord_68 hl (by decide) rfl (fun ls hl => ?_)
            refine lv_aload_n hx hb dX10_takeWord_70 rfl (lv_at hl 5 rfl) ?_
            refine lv_aload_n hx hb dX10_takeWord_71 rfl (lv_at hl 4 rfl) ?_
            refine lv_iload_n hx hb dX10_takeWord_72 rfl (lv_at hl 3 rfl) ?_
            have hPs : va_P D vwCl (txw y ad σ) H := x_suP hP [1, 6] rfl
            have hDs : va_D A (txw y ad σ) := x_suD hD [1, 6] rfl (by decide)
            refine x_calliS (b1 := fun (u : Unit) => (tkw y ad σ)) [1, 6] (va_runS (As := [.ref (ad 20), .int q]) (rest := [.ref (ad 40)]) ⟨hx, hb, hml, hown, hts⟩ (o_isGlued l D y H.size ad σ q (show 0 ≤ ((σ.1 22)).toInt from by first | omega | decide) (show ((σ.1 22)).toInt ≤ 700 from by first | omega | decide)) (cwS 2 hts g_o_takeWord_1 rfl rfl rfl (by decide +kernel) ⟨Nat.le_of_ble_eq_true rfl, Nat.le_of_ble_eq_true rfl⟩) (x_preS hK hPs hDs) rfl rfl hl.1 rfl (lv_room (Nat.le_of_ble_eq_true rfl)) dX10_takeWord_73 ⟨Nat.le_of_ble_eq_true rfl, Nat.le_of_ble_eq_true rfl⟩) hP hD hS hA rfl (fun _ => rfl) (fun _ => rfl) (fun _ => rfl) (fun r_31 u H locs hw hP hD hS => ?_)
            try dsimp only at hw
            have hP : va_P D vwCl (tkw y ad σ) H := hP
            have hD : va_D A (tkw y ad σ) := hD
            refine lv_if_eq (tgt := 85) hx hb dX10_takeWord_76 (by decide) (fun c_32 => ?_) (fun c_32 => ?_)
            · have kc_32 : r_31.toInt = 0 := by have h9 := c_32; simp only [ge_iff_le, gt_iff_lt, x_lt, x_le, x_eq, ne_eq, Int32.not_lt, Int32.not_le] at h9; simp only [Int32.reduceToInt] at h9; omega
              refine lv_iload hx hb dX10_takeWord_85 (lv_at hl 0 rfl) ?_
              refine lv_iload_n hx hb dX10_takeWord_87 rfl (lv_at hl 3 rfl) ?_
              refine lv_lload_n hx hb dX10_takeWord_88 rfl (lv_at hl 2 rfl) ?_
              refine x_callvW (va_runV (As := [.int r_30, .int q, .long z3]) (rest := []) ⟨hx, hb, hml, hown, hts⟩ (o_add l D y H.size ad σ r_30 q z3 (show 0 ≤ ((σ.1 45)).toInt from by first | omega | decide) (show ((σ.1 45)).toInt ≤ 700 from by first | omega | decide)) (cwV 3 hts g_o_takeWord_2 rfl rfl rfl (by decide +kernel) ⟨Nat.le_of_ble_eq_true rfl, Nat.le_of_ble_eq_true rfl⟩) (x_preV (q := (RX10, TX10, 6)) hK hP hD (ci := 9) (q0 := 0) rfl tkw_o0) rfl rfl hl.1 rfl (lv_room (Nat.le_of_ble_eq_true rfl)) dX10_takeWord_89 ⟨Nat.le_of_ble_eq_true rfl, Nat.le_of_ble_eq_true rfl⟩) hP hD hS hA (fun u H locs hw hP hD hS => ?_)
              obtain ⟨f_33, f_34, f_35, n_36⟩ := u
              try dsimp only at hw
              have hP : va_P D vwCl (tkw y ad (sI (tJ (tI (tI σ 42 f_33) 43 f_34) 44 f_35) 45 n_36)) H := hP
              have hD : va_D A (tkw y ad (sI (tJ (tI (tI σ 42 f_33) 43 f_34) 44 f_35) 45 n_36)) := hD
              replace hw : 0 ≤ n_36.toInt ∧ n_36.toInt ≤ 700 := hw
              refine lv_iload hx hb dX10_takeWord_92 (lv_at hl 1 rfl) ?_
              exact x_iretW (v := z5) (u := (f_33, f_34, f_35, n_36)) hx hb hr hQ (by (try dsimp only); exact ⟨by omega, by omega⟩) hP hD hK hS dX10_takeWord_94 hlocks
            · have kc_32 : r_31.toInt ≠ 0 := by have h9 := c_32; simp only [ge_iff_le, gt_iff_lt, x_lt, x_le, x_eq, ne_eq, Int32.not_lt, Int32.not_le] at h9; simp only [Int32.reduceToInt] at h9; omega
              refine lv_sipush (v := 257) hx hb dX10_takeWord_79 (by decide) ?_
              refine lv_goto (tgt := 87) hx hb dX10_takeWord_82 (by decide) ?_
              refine lv_iload_n hx hb dX10_takeWord_87 rfl (lv_at hl 3 rfl) ?_
              refine lv_lload_n hx hb dX10_takeWord_88 rfl (lv_at hl 2 rfl) ?_
              refine x_callvW (va_runV (As := [.int 257, .int q, .long z3]) (rest := []) ⟨hx, hb, hml, hown, hts⟩ (o_add l D y H.size ad σ 257 q z3 (show 0 ≤ ((σ.1 45)).toInt from by first | omega | decide) (show ((σ.1 45)).toInt ≤ 700 from by first | omega | decide)) (cwV 3 hts g_o_takeWord_2 rfl rfl rfl (by decide +kernel) ⟨Nat.le_of_ble_eq_true rfl, Nat.le_of_ble_eq_true rfl⟩) (x_preV (q := (RX10, TX10, 6)) hK hP hD (ci := 9) (q0 := 0) rfl tkw_o0) rfl rfl hl.1 rfl (lv_room (Nat.le_of_ble_eq_true rfl)) dX10_takeWord_89 ⟨Nat.le_of_ble_eq_true rfl, Nat.le_of_ble_eq_true rfl⟩) hP hD hS hA (fun u H locs hw hP hD hS => ?_)
              obtain ⟨f_37, f_38, f_39, n_40⟩ := u
              try dsimp only at hw
              have hP : va_P D vwCl (tkw y ad (sI (tJ (tI (tI σ 42 f_37) 43 f_38) 44 f_39) 45 n_40)) H := hP
              have hD : va_D A (tkw y ad (sI (tJ (tI (tI σ 42 f_37) 43 f_38) 44 f_39) 45 n_40)) := hD
              replace hw : 0 ≤ n_40.toInt ∧ n_40.toInt ≤ 700 := hw
              refine lv_iload hx hb dX10_takeWord_92 (lv_at hl 1 rfl) ?_
              exact x_iretW (v := z5) (u := (f_37, f_38, f_39, n_40)) hx hb hr hQ (by (try dsimp only); exact ⟨by omega, by omega⟩) hP hD hK hS dX10_takeWord_94 hlocks
          · have kc_29 : i_28.toInt > 6 := by have h9 := c_29; simp only [ge_iff_le, gt_iff_lt, x_lt, x_le, x_eq, ne_eq, Int32.not_lt, Int32.not_le] at h9; simp only [Int32.reduceToInt] at h9; omega
            refine lv_sipush (v := 259) hx hb dX10_takeWord_57 (by decide) ?_
            refine lv_goto (tgt := 68) hx hb dX10_takeWord_60 (by decide) ?_
            refine lv_istore (lv' := [(6, .int 259), (5, .int z5), (3, .long z3), (2, .int q), (1, .ref (ad 20)), (0, .ref (ad 40))]) hx hb dX10_takeWord_68 hl (by decide) rfl (fun ls hl => ?_)
            refine lv_aload_n hx hb dX10_takeWord_70 rfl (lv_at hl 5 rfl) ?_
            refine lv_aload_n hx hb dX10_takeWord_71 rfl (lv_at hl 4 rfl) ?_
            refine lv_iload_n hx hb dX10_takeWord_72 rfl (lv_at hl 3 rfl) ?_
            have hPs : va_P D vwCl (txw y ad σ) H := x_suP hP [1, 6] rfl
            have hDs : va_D A (txw y ad σ) := x_suD hD [1, 6] rfl (by decide)
            refine x_calliS (b1 := fun (u : Unit) => (tkw y ad σ)) [1, 6] (va_runS (As := [.ref (ad 20), .int q]) (rest := [.ref (ad 40)]) ⟨hx, hb, hml, hown, hts⟩ (o_isGlued l D y H.size ad σ q (show 0 ≤ ((σ.1 22)).toInt from by first | omega | decide) (show ((σ.1 22)).toInt ≤ 700 from by first | omega | decide)) (cwS 2 hts g_o_takeWord_1 rfl rfl rfl (by decide +kernel) ⟨Nat.le_of_ble_eq_true rfl, Nat.le_of_ble_eq_true rfl⟩) (x_preS hK hPs hDs) rfl rfl hl.1 rfl (lv_room (Nat.le_of_ble_eq_true rfl)) dX10_takeWord_73 ⟨Nat.le_of_ble_eq_true rfl, Nat.le_of_ble_eq_true rfl⟩) hP hD hS hA rfl (fun _ => rfl) (fun _ => rfl) (fun _ => rfl) (fun r_41 u H locs hw hP hD hS => ?_)
            try dsimp only at hw
            have hP : va_P D vwCl (tkw y ad σ) H := hP
            have hD : va_D A (tkw y ad σ) := hD
            refine lv_if_eq (tgt := 85) hx hb dX10_takeWord_76 (by decide) (fun c_42 => ?_) (fun c_42 => ?_)
            · have kc_42 : r_41.toInt = 0 := by have h9 := c_42; simp only [ge_iff_le, gt_iff_lt, x_lt, x_le, x_eq, ne_eq, Int32.not_lt, Int32.not_le] at h9; simp only [Int32.reduceToInt] at h9; omega
              refine lv_iload hx hb dX10_takeWord_85 (lv_at hl 0 rfl) ?_
              refine lv_iload_n hx hb dX10_takeWord_87 rfl (lv_at hl 3 rfl) ?_
              refine lv_lload_n hx hb dX10_takeWord_88 rfl (lv_at hl 2 rfl) ?_
              refine x_callvW (va_runV (As := [.int 259, .int q, .long z3]) (rest := []) ⟨hx, hb, hml, hown, hts⟩ (o_add l D y H.size ad σ 259 q z3 (show 0 ≤ ((σ.1 45)).toInt from by first | omega | decide) (show ((σ.1 45)).toInt ≤ 700 from by first | omega | decide)) (cwV 3 hts g_o_takeWord_2 rfl rfl rfl (by decide +kernel) ⟨Nat.le_of_ble_eq_true rfl, Nat.le_of_ble_eq_true rfl⟩) (x_preV (q := (RX10, TX10, 6)) hK hP hD (ci := 9) (q0 := 0) rfl tkw_o0) rfl rfl hl.1 rfl (lv_room (Nat.le_of_ble_eq_true rfl)) dX10_takeWord_89 ⟨Nat.le_of_ble_eq_true rfl, Nat.le_of_ble_eq_true rfl⟩) hP hD hS hA (fun u H locs hw hP hD hS => ?_)
              obtain ⟨f_43, f_44, f_45, n_46⟩ := u
              try dsimp only at hw
              have hP : va_P D vwCl (tkw y ad (sI (tJ (tI (tI σ 42 f_43) 43 f_44) 44 f_45) 45 n_46)) H := hP
              have hD : va_D A (tkw y ad (sI (tJ (tI (tI σ 42 f_43) 43 f_44) 44 f_45) 45 n_46)) := hD
              replace hw : 0 ≤ n_46.toInt ∧ n_46.toInt ≤ 700 := hw
              refine lv_iload hx hb dX10_takeWord_92 (lv_at hl 1 rfl) ?_
              exact x_iretW (v := z5) (u := (f_43, f_44, f_45, n_46)) hx hb hr hQ (by (try dsimp only); exact ⟨by omega, by omega⟩) hP hD hK hS dX10_takeWord_94 hlocks
            · have kc_42 : r_41.toInt ≠ 0 := by have h9 := c_42; simp only [ge_iff_le, gt_iff_lt, x_lt, x_le, x_eq, ne_eq, Int32.not_lt, Int32.not_le] at h9; simp only [Int32.reduceToInt] at h9; omega
              refine lv_sipush (v := 257) hx hb dX10_takeWord_79 (by decide) ?_
              refine lv_goto (tgt := 87) hx hb dX10_takeWord_82 (by decide) ?_
              refine lv_iload_n hx hb dX10_takeWord_87 rfl (lv_at hl 3 rfl) ?_
              refine lv_lload_n hx hb dX10_takeWord_88 rfl (lv_at hl 2 rfl) ?_
              refine x_callvW (va_runV (As := [.int 257, .int q, .long z3]) (rest := []) ⟨hx, hb, hml, hown, hts⟩ (o_add l D y H.size ad σ 257 q z3 (show 0 ≤ ((σ.1 45)).toInt from by first | omega | decide) (show ((σ.1 45)).toInt ≤ 700 from by first | omega | decide)) (cwV 3 hts g_o_takeWord_2 rfl rfl rfl (by decide +kernel) ⟨Nat.le_of_ble_eq_true rfl, Nat.le_of_ble_eq_true rfl⟩) (x_preV (q := (RX10, TX10, 6)) hK hP hD (ci := 9) (q0 := 0) rfl tkw_o0) rfl rfl hl.1 rfl (lv_room (Nat.le_of_ble_eq_true rfl)) dX10_takeWord_89 ⟨Nat.le_of_ble_eq_true rfl, Nat.le_of_ble_eq_true rfl⟩) hP hD hS hA (fun u H locs hw hP hD hS => ?_)
              obtain ⟨f_47, f_48, f_49, n_50⟩ := u
              try dsimp only at hw
              have hP : va_P D vwCl (tkw y ad (sI (tJ (tI (tI σ 42 f_47) 43 f_48) 44 f_49) 45 n_50)) H := hP
              have hD : va_D A (tkw y ad (sI (tJ (tI (tI σ 42 f_47) 43 f_48) 44 f_49) 45 n_50)) := hD
              replace hw : 0 ≤ n_50.toInt ∧ n_50.toInt ≤ 700 := hw
              refine lv_iload hx hb dX10_takeWord_92 (lv_at hl 1 rfl) ?_
              exact x_iretW (v := z5) (u := (f_47, f_48, f_49, n_50)) hx hb hr hQ (by (try dsimp only); exact ⟨by omega, by omega⟩) hP hD hK hS dX10_takeWord_94 hlocks
        · have kc_27 : r_26.toInt ≠ 0 := by have h9 := c_27; simp only [ge_iff_le, gt_iff_lt, x_lt, x_le, x_eq, ne_eq, Int32.not_lt, Int32.not_le] at h9; simp only [Int32.reduceToInt] at h9; omega
          refine lv_lload_n hx hb dX10_takeWord_28 rfl (lv_at hl 2 rfl) ?_
          refine lv_aload_n hx hb dX10_takeWord_29 rfl (lv_at hl 4 rfl) ?_
          refine lv_iload hx hb dX10_takeWord_30 (lv_at hl 1 rfl) ?_
          have hPs : va_P D vwCl (txw y ad σ) H := x_suP hP [1, 6] rfl
          have hDs : va_D A (txw y ad σ) := x_suD hD [1, 6] rfl (by decide)
          refine x_calliS (b1 := fun (u : Unit) => (tkw y ad σ)) [1, 6] (va_runV (As := [.int z5]) (rest := [.long z3]) ⟨hx, hb, hml, hown, hts⟩ (x_at l D y H.size ad σ z5 (show 0 ≤ ((σ.1 22)).toInt from by first | omega | decide) (show ((σ.1 22)).toInt ≤ 700 from by first | omega | decide)) (cwV 1 hts g_o_takeWord_3 rfl rfl rfl (by decide +kernel) ⟨Nat.le_of_ble_eq_true rfl, Nat.le_of_ble_eq_true rfl⟩) (x_preV (q := (RX9, TX9, 2)) hK hPs hDs (ci := 8) (q0 := 0) rfl txw_o0) rfl rfl hl.1 rfl (lv_room (Nat.le_of_ble_eq_true rfl)) dX10_takeWord_32 ⟨Nat.le_of_ble_eq_true rfl, Nat.le_of_ble_eq_true rfl⟩) hP hD hS hA rfl (fun _ => rfl) (fun _ => rfl) (fun _ => rfl) (fun r_51 u H locs hw hP hD hS => ?_)
          try dsimp only at hw
          have hP : va_P D vwCl (tkw y ad σ) H := hP
          have hD : va_D A (tkw y ad σ) := hD
          refine x_calllN (va_runS (As := [.long z3, .int r_51]) (rest := []) ⟨hx, hb, hml, hown, hts⟩ (o_joined l D y H.size z3 r_51) (cwS 2 hts g_o_takeWord_5 rfl rfl rfl (by decide +kernel) ⟨Nat.le_of_ble_eq_true rfl, Nat.le_of_ble_eq_true rfl⟩) (x_preS hK (x_nilP D H) (x_nilD A)) rfl rfl hl.1 rfl (lv_room (Nat.le_of_ble_eq_true rfl)) dX10_takeWord_35 ⟨Nat.le_of_ble_eq_true rfl, Nat.le_of_ble_eq_true rfl⟩) hP hD hS hA (fun r_52 u H locs hw hP hD hS => ?_)
          try dsimp only at hw
          refine lv_lstore_n (lv' := [(3, .long r_52), (6, .int i), (5, .int z5), (2, .int q), (1, .ref (ad 20)), (0, .ref (ad 40))]) hx hb dX10_takeWord_38 rfl hl (by decide) rfl (fun ls hl => ?_)
          obtain ⟨i_53, ei_53⟩ : ∃ z9 : Int32, z9 = z5 + 1 := ⟨_, rfl⟩
          refine lv_iinc (v := i_53) (lv' := [(5, .int i_53), (3, .long r_52), (6, .int i), (2, .int q), (1, .ref (ad 20)), (0, .ref (ad 40))]) hx hb dX10_takeWord_39 hl (k := 2) rfl (by rw [ei_53]; rfl) (by decide) rfl (fun ls hl => ?_)
          obtain ⟨i_54, ei_54⟩ : ∃ z9 : Int32, z9 = i + 1 := ⟨_, rfl⟩
          have vi_54 : i_54.toInt = i.toInt + 1 := by have h9 := x_add ei_54 (by omega) (by omega); omega
          refine lv_iinc (v := i_54) (lv' := [(6, .int i_54), (5, .int i_53), (3, .long r_52), (2, .int q), (1, .ref (ad 20)), (0, .ref (ad 40))]) hx hb dX10_takeWord_42 hl (k := 2) rfl (by rw [ei_54]; rfl) (by decide) rfl (fun ls hl => ?_)
          refine lv_goto (tgt := 8) hx hb dX10_takeWord_45 (by decide) ?_
          exact ih_loop i_54 i_53 r_52 H locs ls (by omega) (by omega) (by omega) hP hD hS (lv_sub hl [0, 1, 2, 3, 4, 5] rfl)
  exact loop 701 0 q 0 H locs ls (by decide) (by decide) (by omega) hP hD hS (lv_sub hl [0, 1, 2, 5, 4, 3] rfl)

def v_o_takeNumber : List Cond := .code yX10_takeNumber cX10_takeNumber 6 (some .int) :: ([] ++ ((wsS RX10 82 yX10_isGlued v_o_isGlued) ++ ((wsV RX10 74 RX10 yX10_add v_o_add) ++ ((wsV RX10 54 RX9 yX9_at v_x_at) ++ (wsS RX10 65 yX10_isDigit v_o_isDigit)))))
theorem g_o_takeNumber_0 : GoodIn v_o_takeNumber (wsS RX10 82 yX10_isGlued v_o_isGlued) := goodIn_sub (fun w h => List.mem_cons_of_mem _ (List.mem_append_right _ (List.mem_append_left _ h))) (by decide +kernel)
theorem g_o_takeNumber_1 : GoodIn v_o_takeNumber (wsV RX10 74 RX10 yX10_add v_o_add) := goodIn_sub (fun w h => List.mem_cons_of_mem _ (List.mem_append_right _ (List.mem_append_right _ (List.mem_append_left _ h)))) (by decide +kernel)
theorem g_o_takeNumber_2 : GoodIn v_o_takeNumber (wsV RX10 54 RX9 yX9_at v_x_at) := goodIn_sub (fun w h => List.mem_cons_of_mem _ (List.mem_append_right _ (List.mem_append_right _ (List.mem_append_right _ (List.mem_append_left _ h))))) (by decide +kernel)
theorem g_o_takeNumber_3 : GoodIn v_o_takeNumber (wsS RX10 65 yX10_isDigit v_o_isDigit) := goodIn_sub (fun w h => List.mem_cons_of_mem _ (List.mem_append_right _ (List.mem_append_right _ (List.mem_append_right _ (List.mem_append_right _ h))))) (by decide +kernel)
set_option maxHeartbeats 4000000 in
set_option maxRecDepth 100000 in
theorem o_takeNumber (l : Launch) (D : va_G) (y : Nat → ClassId) (sz : Nat) (ad : Nat → Nat) (σ : OS) (q : Int32) (hct0 : 0 ≤ (σ.1 45).toInt) (hct1 : (σ.1 45).toInt ≤ 700) (htl0 : 0 ≤ (σ.1 22).toInt) (htl1 : (σ.1 22).toInt ≤ 700) : Met l yX10_takeNumber v_o_takeNumber ({ frames := 2, cells := 0, slots := 0, locals := 43 } : Room) (va_Pc [.ref (ad 40), .ref (ad 20), .int q] (xPre D (xT y) (tkw y ad σ) sz)) (va_Qi (fun (r : Int32) (u : (Nat → Int32) × (Nat → Int32) × (Nat → Int64) × Int32) => 0 ≤ u.2.2.2.toInt ∧ u.2.2.2.toInt ≤ 700) (fun (u : (Nat → Int32) × (Nat → Int32) × (Nat → Int64) × Int32) => xB D (xT y) (va_A (tkw y ad σ) sz) (tkw y ad (sI (tJ (tI (tI σ 42 u.1) 43 u.2.1) 44 u.2.2.1) 45 u.2.2.2))) (va_A (tkw y ad σ) sz)) 0 0 (va_A (tkw y ad σ) sz) := by
  refine x_meti (cc := cX10_takeNumber) (maxL := 6) (by decide) rfl (Nat.le_of_ble_eq_true rfl) ?_
  intro p e s m below meth c A H locs Q hx hb hml hown hts hr hlocks hmn hA hP hK hD hS ls hl hQ
  have hl : lv_has ls 6 [(0, .ref (ad 40)), (1, .ref (ad 20)), (2, .int q)] := hl
  have kk_700 : (700 : Int32).toInt = 700 := rfl
  have kk_4 : (4 : Int32).toInt = 4 := rfl
  have kk_0 : (0 : Int32).toInt = 0 := rfl
  have kk_260 : (260 : Int32).toInt = 260 := rfl
  have kk_257 : (257 : Int32).toInt = 257 := rfl
  have kk_261 : (261 : Int32).toInt = 261 := rfl
  have kk_1 : (1 : Int32).toInt = 1 := rfl
  refine lv_iconst (v := 0) hx hb dX10_takeNumber_0 (by decide) ?_
  refine lv_istore_n (lv' := [(3, .int 0), (0, .ref (ad 40)), (1, .ref (ad 20)), (2, .int q)]) hx hb dX10_takeNumber_1 rfl hl (by decide) rfl (fun ls hl => ?_)
  refine lv_iload_n hx hb dX10_takeNumber_2 rfl (lv_at hl 3 rfl) ?_
  refine lv_istore (lv' := [(4, .int q), (3, .int 0), (0, .ref (ad 40)), (1, .ref (ad 20)), (2, .int q)]) hx hb dX10_takeNumber_3 hl (by decide) rfl (fun ls hl => ?_)
  refine lv_iconst (v := 0) hx hb dX10_takeNumber_5 (by decide) ?_
  refine lv_istore (lv' := [(5, .int 0), (4, .int q), (3, .int 0), (0, .ref (ad 40)), (1, .ref (ad 20)), (2, .int q)]) hx hb dX10_takeNumber_6 hl (by decide) rfl (fun ls hl => ?_)
  have l00 : (0 : Int32).toInt = 0 := rfl
  have loop : ∀ (fu : Nat) (i : Int32) (z4 : Int32) (z3 : Int32) (H : Heap) (locs : List Loc) (ls : Array Slot), (0 ≤ i.toInt) → (i.toInt ≤ 700) → (700 - i.toInt < (fu : Int)) → va_P D vwCl (tkw y ad σ) H → va_D A (tkw y ad σ) → va_S A s.heap H locs → lv_has ls 6 [(5, .int i), (4, .int z4), (3, .int z3), (2, .int q), (1, .ref (ad 20)), (0, .ref (ad 40))] → W p l e ({ frames := 2, cells := 0, slots := 0, locals := 43 } : Room) s m ([.ref (ad 40), .ref (ad 20), .int q] : List Value).toArray below meth c H locs 0 0 Q (F0 m 8 ls []) := by
    intro fu
    induction fu with
    | zero =>
      intro i z4 z3 H locs ls hi0 hi1 hm
      exact absurd hm (by omega)
    | succ fu ih_loop =>
      intro i z4 z3 H locs ls hi0 hi1 hm hP hD hS hl
      refine lv_iload hx hb dX10_takeNumber_8 (lv_at hl 0 rfl) ?_
      refine lv_sipush (v := 700) hx hb dX10_takeNumber_10 (by decide) ?_
      refine lv_icmp_ge (tgt := 52) hx hb dX10_takeNumber_13 (by decide) (fun c_1 => ?_) (fun c_1 => ?_)
      · have kc_1 : i.toInt ≥ 700 := by have h9 := c_1; simp only [ge_iff_le, gt_iff_lt, x_lt, x_le, x_eq, ne_eq, Int32.not_lt, Int32.not_le] at h9; simp only [Int32.reduceToInt] at h9; omega
        refine lv_iload hx hb dX10_takeNumber_52 (lv_at hl 1 rfl) ?_
        refine lv_iload_n hx hb dX10_takeNumber_54 rfl (lv_at hl 3 rfl) ?_
        refine lv_isub hx hb dX10_takeNumber_55 ?_
        refine lv_topi (fun i_2 ei_2 => ?_)
        refine lv_iconst (v := 4) hx hb dX10_takeNumber_56 (by decide) ?_
        refine lv_icmp_le (tgt := 66) hx hb dX10_takeNumber_57 (by decide) (fun c_3 => ?_) (fun c_3 => ?_)
        · have kc_3 : i_2.toInt ≤ 4 := by have h9 := c_3; simp only [ge_iff_le, gt_iff_lt, x_lt, x_le, x_eq, ne_eq, Int32.not_lt, Int32.not_le] at h9; simp only [Int32.reduceToInt] at h9; omega
          refine lv_sipush (v := 260) hx hb dX10_takeNumber_66 (by decide) ?_
          refine lv_istore (lv' := [(5, .int 260), (4, .int z4), (3, .int z3), (2, .int q), (1, .ref (ad 20)), (0, .ref (ad 40))]) hx hb dX10_takeNumber_69 hl (by decide) rfl (fun ls hl => ?_)
          refine lv_aload_n hx hb dX10_takeNumber_71 rfl (lv_at hl 5 rfl) ?_
          refine lv_aload_n hx hb dX10_takeNumber_72 rfl (lv_at hl 4 rfl) ?_
          refine lv_iload_n hx hb dX10_takeNumber_73 rfl (lv_at hl 3 rfl) ?_
          have hPs : va_P D vwCl (txw y ad σ) H := x_suP hP [1, 6] rfl
          have hDs : va_D A (txw y ad σ) := x_suD hD [1, 6] rfl (by decide)
          refine x_calliS (b1 := fun (u : Unit) => (tkw y ad σ)) [1, 6] (va_runS (As := [.ref (ad 20), .int q]) (rest := [.ref (ad 40)]) ⟨hx, hb, hml, hown, hts⟩ (o_isGlued l D y H.size ad σ q (show 0 ≤ ((σ.1 22)).toInt from by first | omega | decide) (show ((σ.1 22)).toInt ≤ 700 from by first | omega | decide)) (cwS 2 hts g_o_takeNumber_0 rfl rfl rfl (by decide +kernel) ⟨Nat.le_of_ble_eq_true rfl, Nat.le_of_ble_eq_true rfl⟩) (x_preS hK hPs hDs) rfl rfl hl.1 rfl (lv_room (Nat.le_of_ble_eq_true rfl)) dX10_takeNumber_74 ⟨Nat.le_of_ble_eq_true rfl, Nat.le_of_ble_eq_true rfl⟩) hP hD hS hA rfl (fun _ => rfl) (fun _ => rfl) (fun _ => rfl) (fun r_4 u H locs hw hP hD hS => ?_)
          try dsimp only at hw
          have hP : va_P D vwCl (tkw y ad σ) H := hP
          have hD : va_D A (tkw y ad σ) := hD
          refine lv_if_eq (tgt := 86) hx hb dX10_takeNumber_77 (by decide) (fun c_5 => ?_) (fun c_5 => ?_)
          · have kc_5 : r_4.toInt = 0 := by have h9 := c_5; simp only [ge_iff_le, gt_iff_lt, x_lt, x_le, x_eq, ne_eq, Int32.not_lt, Int32.not_le] at h9; simp only [Int32.reduceToInt] at h9; omega
            refine lv_iload hx hb dX10_takeNumber_86 (lv_at hl 0 rfl) ?_
            refine lv_iload_n hx hb dX10_takeNumber_88 rfl (lv_at hl 3 rfl) ?_
            refine lv_iload_n hx hb dX10_takeNumber_89 rfl (lv_at hl 2 rfl) ?_
            refine lv_i2l hx hb dX10_takeNumber_90 rfl ?_
            refine lv_topl (fun j_6 ej_6 => ?_)
            have vj_6 : j_6.toInt = z3.toInt := by rw [ej_6]; exact Int32.toInt_toInt64 _
            refine x_callvW (va_runV (As := [.int 260, .int q, .long j_6]) (rest := []) ⟨hx, hb, hml, hown, hts⟩ (o_add l D y H.size ad σ 260 q j_6 (show 0 ≤ ((σ.1 45)).toInt from by first | omega | decide) (show ((σ.1 45)).toInt ≤ 700 from by first | omega | decide)) (cwV 3 hts g_o_takeNumber_1 rfl rfl rfl (by decide +kernel) ⟨Nat.le_of_ble_eq_true rfl, Nat.le_of_ble_eq_true rfl⟩) (x_preV (q := (RX10, TX10, 6)) hK hP hD (ci := 9) (q0 := 0) rfl tkw_o0) rfl rfl hl.1 rfl (lv_room (Nat.le_of_ble_eq_true rfl)) dX10_takeNumber_91 ⟨Nat.le_of_ble_eq_true rfl, Nat.le_of_ble_eq_true rfl⟩) hP hD hS hA (fun u H locs hw hP hD hS => ?_)
            obtain ⟨f_7, f_8, f_9, n_10⟩ := u
            try dsimp only at hw
            have hP : va_P D vwCl (tkw y ad (sI (tJ (tI (tI σ 42 f_7) 43 f_8) 44 f_9) 45 n_10)) H := hP
            have hD : va_D A (tkw y ad (sI (tJ (tI (tI σ 42 f_7) 43 f_8) 44 f_9) 45 n_10)) := hD
            replace hw : 0 ≤ n_10.toInt ∧ n_10.toInt ≤ 700 := hw
            refine lv_iload hx hb dX10_takeNumber_94 (lv_at hl 1 rfl) ?_
            exact x_iretW (v := z4) (u := (f_7, f_8, f_9, n_10)) hx hb hr hQ (by (try dsimp only); exact ⟨by omega, by omega⟩) hP hD hK hS dX10_takeNumber_96 hlocks
          · have kc_5 : r_4.toInt ≠ 0 := by have h9 := c_5; simp only [ge_iff_le, gt_iff_lt, x_lt, x_le, x_eq, ne_eq, Int32.not_lt, Int32.not_le] at h9; simp only [Int32.reduceToInt] at h9; omega
            refine lv_sipush (v := 257) hx hb dX10_takeNumber_80 (by decide) ?_
            refine lv_goto (tgt := 88) hx hb dX10_takeNumber_83 (by decide) ?_
            refine lv_iload_n hx hb dX10_takeNumber_88 rfl (lv_at hl 3 rfl) ?_
            refine lv_iload_n hx hb dX10_takeNumber_89 rfl (lv_at hl 2 rfl) ?_
            refine lv_i2l hx hb dX10_takeNumber_90 rfl ?_
            refine lv_topl (fun j_11 ej_11 => ?_)
            have vj_11 : j_11.toInt = z3.toInt := by rw [ej_11]; exact Int32.toInt_toInt64 _
            refine x_callvW (va_runV (As := [.int 257, .int q, .long j_11]) (rest := []) ⟨hx, hb, hml, hown, hts⟩ (o_add l D y H.size ad σ 257 q j_11 (show 0 ≤ ((σ.1 45)).toInt from by first | omega | decide) (show ((σ.1 45)).toInt ≤ 700 from by first | omega | decide)) (cwV 3 hts g_o_takeNumber_1 rfl rfl rfl (by decide +kernel) ⟨Nat.le_of_ble_eq_true rfl, Nat.le_of_ble_eq_true rfl⟩) (x_preV (q := (RX10, TX10, 6)) hK hP hD (ci := 9) (q0 := 0) rfl tkw_o0) rfl rfl hl.1 rfl (lv_room (Nat.le_of_ble_eq_true rfl)) dX10_takeNumber_91 ⟨Nat.le_of_ble_eq_true rfl, Nat.le_of_ble_eq_true rfl⟩) hP hD hS hA (fun u H locs hw hP hD hS => ?_)
            obtain ⟨f_12, f_13, f_14, n_15⟩ := u
            try dsimp only at hw
            have hP : va_P D vwCl (tkw y ad (sI (tJ (tI (tI σ 42 f_12) 43 f_13) 44 f_14) 45 n_15)) H := hP
            have hD : va_D A (tkw y ad (sI (tJ (tI (tI σ 42 f_12) 43 f_13) 44 f_14) 45 n_15)) := hD
            replace hw : 0 ≤ n_15.toInt ∧ n_15.toInt ≤ 700 := hw
            refine lv_iload hx hb dX10_takeNumber_94 (lv_at hl 1 rfl) ?_
            exact x_iretW (v := z4) (u := (f_12, f_13, f_14, n_15)) hx hb hr hQ (by (try dsimp only); exact ⟨by omega, by omega⟩) hP hD hK hS dX10_takeNumber_96 hlocks
        · have kc_3 : i_2.toInt > 4 := by have h9 := c_3; simp only [ge_iff_le, gt_iff_lt, x_lt, x_le, x_eq, ne_eq, Int32.not_lt, Int32.not_le] at h9; simp only [Int32.reduceToInt] at h9; omega
          refine lv_sipush (v := 261) hx hb dX10_takeNumber_60 (by decide) ?_
          refine lv_goto (tgt := 69) hx hb dX10_takeNumber_63 (by decide) ?_
          refine lv_istore (lv' := [(5, .int 261), (4, .int z4), (3, .int z3), (2, .int q), (1, .ref (ad 20)), (0, .ref (ad 40))]) hx hb dX10_takeNumber_69 hl (by decide) rfl (fun ls hl => ?_)
          refine lv_aload_n hx hb dX10_takeNumber_71 rfl (lv_at hl 5 rfl) ?_
          refine lv_aload_n hx hb dX10_takeNumber_72 rfl (lv_at hl 4 rfl) ?_
          refine lv_iload_n hx hb dX10_takeNumber_73 rfl (lv_at hl 3 rfl) ?_
          have hPs : va_P D vwCl (txw y ad σ) H := x_suP hP [1, 6] rfl
          have hDs : va_D A (txw y ad σ) := x_suD hD [1, 6] rfl (by decide)
          refine x_calliS (b1 := fun (u : Unit) => (tkw y ad σ)) [1, 6] (va_runS (As := [.ref (ad 20), .int q]) (rest := [.ref (ad 40)]) ⟨hx, hb, hml, hown, hts⟩ (o_isGlued l D y H.size ad σ q (show 0 ≤ ((σ.1 22)).toInt from by first | omega | decide) (show ((σ.1 22)).toInt ≤ 700 from by first | omega | decide)) (cwS 2 hts g_o_takeNumber_0 rfl rfl rfl (by decide +kernel) ⟨Nat.le_of_ble_eq_true rfl, Nat.le_of_ble_eq_true rfl⟩) (x_preS hK hPs hDs) rfl rfl hl.1 rfl (lv_room (Nat.le_of_ble_eq_true rfl)) dX10_takeNumber_74 ⟨Nat.le_of_ble_eq_true rfl, Nat.le_of_ble_eq_true rfl⟩) hP hD hS hA rfl (fun _ => rfl) (fun _ => rfl) (fun _ => rfl) (fun r_16 u H locs hw hP hD hS => ?_)
          try dsimp only at hw
          have hP : va_P D vwCl (tkw y ad σ) H := hP
          have hD : va_D A (tkw y ad σ) := hD
          refine lv_if_eq (tgt := 86) hx hb dX10_takeNumber_77 (by decide) (fun c_17 => ?_) (fun c_17 => ?_)
          · have kc_17 : r_16.toInt = 0 := by have h9 := c_17; simp only [ge_iff_le, gt_iff_lt, x_lt, x_le, x_eq, ne_eq, Int32.not_lt, Int32.not_le] at h9; simp only [Int32.reduceToInt] at h9; omega
            refine lv_iload hx hb dX10_takeNumber_86 (lv_at hl 0 rfl) ?_
            refine lv_iload_n hx hb dX10_takeNumber_88 rfl (lv_at hl 3 rfl) ?_
            refine lv_iload_n hx hb dX10_takeNumber_89 rfl (lv_at hl 2 rfl) ?_
            refine lv_i2l hx hb dX10_takeNumber_90 rfl ?_
            refine lv_topl (fun j_18 ej_18 => ?_)
            have vj_18 : j_18.toInt = z3.toInt := by rw [ej_18]; exact Int32.toInt_toInt64 _
            refine x_callvW (va_runV (As := [.int 261, .int q, .long j_18]) (rest := []) ⟨hx, hb, hml, hown, hts⟩ (o_add l D y H.size ad σ 261 q j_18 (show 0 ≤ ((σ.1 45)).toInt from by first | omega | decide) (show ((σ.1 45)).toInt ≤ 700 from by first | omega | decide)) (cwV 3 hts g_o_takeNumber_1 rfl rfl rfl (by decide +kernel) ⟨Nat.le_of_ble_eq_true rfl, Nat.le_of_ble_eq_true rfl⟩) (x_preV (q := (RX10, TX10, 6)) hK hP hD (ci := 9) (q0 := 0) rfl tkw_o0) rfl rfl hl.1 rfl (lv_room (Nat.le_of_ble_eq_true rfl)) dX10_takeNumber_91 ⟨Nat.le_of_ble_eq_true rfl, Nat.le_of_ble_eq_true rfl⟩) hP hD hS hA (fun u H locs hw hP hD hS => ?_)
            obtain ⟨f_19, f_20, f_21, n_22⟩ := u
            try dsimp only at hw
            have hP : va_P D vwCl (tkw y ad (sI (tJ (tI (tI σ 42 f_19) 43 f_20) 44 f_21) 45 n_22)) H := hP
            have hD : va_D A (tkw y ad (sI (tJ (tI (tI σ 42 f_19) 43 f_20) 44 f_21) 45 n_22)) := hD
            replace hw : 0 ≤ n_22.toInt ∧ n_22.toInt ≤ 700 := hw
            refine lv_iload hx hb dX10_takeNumber_94 (lv_at hl 1 rfl) ?_
            exact x_iretW (v := z4) (u := (f_19, f_20, f_21, n_22)) hx hb hr hQ (by (try dsimp only); exact ⟨by omega, by omega⟩) hP hD hK hS dX10_takeNumber_96 hlocks
          · have kc_17 : r_16.toInt ≠ 0 := by have h9 := c_17; simp only [ge_iff_le, gt_iff_lt, x_lt, x_le, x_eq, ne_eq, Int32.not_lt, Int32.not_le] at h9; simp only [Int32.reduceToInt] at h9; omega
            refine lv_sipush (v := 257) hx hb dX10_takeNumber_80 (by decide) ?_
            refine lv_goto (tgt := 88) hx hb dX10_takeNumber_83 (by decide) ?_
            refine lv_iload_n hx hb dX10_takeNumber_88 rfl (lv_at hl 3 rfl) ?_
            refine lv_iload_n hx hb dX10_takeNumber_89 rfl (lv_at hl 2 rfl) ?_
            refine lv_i2l hx hb dX10_takeNumber_90 rfl ?_
            refine lv_topl (fun j_23 ej_23 => ?_)
            have vj_23 : j_23.toInt = z3.toInt := by rw [ej_23]; exact Int32.toInt_toInt64 _
            refine x_callvW (va_runV (As := [.int 257, .int q, .long j_23]) (rest := []) ⟨hx, hb, hml, hown, hts⟩ (o_add l D y H.size ad σ 257 q j_23 (show 0 ≤ ((σ.1 45)).toInt from by first | omega | decide) (show ((σ.1 45)).toInt ≤ 700 from by first | omega | decide)) (cwV 3 hts g_o_takeNumber_1 rfl rfl rfl (by decide +kernel) ⟨Nat.le_of_ble_eq_true rfl, Nat.le_of_ble_eq_true rfl⟩) (x_preV (q := (RX10, TX10, 6)) hK hP hD (ci := 9) (q0 := 0) rfl tkw_o0) rfl rfl hl.1 rfl (lv_room (Nat.le_of_ble_eq_true rfl)) dX10_takeNumber_91 ⟨Nat.le_of_ble_eq_true rfl, Nat.le_of_ble_eq_true rfl⟩) hP hD hS hA (fun u H locs hw hP hD hS => ?_)
            obtain ⟨f_24, f_25, f_26, n_27⟩ := u
            try dsimp only at hw
            have hP : va_P D vwCl (tkw y ad (sI (tJ (tI (tI σ 42 f_24) 43 f_25) 44 f_26) 45 n_27)) H := hP
            have hD : va_D A (tkw y ad (sI (tJ (tI (tI σ 42 f_24) 43 f_25) 44 f_26) 45 n_27)) := hD
            replace hw : 0 ≤ n_27.toInt ∧ n_27.toInt ≤ 700 := hw
            refine lv_iload hx hb dX10_takeNumber_94 (lv_at hl 1 rfl) ?_
            exact x_iretW (v := z4) (u := (f_24, f_25, f_26, n_27)) hx hb hr hQ (by (try dsimp only); exact ⟨by omega, by omega⟩) hP hD hK hS dX10_takeNumber_96 hlocks
      · have kc_1 : i.toInt < 700 := by have h9 := c_1; simp only [ge_iff_le, gt_iff_lt, x_lt, x_le, x_eq, ne_eq, Int32.not_lt, Int32.not_le] at h9; simp only [Int32.reduceToInt] at h9; omega
        refine lv_aload_n hx hb dX10_takeNumber_16 rfl (lv_at hl 4 rfl) ?_
        refine lv_iload hx hb dX10_takeNumber_17 (lv_at hl 1 rfl) ?_
        have hPs : va_P D vwCl (txw y ad σ) H := x_suP hP [1, 6] rfl
        have hDs : va_D A (txw y ad σ) := x_suD hD [1, 6] rfl (by decide)
        refine x_calliS (b1 := fun (u : Unit) => (tkw y ad σ)) [1, 6] (va_runV (As := [.int z4]) (rest := []) ⟨hx, hb, hml, hown, hts⟩ (x_at l D y H.size ad σ z4 (show 0 ≤ ((σ.1 22)).toInt from by first | omega | decide) (show ((σ.1 22)).toInt ≤ 700 from by first | omega | decide)) (cwV 1 hts g_o_takeNumber_2 rfl rfl rfl (by decide +kernel) ⟨Nat.le_of_ble_eq_true rfl, Nat.le_of_ble_eq_true rfl⟩) (x_preV (q := (RX9, TX9, 2)) hK hPs hDs (ci := 8) (q0 := 0) rfl txw_o0) rfl rfl hl.1 rfl (lv_room (Nat.le_of_ble_eq_true rfl)) dX10_takeNumber_19 ⟨Nat.le_of_ble_eq_true rfl, Nat.le_of_ble_eq_true rfl⟩) hP hD hS hA rfl (fun _ => rfl) (fun _ => rfl) (fun _ => rfl) (fun r_28 u H locs hw hP hD hS => ?_)
        try dsimp only at hw
        have hP : va_P D vwCl (tkw y ad σ) H := hP
        have hD : va_D A (tkw y ad σ) := hD
        refine x_calliN (va_runS (As := [.int r_28]) (rest := []) ⟨hx, hb, hml, hown, hts⟩ (o_isDigit l D y H.size r_28) (cwS 1 hts g_o_takeNumber_3 rfl rfl rfl (by decide +kernel) ⟨Nat.le_of_ble_eq_true rfl, Nat.le_of_ble_eq_true rfl⟩) (x_preS hK (x_nilP D H) (x_nilD A)) rfl rfl hl.1 rfl (lv_room (Nat.le_of_ble_eq_true rfl)) dX10_takeNumber_22 ⟨Nat.le_of_ble_eq_true rfl, Nat.le_of_ble_eq_true rfl⟩) hP hD hS hA (fun r_29 u H locs hw hP hD hS => ?_)
        try dsimp only at hw
        refine lv_if_eq (tgt := 52) hx hb dX10_takeNumber_25 (by decide) (fun c_30 => ?_) (fun c_30 => ?_)
        · have kc_30 : r_29.toInt = 0 := by have h9 := c_30; simp only [ge_iff_le, gt_iff_lt, x_lt, x_le, x_eq, ne_eq, Int32.not_lt, Int32.not_le] at h9; simp only [Int32.reduceToInt] at h9; omega
          refine lv_iload hx hb dX10_takeNumber_52 (lv_at hl 1 rfl) ?_
          refine lv_iload_n hx hb dX10_takeNumber_54 rfl (lv_at hl 3 rfl) ?_
          refine lv_isub hx hb dX10_takeNumber_55 ?_
          refine lv_topi (fun i_31 ei_31 => ?_)
          refine lv_iconst (v := 4) hx hb dX10_takeNumber_56 (by decide) ?_
          refine lv_icmp_le (tgt := 66) hx hb dX10_takeNumber_57 (by decide) (fun c_32 => ?_) (fun c_32 => ?_)
          · have kc_32 : i_31.toInt ≤ 4 := by have h9 := c_32; simp only [ge_iff_le, gt_iff_lt, x_lt, x_le, x_eq, ne_eq, Int32.not_lt, Int32.not_le] at h9; simp only [Int32.reduceToInt] at h9; omega
            refine lv_sipush (v := 260) hx hb dX10_takeNumber_66 (by decide) ?_
            refine lv_istore (lv' := [(5, .int 260), (4, .int z4), (3, .int z3), (2, .int q), (1, .ref (ad 20)), (0, .ref (ad 40))]) hx hb dX10_takeNumber_69 hl (by decide) rfl (fun ls hl => ?_)
            refine lv_aload_n hx hb dX10_takeNumber_71 rfl (lv_at hl 5 rfl) ?_
            refine lv_aload_n hx hb dX10_takeNumber_72 rfl (lv_at hl 4 rfl) ?_
            refine lv_iload_n hx hb dX10_takeNumber_73 rfl (lv_at hl 3 rfl) ?_
            have hPs : va_P D vwCl (txw y ad σ) H := x_suP hP [1, 6] rfl
            have hDs : va_D A (txw y ad σ) := x_suD hD [1, 6] rfl (by decide)
            refine x_calliS (b1 := fun (u : Unit) => (tkw y ad σ)) [1, 6] (va_runS (As := [.ref (ad 20), .int q]) (rest := [.ref (ad 40)]) ⟨hx, hb, hml, hown, hts⟩ (o_isGlued l D y H.size ad σ q (show 0 ≤ ((σ.1 22)).toInt from by first | omega | decide) (show ((σ.1 22)).toInt ≤ 700 from by first | omega | decide)) (cwS 2 hts g_o_takeNumber_0 rfl rfl rfl (by decide +kernel) ⟨Nat.le_of_ble_eq_true rfl, Nat.le_of_ble_eq_true rfl⟩) (x_preS hK hPs hDs) rfl rfl hl.1 rfl (lv_room (Nat.le_of_ble_eq_true rfl)) dX10_takeNumber_74 ⟨Nat.le_of_ble_eq_true rfl, Nat.le_of_ble_eq_true rfl⟩) hP hD hS hA rfl (fun _ => rfl) (fun _ => rfl) (fun _ => rfl) (fun r_33 u H locs hw hP hD hS => ?_)
            try dsimp only at hw
            have hP : va_P D vwCl (tkw y ad σ) H := hP
            have hD : va_D A (tkw y ad σ) := hD
            refine lv_if_eq (tgt := 86) hx hb dX10_takeNumber_77 (by decide) (fun c_34 => ?_) (fun c_34 => ?_)
            · have kc_34 : r_33.toInt = 0 := by have h9 := c_34; simp only [ge_iff_le, gt_iff_lt, x_lt, x_le, x_eq, ne_eq, Int32.not_lt, Int32.not_le] at h9; simp only [Int32.reduceToInt] at h9; omega
              refine lv_iload hx hb dX10_takeNumber_86 (lv_at hl 0 rfl) ?_
              refine lv_iload_n hx hb dX10_takeNumber_88 rfl (lv_at hl 3 rfl) ?_
              refine lv_iload_n hx hb dX10_takeNumber_89 rfl (lv_at hl 2 rfl) ?_
              refine lv_i2l hx hb dX10_takeNumber_90 rfl ?_
              refine lv_topl (fun j_35 ej_35 => ?_)
              have vj_35 : j_35.toInt = z3.toInt := by rw [ej_35]; exact Int32.toInt_toInt64 _
              refine x_callvW (va_runV (As := [.int 260, .int q, .long j_35]) (rest := []) ⟨hx, hb, hml, hown, hts⟩ (o_add l D y H.size ad σ 260 q j_35 (show 0 ≤ ((σ.1 45)).toInt from by first | omega | decide) (show ((σ.1 45)).toInt ≤ 700 from by first | omega | decide)) (cwV 3 hts g_o_takeNumber_1 rfl rfl rfl (by decide +kernel) ⟨Nat.le_of_ble_eq_true rfl, Nat.le_of_ble_eq_true rfl⟩) (x_preV (q := (RX10, TX10, 6)) hK hP hD (ci := 9) (q0 := 0) rfl tkw_o0) rfl rfl hl.1 rfl (lv_room (Nat.le_of_ble_eq_true rfl)) dX10_takeNumber_91 ⟨Nat.le_of_ble_eq_true rfl, Nat.le_of_ble_eq_true rfl⟩) hP hD hS hA (fun u H locs hw hP hD hS => ?_)
              obtain ⟨f_36, f_37, f_38, n_39⟩ := u
              try dsimp only at hw
              have hP : va_P D vwCl (tkw y ad (sI (tJ (tI (tI σ 42 f_36) 43 f_37) 44 f_38) 45 n_39)) H := hP
              have hD : va_D A (tkw y ad (sI (tJ (tI (tI σ 42 f_36) 43 f_37) 44 f_38) 45 n_39)) := hD
              replace hw : 0 ≤ n_39.toInt ∧ n_39.toInt ≤ 700 := hw
              refine lv_iload hx hb dX10_takeNumber_94 (lv_at hl 1 rfl) ?_
              exact x_iretW (v := z4) (u := (f_36, f_37, f_38, n_39)) hx hb hr hQ (by (try dsimp only); exact ⟨by omega, by omega⟩) hP hD hK hS dX10_takeNumber_96 hlocks
            · have kc_34 : r_33.toInt ≠ 0 := by have h9 := c_34; simp only [ge_iff_le, gt_iff_lt, x_lt, x_le, x_eq, ne_eq, Int32.not_lt, Int32.not_le] at h9; simp only [Int32.reduceToInt] at h9; omega
              refine lv_sipush (v := 257) hx hb dX10_takeNumber_80 (by decide) ?_
              refine lv_goto (tgt := 88) hx hb dX10_takeNumber_83 (by decide) ?_
              refine lv_iload_n hx hb dX10_takeNumber_88 rfl (lv_at hl 3 rfl) ?_
              refine lv_iload_n hx hb dX10_takeNumber_89 rfl (lv_at hl 2 rfl) ?_
              refine lv_i2l hx hb dX10_takeNumber_90 rfl ?_
              refine lv_topl (fun j_40 ej_40 => ?_)
              have vj_40 : j_40.toInt = z3.toInt := by rw [ej_40]; exact Int32.toInt_toInt64 _
              refine x_callvW (va_runV (As := [.int 257, .int q, .long j_40]) (rest := []) ⟨hx, hb, hml, hown, hts⟩ (o_add l D y H.size ad σ 257 q j_40 (show 0 ≤ ((σ.1 45)).toInt from by first | omega | decide) (show ((σ.1 45)).toInt ≤ 700 from by first | omega | decide)) (cwV 3 hts g_o_takeNumber_1 rfl rfl rfl (by decide +kernel) ⟨Nat.le_of_ble_eq_true rfl, Nat.le_of_ble_eq_true rfl⟩) (x_preV (q := (RX10, TX10, 6)) hK hP hD (ci := 9) (q0 := 0) rfl tkw_o0) rfl rfl hl.1 rfl (lv_room (Nat.le_of_ble_eq_true rfl)) dX10_takeNumber_91 ⟨Nat.le_of_ble_eq_true rfl, Nat.le_of_ble_eq_true rfl⟩) hP hD hS hA (fun u H locs hw hP hD hS => ?_)
              obtain ⟨f_41, f_42, f_43, n_44⟩ := u
              try dsimp only at hw
              have hP : va_P D vwCl (tkw y ad (sI (tJ (tI (tI σ 42 f_41) 43 f_42) 44 f_43) 45 n_44)) H := hP
              have hD : va_D A (tkw y ad (sI (tJ (tI (tI σ 42 f_41) 43 f_42) 44 f_43) 45 n_44)) := hD
              replace hw : 0 ≤ n_44.toInt ∧ n_44.toInt ≤ 700 := hw
              refine lv_iload hx hb dX10_takeNumber_94 (lv_at hl 1 rfl) ?_
              exact x_iretW (v := z4) (u := (f_41, f_42, f_43, n_44)) hx hb hr hQ (by (try dsimp only); exact ⟨by omega, by omega⟩) hP hD hK hS dX10_takeNumber_96 hlocks
          · have kc_32 : i_31.toInt > 4 := by have h9 := c_32; simp only [ge_iff_le, gt_iff_lt, x_lt, x_le, x_eq, ne_eq, Int32.not_lt, Int32.not_le] at h9; simp only [Int32.reduceToInt] at h9; omega
            refine lv_sipush (v := 261) hx hb dX10_takeNumber_60 (by decide) ?_
            refine lv_goto (tgt := 69) hx hb dX10_takeNumber_63 (by decide) ?_
            refine lv_istore (lv' := [(5, .int 261), (4, .int z4), (3, .int z3), (2, .int q), (1, .ref (ad 20)), (0, .ref (ad 40))]) hx hb dX10_takeNumber_69 hl (by decide) rfl (fun ls hl => ?_)
            refine lv_aload_n hx hb dX10_takeNumber_71 rfl (lv_at hl 5 rfl) ?_
            refine lv_aload_n hx hb dX10_takeNumber_72 rfl (lv_at hl 4 rfl) ?_
            refine lv_iload_n hx hb dX10_takeNumber_73 rfl (lv_at hl 3 rfl) ?_
            have hPs : va_P D vwCl (txw y ad σ) H := x_suP hP [1, 6] rfl
            have hDs : va_D A (txw y ad σ) := x_suD hD [1, 6] rfl (by decide)
            refine x_calliS (b1 := fun (u : Unit) => (tkw y ad σ)) [1, 6] (va_runS (As := [.ref (ad 20), .int q]) (rest := [.ref (ad 40)]) ⟨hx, hb, hml, hown, hts⟩ (o_isGlued l D y H.size ad σ q (show 0 ≤ ((σ.1 22)).toInt from by first | omega | decide) (show ((σ.1 22)).toInt ≤ 700 from by first | omega | decide)) (cwS 2 hts g_o_takeNumber_0 rfl rfl rfl (by decide +kernel) ⟨Nat.le_of_ble_eq_true rfl, Nat.le_of_ble_eq_true rfl⟩) (x_preS hK hPs hDs) rfl rfl hl.1 rfl (lv_room (Nat.le_of_ble_eq_true rfl)) dX10_takeNumber_74 ⟨Nat.le_of_ble_eq_true rfl, Nat.le_of_ble_eq_true rfl⟩) hP hD hS hA rfl (fun _ => rfl) (fun _ => rfl) (fun _ => rfl) (fun r_45 u H locs hw hP hD hS => ?_)
            try dsimp only at hw
            have hP : va_P D vwCl (tkw y ad σ) H := hP
            have hD : va_D A (tkw y ad σ) := hD
            refine lv_if_eq (tgt := 86) hx hb dX10_takeNumber_77 (by decide) (fun c_46 => ?_) (fun c_46 => ?_)
            · have kc_46 : r_45.toInt = 0 := by have h9 := c_46; simp only [ge_iff_le, gt_iff_lt, x_lt, x_le, x_eq, ne_eq, Int32.not_lt, Int32.not_le] at h9; simp only [Int32.reduceToInt] at h9; omega
              refine lv_iload hx hb dX10_takeNumber_86 (lv_at hl 0 rfl) ?_
              refine lv_iload_n hx hb dX10_takeNumber_88 rfl (lv_at hl 3 rfl) ?_
              refine lv_iload_n hx hb dX10_takeNumber_89 rfl (lv_at hl 2 rfl) ?_
              refine lv_i2l hx hb dX10_takeNumber_90 rfl ?_
              refine lv_topl (fun j_47 ej_47 => ?_)
              have vj_47 : j_47.toInt = z3.toInt := by rw [ej_47]; exact Int32.toInt_toInt64 _
              refine x_callvW (va_runV (As := [.int 261, .int q, .long j_47]) (rest := []) ⟨hx, hb, hml, hown, hts⟩ (o_add l D y H.size ad σ 261 q j_47 (show 0 ≤ ((σ.1 45)).toInt from by first | omega | decide) (show ((σ.1 45)).toInt ≤ 700 from by first | omega | decide)) (cwV 3 hts g_o_takeNumber_1 rfl rfl rfl (by decide +kernel) ⟨Nat.le_of_ble_eq_true rfl, Nat.le_of_ble_eq_true rfl⟩) (x_preV (q := (RX10, TX10, 6)) hK hP hD (ci := 9) (q0 := 0) rfl tkw_o0) rfl rfl hl.1 rfl (lv_room (Nat.le_of_ble_eq_true rfl)) dX10_takeNumber_91 ⟨Nat.le_of_ble_eq_true rfl, Nat.le_of_ble_eq_true rfl⟩) hP hD hS hA (fun u H locs hw hP hD hS => ?_)
              obtain ⟨f_48, f_49, f_50, n_51⟩ := u
              try dsimp only at hw
              have hP : va_P D vwCl (tkw y ad (sI (tJ (tI (tI σ 42 f_48) 43 f_49) 44 f_50) 45 n_51)) H := hP
              have hD : va_D A (tkw y ad (sI (tJ (tI (tI σ 42 f_48) 43 f_49) 44 f_50) 45 n_51)) := hD
              replace hw : 0 ≤ n_51.toInt ∧ n_51.toInt ≤ 700 := hw
              refine lv_iload hx hb dX10_takeNumber_94 (lv_at hl 1 rfl) ?_
              exact x_iretW (v := z4) (u := (f_48, f_49, f_50, n_51)) hx hb hr hQ (by (try dsimp only); exact ⟨by omega, by omega⟩) hP hD hK hS dX10_takeNumber_96 hlocks
            · have kc_46 : r_45.toInt ≠ 0 := by have h9 := c_46; simp only [ge_iff_le, gt_iff_lt, x_lt, x_le, x_eq, ne_eq, Int32.not_lt, Int32.not_le] at h9; simp only [Int32.reduceToInt] at h9; omega
              refine lv_sipush (v := 257) hx hb dX10_takeNumber_80 (by decide) ?_
              refine lv_goto (tgt := 88) hx hb dX10_takeNumber_83 (by decide) ?_
              refine lv_iload_n hx hb dX10_takeNumber_88 rfl (lv_at hl 3 rfl) ?_
              refine lv_iload_n hx hb dX10_takeNumber_89 rfl (lv_at hl 2 rfl) ?_
              refine lv_i2l hx hb dX10_takeNumber_90 rfl ?_
              refine lv_topl (fun j_52 ej_52 => ?_)
              have vj_52 : j_52.toInt = z3.toInt := by rw [ej_52]; exact Int32.toInt_toInt64 _
              refine x_callvW (va_runV (As := [.int 257, .int q, .long j_52]) (rest := []) ⟨hx, hb, hml, hown, hts⟩ (o_add l D y H.size ad σ 257 q j_52 (show 0 ≤ ((σ.1 45)).toInt from by first | omega | decide) (show ((σ.1 45)).toInt ≤ 700 from by first | omega | decide)) (cwV 3 hts g_o_takeNumber_1 rfl rfl rfl (by decide +kernel) ⟨Nat.le_of_ble_eq_true rfl, Nat.le_of_ble_eq_true rfl⟩) (x_preV (q := (RX10, TX10, 6)) hK hP hD (ci := 9) (q0 := 0) rfl tkw_o0) rfl rfl hl.1 rfl (lv_room (Nat.le_of_ble_eq_true rfl)) dX10_takeNumber_91 ⟨Nat.le_of_ble_eq_true rfl, Nat.le_of_ble_eq_true rfl⟩) hP hD hS hA (fun u H locs hw hP hD hS => ?_)
              obtain ⟨f_53, f_54, f_55, n_56⟩ := u
              try dsimp only at hw
              have hP : va_P D vwCl (tkw y ad (sI (tJ (tI (tI σ 42 f_53) 43 f_54) 44 f_55) 45 n_56)) H := hP
              have hD : va_D A (tkw y ad (sI (tJ (tI (tI σ 42 f_53) 43 f_54) 44 f_55) 45 n_56)) := hD
              replace hw : 0 ≤ n_56.toInt ∧ n_56.toInt ≤ 700 := hw
              refine lv_iload hx hb dX10_takeNumber_94 (lv_at hl 1 rfl) ?_
              exact x_iretW (v := z4) (u := (f_53, f_54, f_55, n_56)) hx hb hr hQ (by (try dsimp only); exact ⟨by omega, by omega⟩) hP hD hK hS dX10_takeNumber_96 hlocks
        · have kc_30 : r_29.toInt ≠ 0 := by have h9 := c_30; simp only [ge_iff_le, gt_iff_lt, x_lt, x_le, x_eq, ne_eq, Int32.not_lt, Int32.not_le] at h9; simp only [Int32.reduceToInt] at h9; omega
          refine lv_iload_n hx hb dX10_takeNumber_28 rfl (lv_at hl 2 rfl) ?_
          refine lv_bipush (v := 10) hx hb dX10_takeNumber_29 (by decide) ?_
          refine lv_imul hx hb dX10_takeNumber_31 ?_
          refine lv_topi (fun i_57 ei_57 => ?_)
          refine lv_aload_n hx hb dX10_takeNumber_32 rfl (lv_at hl 4 rfl) ?_
          refine lv_iload hx hb dX10_takeNumber_33 (lv_at hl 1 rfl) ?_
          have hPs : va_P D vwCl (txw y ad σ) H := x_suP hP [1, 6] rfl
          have hDs : va_D A (txw y ad σ) := x_suD hD [1, 6] rfl (by decide)
          refine x_calliS (b1 := fun (u : Unit) => (tkw y ad σ)) [1, 6] (va_runV (As := [.int z4]) (rest := [.int i_57]) ⟨hx, hb, hml, hown, hts⟩ (x_at l D y H.size ad σ z4 (show 0 ≤ ((σ.1 22)).toInt from by first | omega | decide) (show ((σ.1 22)).toInt ≤ 700 from by first | omega | decide)) (cwV 1 hts g_o_takeNumber_2 rfl rfl rfl (by decide +kernel) ⟨Nat.le_of_ble_eq_true rfl, Nat.le_of_ble_eq_true rfl⟩) (x_preV (q := (RX9, TX9, 2)) hK hPs hDs (ci := 8) (q0 := 0) rfl txw_o0) rfl rfl hl.1 rfl (lv_room (Nat.le_of_ble_eq_true rfl)) dX10_takeNumber_35 ⟨Nat.le_of_ble_eq_true rfl, Nat.le_of_ble_eq_true rfl⟩) hP hD hS hA rfl (fun _ => rfl) (fun _ => rfl) (fun _ => rfl) (fun r_58 u H locs hw hP hD hS => ?_)
          try dsimp only at hw
          have hP : va_P D vwCl (tkw y ad σ) H := hP
          have hD : va_D A (tkw y ad σ) := hD
          refine lv_iadd hx hb dX10_takeNumber_38 ?_
          refine lv_topi (fun i_59 ei_59 => ?_)
          refine lv_bipush (v := 48) hx hb dX10_takeNumber_39 (by decide) ?_
          refine lv_isub hx hb dX10_takeNumber_41 ?_
          refine lv_topi (fun i_60 ei_60 => ?_)
          refine lv_istore_n (lv' := [(3, .int i_60), (5, .int i), (4, .int z4), (2, .int q), (1, .ref (ad 20)), (0, .ref (ad 40))]) hx hb dX10_takeNumber_42 rfl hl (by decide) rfl (fun ls hl => ?_)
          obtain ⟨i_61, ei_61⟩ : ∃ z9 : Int32, z9 = z4 + 1 := ⟨_, rfl⟩
          refine lv_iinc (v := i_61) (lv' := [(4, .int i_61), (3, .int i_60), (5, .int i), (2, .int q), (1, .ref (ad 20)), (0, .ref (ad 40))]) hx hb dX10_takeNumber_43 hl (k := 2) rfl (by rw [ei_61]; rfl) (by decide) rfl (fun ls hl => ?_)
          obtain ⟨i_62, ei_62⟩ : ∃ z9 : Int32, z9 = i + 1 := ⟨_, rfl⟩
          have vi_62 : i_62.toInt = i.toInt + 1 := by have h9 := x_add ei_62 (by omega) (by omega); omega
          refine lv_iinc (v := i_62) (lv' := [(5, .int i_62), (4, .int i_61), (3, .int i_60), (2, .int q), (1, .ref (ad 20)), (0, .ref (ad 40))]) hx hb dX10_takeNumber_46 hl (k := 2) rfl (by rw [ei_62]; rfl) (by decide) rfl (fun ls hl => ?_)
          refine lv_goto (tgt := 8) hx hb dX10_takeNumber_49 (by decide) ?_
          exact ih_loop i_62 i_61 i_60 H locs ls (by omega) (by omega) (by omega) hP hD hS (lv_sub hl [0, 1, 2, 3, 4, 5] rfl)
  exact loop 701 0 q 0 H locs ls (by decide) (by decide) (by omega) hP hD hS (lv_sub hl [0, 1, 2, 5, 4, 3] rfl)

def v_o_take : List Cond := .code yX10_take cX10_take 4 (some .int) :: ([] ++ ((wsV RX10 54 RX9 yX9_at v_x_at) ++ ((wsS RX10 58 yX10_isLetter v_o_isLetter) ++ ((wsS RX10 65 yX10_isDigit v_o_isDigit) ++ ((wsS RX10 71 yX10_isBlank v_o_isBlank) ++ ((wsV RX10 74 RX10 yX10_add v_o_add) ++ ((wsV RX10 68 RX10 yX10_takeNumber v_o_takeNumber) ++ (wsV RX10 62 RX10 yX10_takeWord v_o_takeWord))))))))
theorem g_o_take_0 : GoodIn v_o_take (wsV RX10 54 RX9 yX9_at v_x_at) := goodIn_sub (fun w h => List.mem_cons_of_mem _ (List.mem_append_right _ (List.mem_append_left _ h))) (by decide +kernel)
theorem g_o_take_1 : GoodIn v_o_take (wsS RX10 58 yX10_isLetter v_o_isLetter) := goodIn_sub (fun w h => List.mem_cons_of_mem _ (List.mem_append_right _ (List.mem_append_right _ (List.mem_append_left _ h)))) (by decide +kernel)
theorem g_o_take_2 : GoodIn v_o_take (wsS RX10 65 yX10_isDigit v_o_isDigit) := goodIn_sub (fun w h => List.mem_cons_of_mem _ (List.mem_append_right _ (List.mem_append_right _ (List.mem_append_right _ (List.mem_append_left _ h))))) (by decide +kernel)
theorem g_o_take_3 : GoodIn v_o_take (wsS RX10 71 yX10_isBlank v_o_isBlank) := goodIn_sub (fun w h => List.mem_cons_of_mem _ (List.mem_append_right _ (List.mem_append_right _ (List.mem_append_right _ (List.mem_append_right _ (List.mem_append_left _ h)))))) (by decide +kernel)
theorem g_o_take_4 : GoodIn v_o_take (wsV RX10 74 RX10 yX10_add v_o_add) := goodIn_sub (fun w h => List.mem_cons_of_mem _ (List.mem_append_right _ (List.mem_append_right _ (List.mem_append_right _ (List.mem_append_right _ (List.mem_append_right _ (List.mem_append_left _ h))))))) (by decide +kernel)
theorem g_o_take_5 : GoodIn v_o_take (wsV RX10 68 RX10 yX10_takeNumber v_o_takeNumber) := goodIn_sub (fun w h => List.mem_cons_of_mem _ (List.mem_append_right _ (List.mem_append_right _ (List.mem_append_right _ (List.mem_append_right _ (List.mem_append_right _ (List.mem_append_right _ (List.mem_append_left _ h)))))))) (by decide +kernel)
theorem g_o_take_6 : GoodIn v_o_take (wsV RX10 62 RX10 yX10_takeWord v_o_takeWord) := goodIn_sub (fun w h => List.mem_cons_of_mem _ (List.mem_append_right _ (List.mem_append_right _ (List.mem_append_right _ (List.mem_append_right _ (List.mem_append_right _ (List.mem_append_right _ (List.mem_append_right _ h)))))))) (by decide +kernel)
set_option maxHeartbeats 4000000 in
set_option maxRecDepth 100000 in
theorem o_take (l : Launch) (D : va_G) (y : Nat → ClassId) (sz : Nat) (ad : Nat → Nat) (σ : OS) (q : Int32) (hct0 : 0 ≤ (σ.1 45).toInt) (hct1 : (σ.1 45).toInt ≤ 700) (htl0 : 0 ≤ (σ.1 22).toInt) (htl1 : (σ.1 22).toInt ≤ 700) : Met l yX10_take v_o_take ({ frames := 3, cells := 0, slots := 0, locals := 69 } : Room) (va_Pc [.ref (ad 40), .ref (ad 20), .int q] (xPre D (xT y) (tkw y ad σ) sz)) (va_Qi (fun (r : Int32) (u : (Nat → Int32) × (Nat → Int32) × (Nat → Int64) × Int32) => 0 ≤ u.2.2.2.toInt ∧ u.2.2.2.toInt ≤ 700) (fun (u : (Nat → Int32) × (Nat → Int32) × (Nat → Int64) × Int32) => xB D (xT y) (va_A (tkw y ad σ) sz) (tkw y ad (sI (tJ (tI (tI σ 42 u.1) 43 u.2.1) 44 u.2.2.1) 45 u.2.2.2))) (va_A (tkw y ad σ) sz)) 0 0 (va_A (tkw y ad σ) sz) := by
  refine x_meti (cc := cX10_take) (maxL := 4) (by decide) rfl (Nat.le_of_ble_eq_true rfl) ?_
  intro p e s m below meth c A H locs Q hx hb hml hown hts hr hlocks hmn hA hP hK hD hS ls hl hQ
  have hl : lv_has ls 4 [(0, .ref (ad 40)), (1, .ref (ad 20)), (2, .int q)] := hl
  have kk_0 : (0 : Int32).toInt = 0 := rfl
  have kl_0 : (0 : Int64).toInt = 0 := rfl
  refine lv_aload_n hx hb dX10_take_0 rfl (lv_at hl 1 rfl) ?_
  refine lv_iload_n hx hb dX10_take_1 rfl (lv_at hl 2 rfl) ?_
  have hPs : va_P D vwCl (txw y ad σ) H := x_suP hP [1, 6] rfl
  have hDs : va_D A (txw y ad σ) := x_suD hD [1, 6] rfl (by decide)
  refine x_calliS (b1 := fun (u : Unit) => (tkw y ad σ)) [1, 6] (va_runV (As := [.int q]) (rest := []) ⟨hx, hb, hml, hown, hts⟩ (x_at l D y H.size ad σ q (show 0 ≤ ((σ.1 22)).toInt from by first | omega | decide) (show ((σ.1 22)).toInt ≤ 700 from by first | omega | decide)) (cwV 1 hts g_o_take_0 rfl rfl rfl (by decide +kernel) ⟨Nat.le_of_ble_eq_true rfl, Nat.le_of_ble_eq_true rfl⟩) (x_preV (q := (RX9, TX9, 2)) hK hPs hDs (ci := 8) (q0 := 0) rfl txw_o0) rfl rfl hl.1 rfl (lv_room (Nat.le_of_ble_eq_true rfl)) dX10_take_2 ⟨Nat.le_of_ble_eq_true rfl, Nat.le_of_ble_eq_true rfl⟩) hP hD hS hA rfl (fun _ => rfl) (fun _ => rfl) (fun _ => rfl) (fun r_1 u H locs hw hP hD hS => ?_)
  try dsimp only at hw
  have hP : va_P D vwCl (tkw y ad σ) H := hP
  have hD : va_D A (tkw y ad σ) := hD
  refine lv_istore_n (lv' := [(3, .int r_1), (0, .ref (ad 40)), (1, .ref (ad 20)), (2, .int q)]) hx hb dX10_take_5 rfl hl (by decide) rfl (fun ls hl => ?_)
  refine lv_iload_n hx hb dX10_take_6 rfl (lv_at hl 0 rfl) ?_
  refine x_calliN (va_runS (As := [.int r_1]) (rest := []) ⟨hx, hb, hml, hown, hts⟩ (o_isLetter l D y H.size r_1) (cwS 1 hts g_o_take_1 rfl rfl rfl (by decide +kernel) ⟨Nat.le_of_ble_eq_true rfl, Nat.le_of_ble_eq_true rfl⟩) (x_preS hK (x_nilP D H) (x_nilD A)) rfl rfl hl.1 rfl (lv_room (Nat.le_of_ble_eq_true rfl)) dX10_take_7 ⟨Nat.le_of_ble_eq_true rfl, Nat.le_of_ble_eq_true rfl⟩) hP hD hS hA (fun r_2 u H locs hw hP hD hS => ?_)
  try dsimp only at hw
  refine lv_if_eq (tgt := 20) hx hb dX10_take_10 (by decide) (fun c_3 => ?_) (fun c_3 => ?_)
  · have kc_3 : r_2.toInt = 0 := by have h9 := c_3; simp only [ge_iff_le, gt_iff_lt, x_lt, x_le, x_eq, ne_eq, Int32.not_lt, Int32.not_le] at h9; simp only [Int32.reduceToInt] at h9; omega
    refine lv_iload_n hx hb dX10_take_20 rfl (lv_at hl 0 rfl) ?_
    refine x_calliN (va_runS (As := [.int r_1]) (rest := []) ⟨hx, hb, hml, hown, hts⟩ (o_isDigit l D y H.size r_1) (cwS 1 hts g_o_take_2 rfl rfl rfl (by decide +kernel) ⟨Nat.le_of_ble_eq_true rfl, Nat.le_of_ble_eq_true rfl⟩) (x_preS hK (x_nilP D H) (x_nilD A)) rfl rfl hl.1 rfl (lv_room (Nat.le_of_ble_eq_true rfl)) dX10_take_21 ⟨Nat.le_of_ble_eq_true rfl, Nat.le_of_ble_eq_true rfl⟩) hP hD hS hA (fun r_4 u H locs hw hP hD hS => ?_)
    try dsimp only at hw
    refine lv_if_eq (tgt := 34) hx hb dX10_take_24 (by decide) (fun c_5 => ?_) (fun c_5 => ?_)
    · have kc_5 : r_4.toInt = 0 := by have h9 := c_5; simp only [ge_iff_le, gt_iff_lt, x_lt, x_le, x_eq, ne_eq, Int32.not_lt, Int32.not_le] at h9; simp only [Int32.reduceToInt] at h9; omega
      refine lv_iload_n hx hb dX10_take_34 rfl (lv_at hl 0 rfl) ?_
      refine x_calliN (va_runS (As := [.int r_1]) (rest := []) ⟨hx, hb, hml, hown, hts⟩ (o_isBlank l D y H.size r_1) (cwS 1 hts g_o_take_3 rfl rfl rfl (by decide +kernel) ⟨Nat.le_of_ble_eq_true rfl, Nat.le_of_ble_eq_true rfl⟩) (x_preS hK (x_nilP D H) (x_nilD A)) rfl rfl hl.1 rfl (lv_room (Nat.le_of_ble_eq_true rfl)) dX10_take_35 ⟨Nat.le_of_ble_eq_true rfl, Nat.le_of_ble_eq_true rfl⟩) hP hD hS hA (fun r_6 u H locs hw hP hD hS => ?_)
      try dsimp only at hw
      refine lv_if_ne (tgt := 48) hx hb dX10_take_38 (by decide) (fun c_7 => ?_) (fun c_7 => ?_)
      · have kc_7 : r_6.toInt ≠ 0 := by have h9 := c_7; simp only [ge_iff_le, gt_iff_lt, x_lt, x_le, x_eq, ne_eq, Int32.not_lt, Int32.not_le] at h9; simp only [Int32.reduceToInt] at h9; omega
        refine lv_iload_n hx hb dX10_take_48 rfl (lv_at hl 3 rfl) ?_
        refine lv_iconst (v := 1) hx hb dX10_take_49 (by decide) ?_
        refine lv_iadd hx hb dX10_take_50 ?_
        refine lv_topi (fun i_8 ei_8 => ?_)
        have hP : va_P D vwCl (tkw y ad (sI (tJ (tI (tI σ 42 (σ.2.2.1 42)) 43 (σ.2.2.1 43)) 44 (σ.2.2.2 44)) 45 (σ.1 45))) H := hP
        have hD : va_D A (tkw y ad (sI (tJ (tI (tI σ 42 (σ.2.2.1 42)) 43 (σ.2.2.1 43)) 44 (σ.2.2.2 44)) 45 (σ.1 45))) := hD
        exact x_iretW (v := i_8) (u := ((σ.2.2.1 42), (σ.2.2.1 43), (σ.2.2.2 44), (σ.1 45))) hx hb hr hQ (by (try dsimp only); exact ⟨by omega, by omega⟩) hP hD hK hS dX10_take_51 hlocks
      · have kc_7 : r_6.toInt = 0 := by have h9 := c_7; simp only [ge_iff_le, gt_iff_lt, x_lt, x_le, x_eq, ne_eq, Int32.not_lt, Int32.not_le] at h9; simp only [Int32.reduceToInt] at h9; omega
        refine lv_aload_n hx hb dX10_take_41 rfl (lv_at hl 1 rfl) ?_
        refine lv_iload_n hx hb dX10_take_42 rfl (lv_at hl 0 rfl) ?_
        refine lv_iload_n hx hb dX10_take_43 rfl (lv_at hl 3 rfl) ?_
        refine lv_lconst (v := 0) hx hb dX10_take_44 (by decide) ?_
        refine x_callvW (va_runV (As := [.int r_1, .int q, .long 0]) (rest := []) ⟨hx, hb, hml, hown, hts⟩ (o_add l D y H.size ad σ r_1 q 0 (show 0 ≤ ((σ.1 45)).toInt from by first | omega | decide) (show ((σ.1 45)).toInt ≤ 700 from by first | omega | decide)) (cwV 3 hts g_o_take_4 rfl rfl rfl (by decide +kernel) ⟨Nat.le_of_ble_eq_true rfl, Nat.le_of_ble_eq_true rfl⟩) (x_preV (q := (RX10, TX10, 6)) hK hP hD (ci := 9) (q0 := 0) rfl tkw_o0) rfl rfl hl.1 rfl (lv_room (Nat.le_of_ble_eq_true rfl)) dX10_take_45 ⟨Nat.le_of_ble_eq_true rfl, Nat.le_of_ble_eq_true rfl⟩) hP hD hS hA (fun u H locs hw hP hD hS => ?_)
        obtain ⟨f_9, f_10, f_11, n_12⟩ := u
        try dsimp only at hw
        have hP : va_P D vwCl (tkw y ad (sI (tJ (tI (tI σ 42 f_9) 43 f_10) 44 f_11) 45 n_12)) H := hP
        have hD : va_D A (tkw y ad (sI (tJ (tI (tI σ 42 f_9) 43 f_10) 44 f_11) 45 n_12)) := hD
        replace hw : 0 ≤ n_12.toInt ∧ n_12.toInt ≤ 700 := hw
        refine lv_iload_n hx hb dX10_take_48 rfl (lv_at hl 3 rfl) ?_
        refine lv_iconst (v := 1) hx hb dX10_take_49 (by decide) ?_
        refine lv_iadd hx hb dX10_take_50 ?_
        refine lv_topi (fun i_13 ei_13 => ?_)
        exact x_iretW (v := i_13) (u := (f_9, f_10, f_11, n_12)) hx hb hr hQ (by (try dsimp only); exact ⟨by omega, by omega⟩) hP hD hK hS dX10_take_51 hlocks
    · have kc_5 : r_4.toInt ≠ 0 := by have h9 := c_5; simp only [ge_iff_le, gt_iff_lt, x_lt, x_le, x_eq, ne_eq, Int32.not_lt, Int32.not_le] at h9; simp only [Int32.reduceToInt] at h9; omega
      refine lv_aload_n hx hb dX10_take_27 rfl (lv_at hl 1 rfl) ?_
      refine lv_aload_n hx hb dX10_take_28 rfl (lv_at hl 2 rfl) ?_
      refine lv_iload_n hx hb dX10_take_29 rfl (lv_at hl 3 rfl) ?_
      refine x_calliW (va_runV (As := [.ref (ad 20), .int q]) (rest := []) ⟨hx, hb, hml, hown, hts⟩ (o_takeNumber l D y H.size ad σ q (show 0 ≤ ((σ.1 45)).toInt from by first | omega | decide) (show ((σ.1 45)).toInt ≤ 700 from by first | omega | decide) (show 0 ≤ ((σ.1 22)).toInt from by first | omega | decide) (show ((σ.1 22)).toInt ≤ 700 from by first | omega | decide)) (cwV 2 hts g_o_take_5 rfl rfl rfl (by decide +kernel) ⟨Nat.le_of_ble_eq_true rfl, Nat.le_of_ble_eq_true rfl⟩) (x_preV (q := (RX10, TX10, 6)) hK hP hD (ci := 9) (q0 := 0) rfl tkw_o0) rfl rfl hl.1 rfl (lv_room (Nat.le_of_ble_eq_true rfl)) dX10_take_30 ⟨Nat.le_of_ble_eq_true rfl, Nat.le_of_ble_eq_true rfl⟩) hP hD hS hA (fun r_14 u H locs hw hP hD hS => ?_)
      obtain ⟨f_15, f_16, f_17, n_18⟩ := u
      try dsimp only at hw
      have hP : va_P D vwCl (tkw y ad (sI (tJ (tI (tI σ 42 f_15) 43 f_16) 44 f_17) 45 n_18)) H := hP
      have hD : va_D A (tkw y ad (sI (tJ (tI (tI σ 42 f_15) 43 f_16) 44 f_17) 45 n_18)) := hD
      replace hw : 0 ≤ n_18.toInt ∧ n_18.toInt ≤ 700 := hw
      exact x_iretW (v := r_14) (u := (f_15, f_16, f_17, n_18)) hx hb hr hQ (by (try dsimp only); exact ⟨by omega, by omega⟩) hP hD hK hS dX10_take_33 hlocks
  · have kc_3 : r_2.toInt ≠ 0 := by have h9 := c_3; simp only [ge_iff_le, gt_iff_lt, x_lt, x_le, x_eq, ne_eq, Int32.not_lt, Int32.not_le] at h9; simp only [Int32.reduceToInt] at h9; omega
    refine lv_aload_n hx hb dX10_take_13 rfl (lv_at hl 1 rfl) ?_
    refine lv_aload_n hx hb dX10_take_14 rfl (lv_at hl 2 rfl) ?_
    refine lv_iload_n hx hb dX10_take_15 rfl (lv_at hl 3 rfl) ?_
    refine x_calliW (va_runV (As := [.ref (ad 20), .int q]) (rest := []) ⟨hx, hb, hml, hown, hts⟩ (o_takeWord l D y H.size ad σ q (show 0 ≤ ((σ.1 45)).toInt from by first | omega | decide) (show ((σ.1 45)).toInt ≤ 700 from by first | omega | decide) (show 0 ≤ ((σ.1 22)).toInt from by first | omega | decide) (show ((σ.1 22)).toInt ≤ 700 from by first | omega | decide)) (cwV 2 hts g_o_take_6 rfl rfl rfl (by decide +kernel) ⟨Nat.le_of_ble_eq_true rfl, Nat.le_of_ble_eq_true rfl⟩) (x_preV (q := (RX10, TX10, 6)) hK hP hD (ci := 9) (q0 := 0) rfl tkw_o0) rfl rfl hl.1 rfl (lv_room (Nat.le_of_ble_eq_true rfl)) dX10_take_16 ⟨Nat.le_of_ble_eq_true rfl, Nat.le_of_ble_eq_true rfl⟩) hP hD hS hA (fun r_19 u H locs hw hP hD hS => ?_)
    obtain ⟨f_20, f_21, f_22, n_23⟩ := u
    try dsimp only at hw
    have hP : va_P D vwCl (tkw y ad (sI (tJ (tI (tI σ 42 f_20) 43 f_21) 44 f_22) 45 n_23)) H := hP
    have hD : va_D A (tkw y ad (sI (tJ (tI (tI σ 42 f_20) 43 f_21) 44 f_22) 45 n_23)) := hD
    replace hw : 0 ≤ n_23.toInt ∧ n_23.toInt ≤ 700 := hw
    exact x_iretW (v := r_19) (u := (f_20, f_21, f_22, n_23)) hx hb hr hQ (by (try dsimp only); exact ⟨by omega, by omega⟩) hP hD hK hS dX10_take_19 hlocks

def v_o_cut : List Cond := .code yX10_cut cX10_cut 4 none :: ([.fieldLink RX10 41 "SlopeRunner$Tokens" "count" "I", .fieldLink RX10 48 "SlopeRunner$Tokens" "length" "I"] ++ ((wsV RX10 45 RX9 yX9_size v_x_size) ++ ((wsV RX10 50 RX10 yX10_take v_o_take) ++ wsX100)))
theorem g_o_cut_0 : GoodIn v_o_cut (wsV RX10 45 RX9 yX9_size v_x_size) := goodIn_sub (fun w h => List.mem_cons_of_mem _ (List.mem_append_right _ (List.mem_append_left _ h))) (by decide +kernel)
theorem g_o_cut_1 : GoodIn v_o_cut (wsV RX10 50 RX10 yX10_take v_o_take) := goodIn_sub (fun w h => List.mem_cons_of_mem _ (List.mem_append_right _ (List.mem_append_right _ (List.mem_append_left _ h)))) (by decide +kernel)
set_option maxHeartbeats 4000000 in
set_option maxRecDepth 100000 in
theorem o_cut (l : Launch) (D : va_G) (y : Nat → ClassId) (sz : Nat) (ad : Nat → Nat) (σ : OS) (htl0 : 0 ≤ (σ.1 22).toInt) (htl1 : (σ.1 22).toInt ≤ 700) : Met l yX10_cut v_o_cut ({ frames := 4, cells := 0, slots := 0, locals := 92 } : Room) (va_Pc [.ref (ad 40), .ref (ad 20)] (xPre D (xT y) (tkw y ad σ) sz)) (va_Qv (fun (u : (Nat → Int32) × (Nat → Int32) × (Nat → Int64) × Int32 × Int32) => 0 ≤ u.2.2.2.1.toInt ∧ u.2.2.2.1.toInt ≤ 700) (fun (u : (Nat → Int32) × (Nat → Int32) × (Nat → Int64) × Int32 × Int32) => xB D (xT y) (va_A (tkw y ad σ) sz) (tkw y ad (sI (sI (tJ (tI (tI σ 42 u.1) 43 u.2.1) 44 u.2.2.1) 45 u.2.2.2.1) 46 u.2.2.2.2))) (va_A (tkw y ad σ) sz)) 0 0 (va_A (tkw y ad σ) sz) := by
  refine x_metv (cc := cX10_cut) (maxL := 4) (by decide) rfl (Nat.le_of_ble_eq_true rfl) ?_
  intro p e s m below meth c A H locs Q hx hb hml hown hts hr hlocks hmn hA hP hK hD hS ls hl hQ
  have hl : lv_has ls 4 [(0, .ref (ad 40)), (1, .ref (ad 20))] := hl
  have fl41 := hts (.fieldLink RX10 41 "SlopeRunner$Tokens" "count" "I") (List.mem_of_getElem? (i := 1) rfl)
  have inX10 : ∀ w ∈ wsX100, w ∈ v_o_cut := (fun w h => List.mem_cons_of_mem _ (List.mem_append_right _ (List.mem_append_right _ (List.mem_append_right _ h))))
  have fl48 := hts (.fieldLink RX10 48 "SlopeRunner$Tokens" "length" "I") (List.mem_of_getElem? (i := 2) rfl)
  have kk_700 : (700 : Int32).toInt = 700 := rfl
  have kk_1 : (1 : Int32).toInt = 1 := rfl
  refine lv_aload_n hx hb dX10_cut_0 rfl (lv_at hl 0 rfl) ?_
  refine lv_iconst (v := 0) hx hb dX10_cut_1 (by decide) ?_
  refine va_put (D := D) (ci := 9) (v := .int 0) (ty := .int) (C := RX10) (T := TX10) (N := 6) hx hb hts inX10 tyX10 tyX10_ok nmX10 hown hK hP hD hS 0 tkw_o0 rfl 4 (by decide) fl41 (fun _ h9 => h9) rfl (by decide +kernel) rfl rfl (Nat.le_of_ble_eq_true rfl) dX10_cut_2 (fun H locs hP hD hS => ?_)
  have hP : va_P D vwCl (tkw y ad (sI σ 45 0)) H := x_trP hP tkw_p0_4
  have hD : va_D A (tkw y ad (sI σ 45 0)) := x_trD hD tkw_p0_4
  refine lv_aload_n hx hb dX10_cut_5 rfl (lv_at hl 0 rfl) ?_
  refine lv_aload_n hx hb dX10_cut_6 rfl (lv_at hl 1 rfl) ?_
  have hPs : va_P D vwCl (txw y ad (sI σ 45 0)) H := x_suP hP [1, 6] rfl
  have hDs : va_D A (txw y ad (sI σ 45 0)) := x_suD hD [1, 6] rfl (by decide)
  refine x_calliS (b1 := fun (u : Unit) => (tkw y ad (sI σ 45 0))) [1, 6] (va_runV (As := []) (rest := [.ref (ad 40)]) ⟨hx, hb, hml, hown, hts⟩ (x_size l D y H.size ad (sI σ 45 0) ) (cwV 0 hts g_o_cut_0 rfl rfl rfl (by decide +kernel) ⟨Nat.le_of_ble_eq_true rfl, Nat.le_of_ble_eq_true rfl⟩) (x_preV (q := (RX9, TX9, 2)) hK hPs hDs (ci := 8) (q0 := 0) rfl txw_o0) rfl rfl hl.1 rfl (lv_room (Nat.le_of_ble_eq_true rfl)) dX10_cut_7 ⟨Nat.le_of_ble_eq_true rfl, Nat.le_of_ble_eq_true rfl⟩) hP hD hS hA rfl (fun _ => rfl) (fun _ => rfl) (fun _ => rfl) (fun r_1 u H locs hw hP hD hS => ?_)
  try dsimp only at hw
  have hP : va_P D vwCl (tkw y ad (sI σ 45 0)) H := hP
  have hD : va_D A (tkw y ad (sI σ 45 0)) := hD
  replace hw : r_1 = (σ.1 22) := hw
  refine va_put (D := D) (ci := 9) (v := .int r_1) (ty := .int) (C := RX10) (T := TX10) (N := 6) hx hb hts inX10 tyX10 tyX10_ok nmX10 hown hK hP hD hS 0 tkw_o0 rfl 5 (by decide) fl48 (fun _ h9 => h9) rfl (by decide +kernel) rfl rfl (Nat.le_of_ble_eq_true rfl) dX10_cut_10 (fun H locs hP hD hS => ?_)
  have hP : va_P D vwCl (tkw y ad (sI (sI σ 45 0) 46 r_1)) H := x_trP hP tkw_p0_5
  have hD : va_D A (tkw y ad (sI (sI σ 45 0) 46 r_1)) := x_trD hD tkw_p0_5
  refine lv_iconst (v := 0) hx hb dX10_cut_13 (by decide) ?_
  refine lv_istore_n (lv' := [(2, .int 0), (0, .ref (ad 40)), (1, .ref (ad 20))]) hx hb dX10_cut_14 rfl hl (by decide) rfl (fun ls hl => ?_)
  refine lv_iconst (v := 0) hx hb dX10_cut_15 (by decide) ?_
  refine lv_istore_n (lv' := [(3, .int 0), (2, .int 0), (0, .ref (ad 40)), (1, .ref (ad 20))]) hx hb dX10_cut_16 rfl hl (by decide) rfl (fun ls hl => ?_)
  have l00 : (0 : Int32).toInt = 0 := rfl
  have hP : va_P D vwCl (tkw y ad (sI (tJ (tI (tI (sI σ 46 r_1) 42 (σ.2.2.1 42)) 43 (σ.2.2.1 43)) 44 (σ.2.2.2 44)) 45 0)) H := hP
  have hD : va_D A (tkw y ad (sI (tJ (tI (tI (sI σ 46 r_1) 42 (σ.2.2.1 42)) 43 (σ.2.2.1 43)) 44 (σ.2.2.2 44)) 45 0)) := hD
  have loop : ∀ (fu : Nat) (i : Int32) (z2 : Int32) (v_kind : Nat → Int32) (v_start : Nat → Int32) (v_worth : Nat → Int64) (v_count : Int32) (H : Heap) (locs : List Loc) (ls : Array Slot), (0 ≤ i.toInt) → (i.toInt ≤ 700) → (0 ≤ v_count.toInt) → (v_count.toInt ≤ 700) → (700 - i.toInt < (fu : Int)) → va_P D vwCl (tkw y ad (sI (tJ (tI (tI (sI σ 46 r_1) 42 v_kind) 43 v_start) 44 v_worth) 45 v_count)) H → va_D A (tkw y ad (sI (tJ (tI (tI (sI σ 46 r_1) 42 v_kind) 43 v_start) 44 v_worth) 45 v_count)) → va_S A s.heap H locs → lv_has ls 4 [(3, .int i), (2, .int z2), (1, .ref (ad 20)), (0, .ref (ad 40))] → W p l e ({ frames := 4, cells := 0, slots := 0, locals := 92 } : Room) s m ([.ref (ad 40), .ref (ad 20)] : List Value).toArray below meth c H locs 0 0 Q (F0 m 17 ls []) := by
    intro fu
    induction fu with
    | zero =>
      intro i z2 v_kind v_start v_worth v_count H locs ls hi0 hi1 hc0 hc1 hm
      exact absurd hm (by omega)
    | succ fu ih_loop =>
      intro i z2 v_kind v_start v_worth v_count H locs ls hi0 hi1 hc0 hc1 hm hP hD hS hl
      refine lv_iload_n hx hb dX10_cut_17 rfl (lv_at hl 0 rfl) ?_
      refine lv_sipush (v := 700) hx hb dX10_cut_18 (by decide) ?_
      refine lv_icmp_ge (tgt := 45) hx hb dX10_cut_21 (by decide) (fun c_2 => ?_) (fun c_2 => ?_)
      · have kc_2 : i.toInt ≥ 700 := by have h9 := c_2; simp only [ge_iff_le, gt_iff_lt, x_lt, x_le, x_eq, ne_eq, Int32.not_lt, Int32.not_le] at h9; simp only [Int32.reduceToInt] at h9; omega
        have hP : va_P D vwCl (tkw y ad (sI (sI (tJ (tI (tI σ 42 v_kind) 43 v_start) 44 v_worth) 45 v_count) 46 r_1)) H := hP
        have hD : va_D A (tkw y ad (sI (sI (tJ (tI (tI σ 42 v_kind) 43 v_start) 44 v_worth) 45 v_count) 46 r_1)) := hD
        exact x_vretW (u := (v_kind, v_start, v_worth, v_count, r_1)) hx hb hr hQ (by (try dsimp only); exact ⟨by omega, by omega⟩) hP hD hK hS dX10_cut_45 hlocks
      · have kc_2 : i.toInt < 700 := by have h9 := c_2; simp only [ge_iff_le, gt_iff_lt, x_lt, x_le, x_eq, ne_eq, Int32.not_lt, Int32.not_le] at h9; simp only [Int32.reduceToInt] at h9; omega
        refine lv_iload_n hx hb dX10_cut_24 rfl (lv_at hl 1 rfl) ?_
        refine lv_aload_n hx hb dX10_cut_25 rfl (lv_at hl 3 rfl) ?_
        refine va_get (D := D) (ci := 9) (v := .int r_1) (C := RX10) (T := TX10) (N := 6) hx hb hts inX10 hown hK hP 0 tkw_o0 rfl 5 (by decide) fl48 (fun _ h9 => h9) rfl dX10_cut_26 ?_
        refine lv_icmp_ge (tgt := 45) hx hb dX10_cut_29 (by decide) (fun c_3 => ?_) (fun c_3 => ?_)
        · have kc_3 : z2.toInt ≥ r_1.toInt := by have h9 := c_3; simp only [ge_iff_le, gt_iff_lt, x_lt, x_le, x_eq, ne_eq, Int32.not_lt, Int32.not_le] at h9; omega
          have hP : va_P D vwCl (tkw y ad (sI (sI (tJ (tI (tI σ 42 v_kind) 43 v_start) 44 v_worth) 45 v_count) 46 r_1)) H := hP
          have hD : va_D A (tkw y ad (sI (sI (tJ (tI (tI σ 42 v_kind) 43 v_start) 44 v_worth) 45 v_count) 46 r_1)) := hD
          exact x_vretW (u := (v_kind, v_start, v_worth, v_count, r_1)) hx hb hr hQ (by (try dsimp only); exact ⟨by omega, by omega⟩) hP hD hK hS dX10_cut_45 hlocks
        · have kc_3 : z2.toInt < r_1.toInt := by have h9 := c_3; simp only [ge_iff_le, gt_iff_lt, x_lt, x_le, x_eq, ne_eq, Int32.not_lt, Int32.not_le] at h9; omega
          refine lv_aload_n hx hb dX10_cut_32 rfl (lv_at hl 3 rfl) ?_
          refine lv_aload_n hx hb dX10_cut_33 rfl (lv_at hl 2 rfl) ?_
          refine lv_iload_n hx hb dX10_cut_34 rfl (lv_at hl 1 rfl) ?_
          refine x_calliW (va_runV (As := [.ref (ad 20), .int z2]) (rest := []) ⟨hx, hb, hml, hown, hts⟩ (o_take l D y H.size ad (sI (tJ (tI (tI (sI σ 46 r_1) 42 v_kind) 43 v_start) 44 v_worth) 45 v_count) z2 (show 0 ≤ (v_count).toInt from by first | omega | decide) (show (v_count).toInt ≤ 700 from by first | omega | decide) (show 0 ≤ ((σ.1 22)).toInt from by first | omega | decide) (show ((σ.1 22)).toInt ≤ 700 from by first | omega | decide)) (cwV 2 hts g_o_cut_1 rfl rfl rfl (by decide +kernel) ⟨Nat.le_of_ble_eq_true rfl, Nat.le_of_ble_eq_true rfl⟩) (x_preV (q := (RX10, TX10, 6)) hK hP hD (ci := 9) (q0 := 0) rfl tkw_o0) rfl rfl hl.1 rfl (lv_room (Nat.le_of_ble_eq_true rfl)) dX10_cut_35 ⟨Nat.le_of_ble_eq_true rfl, Nat.le_of_ble_eq_true rfl⟩) hP hD hS hA (fun r_4 u H locs hw hP hD hS => ?_)
          obtain ⟨f_5, f_6, f_7, n_8⟩ := u
          try dsimp only at hw
          have hP : va_P D vwCl (tkw y ad (sI (tJ (tI (tI (sI (tJ (tI (tI (sI σ 46 r_1) 42 v_kind) 43 v_start) 44 v_worth) 45 v_count) 42 f_5) 43 f_6) 44 f_7) 45 n_8)) H := hP
          have hD : va_D A (tkw y ad (sI (tJ (tI (tI (sI (tJ (tI (tI (sI σ 46 r_1) 42 v_kind) 43 v_start) 44 v_worth) 45 v_count) 42 f_5) 43 f_6) 44 f_7) 45 n_8)) := hD
          replace hw : 0 ≤ n_8.toInt ∧ n_8.toInt ≤ 700 := hw
          refine lv_istore_n (lv' := [(2, .int r_4), (3, .int i), (1, .ref (ad 20)), (0, .ref (ad 40))]) hx hb dX10_cut_38 rfl hl (by decide) rfl (fun ls hl => ?_)
          obtain ⟨i_9, ei_9⟩ : ∃ z9 : Int32, z9 = i + 1 := ⟨_, rfl⟩
          have vi_9 : i_9.toInt = i.toInt + 1 := by have h9 := x_add ei_9 (by omega) (by omega); omega
          refine lv_iinc (v := i_9) (lv' := [(3, .int i_9), (2, .int r_4), (1, .ref (ad 20)), (0, .ref (ad 40))]) hx hb dX10_cut_39 hl (k := 1) rfl (by rw [ei_9]; rfl) (by decide) rfl (fun ls hl => ?_)
          refine lv_goto (tgt := 17) hx hb dX10_cut_42 (by decide) ?_
          have hP : va_P D vwCl (tkw y ad (sI (tJ (tI (tI (sI σ 46 r_1) 42 f_5) 43 f_6) 44 f_7) 45 n_8)) H := hP
          have hD : va_D A (tkw y ad (sI (tJ (tI (tI (sI σ 46 r_1) 42 f_5) 43 f_6) 44 f_7) 45 n_8)) := hD
          exact ih_loop i_9 r_4 f_5 f_6 f_7 n_8 H locs ls (by omega) (by omega) (by omega) (by omega) (by omega) hP hD hS (lv_sub hl [0, 1, 2, 3] rfl)
  exact loop 701 0 0 (σ.2.2.1 42) (σ.2.2.1 43) (σ.2.2.2 44) 0 H locs ls (by decide) (by decide) (by decide) (by decide) (by omega) hP hD hS (lv_sub hl [0, 1, 3, 2] rfl)

def v_w_clear : List Cond := .code yX6_clear cX6_clear 1 none :: ([.fieldLink RX6 33 "SlopeRunner$Program" "inputs" "I", .fieldLink RX6 37 "SlopeRunner$Program" "rows" "I", .fieldLink RX6 40 "SlopeRunner$Program" "vars" "I", .fieldLink RX6 43 "SlopeRunner$Program" "statements" "I", .fieldLink RX6 46 "SlopeRunner$Program" "numbers" "I", .fieldLink RX6 49 "SlopeRunner$Program" "names" "I", .fieldLink RX6 52 "SlopeRunner$Program" "length" "I"] ++ wsX60)
set_option maxHeartbeats 4000000 in
set_option maxRecDepth 100000 in
theorem w_clear (l : Launch) (D : va_G) (y : Nat → ClassId) (sz : Nat) (ad : Nat → Nat) (σ : OS)  : Met l yX6_clear v_w_clear ({ frames := 0, cells := 0, slots := 0, locals := 0 } : Room) (va_Pc [.ref (ad 60)] (xPre D (xT y) (pgw y ad σ) sz)) (va_Qv (fun (u : Int32 × Int32 × Int32 × Int32 × Int32 × Int32 × Int32) => u.1.toInt = 0 ∧ u.2.1.toInt = 0 ∧ u.2.2.2.2.1.toInt = 0 ∧ u.2.2.2.2.2.1.toInt = 0 ∧ u.2.2.2.2.2.2.toInt = 0) (fun (u : Int32 × Int32 × Int32 × Int32 × Int32 × Int32 × Int32) => xB D (xT y) (va_A (pgw y ad σ) sz) (pgw y ad (sI (sI (sI (sI (sI (sI (sI σ 61 u.1) 62 u.2.1) 63 u.2.2.1) 64 u.2.2.2.1) 65 u.2.2.2.2.1) 68 u.2.2.2.2.2.1) 66 u.2.2.2.2.2.2))) (va_A (pgw y ad σ) sz)) 0 0 (va_A (pgw y ad σ) sz) := by
  refine x_metv (cc := cX6_clear) (maxL := 1) (by decide) rfl (Nat.le_of_ble_eq_true rfl) ?_
  intro p e s m below meth c A H locs Q hx hb hml hown hts hr hlocks hmn hA hP hK hD hS ls hl hQ
  have hl : lv_has ls 1 [(0, .ref (ad 60))] := hl
  have fl33 := hts (.fieldLink RX6 33 "SlopeRunner$Program" "inputs" "I") (List.mem_of_getElem? (i := 1) rfl)
  have inX6 : ∀ w ∈ wsX60, w ∈ v_w_clear := (fun w h => List.mem_cons_of_mem _ (List.mem_append_right _ h))
  have fl37 := hts (.fieldLink RX6 37 "SlopeRunner$Program" "rows" "I") (List.mem_of_getElem? (i := 2) rfl)
  have fl40 := hts (.fieldLink RX6 40 "SlopeRunner$Program" "vars" "I") (List.mem_of_getElem? (i := 3) rfl)
  have fl43 := hts (.fieldLink RX6 43 "SlopeRunner$Program" "statements" "I") (List.mem_of_getElem? (i := 4) rfl)
  have fl46 := hts (.fieldLink RX6 46 "SlopeRunner$Program" "numbers" "I") (List.mem_of_getElem? (i := 5) rfl)
  have fl49 := hts (.fieldLink RX6 49 "SlopeRunner$Program" "names" "I") (List.mem_of_getElem? (i := 6) rfl)
  have fl52 := hts (.fieldLink RX6 52 "SlopeRunner$Program" "length" "I") (List.mem_of_getElem? (i := 7) rfl)
  refine lv_aload_n hx hb dX6_clear_0 rfl (lv_at hl 0 rfl) ?_
  refine lv_iconst (v := 0) hx hb dX6_clear_1 (by decide) ?_
  refine va_put (D := D) (ci := 5) (v := .int 0) (ty := .int) (C := RX6) (T := TX6) (N := 13) hx hb hts inX6 tyX6 tyX6_ok nmX6 hown hK hP hD hS 0 pgw_o0 rfl 0 (by decide) fl33 (fun _ h9 => h9) rfl (by decide +kernel) rfl rfl (Nat.le_of_ble_eq_true rfl) dX6_clear_2 (fun H locs hP hD hS => ?_)
  have hP : va_P D vwCl (pgw y ad (sI σ 61 0)) H := x_trP hP pgw_p0_0
  have hD : va_D A (pgw y ad (sI σ 61 0)) := x_trD hD pgw_p0_0
  refine lv_aload_n hx hb dX6_clear_5 rfl (lv_at hl 0 rfl) ?_
  refine lv_iconst (v := 0) hx hb dX6_clear_6 (by decide) ?_
  refine va_put (D := D) (ci := 5) (v := .int 0) (ty := .int) (C := RX6) (T := TX6) (N := 13) hx hb hts inX6 tyX6 tyX6_ok nmX6 hown hK hP hD hS 0 pgw_o0 rfl 1 (by decide) fl37 (fun _ h9 => h9) rfl (by decide +kernel) rfl rfl (Nat.le_of_ble_eq_true rfl) dX6_clear_7 (fun H locs hP hD hS => ?_)
  have hP : va_P D vwCl (pgw y ad (sI (sI σ 61 0) 62 0)) H := x_trP hP pgw_p0_1
  have hD : va_D A (pgw y ad (sI (sI σ 61 0) 62 0)) := x_trD hD pgw_p0_1
  refine lv_aload_n hx hb dX6_clear_10 rfl (lv_at hl 0 rfl) ?_
  refine lv_iconst (v := 0) hx hb dX6_clear_11 (by decide) ?_
  refine va_put (D := D) (ci := 5) (v := .int 0) (ty := .int) (C := RX6) (T := TX6) (N := 13) hx hb hts inX6 tyX6 tyX6_ok nmX6 hown hK hP hD hS 0 pgw_o0 rfl 2 (by decide) fl40 (fun _ h9 => h9) rfl (by decide +kernel) rfl rfl (Nat.le_of_ble_eq_true rfl) dX6_clear_12 (fun H locs hP hD hS => ?_)
  have hP : va_P D vwCl (pgw y ad (sI (sI (sI σ 61 0) 62 0) 63 0)) H := x_trP hP pgw_p0_2
  have hD : va_D A (pgw y ad (sI (sI (sI σ 61 0) 62 0) 63 0)) := x_trD hD pgw_p0_2
  refine lv_aload_n hx hb dX6_clear_15 rfl (lv_at hl 0 rfl) ?_
  refine lv_iconst (v := 0) hx hb dX6_clear_16 (by decide) ?_
  refine va_put (D := D) (ci := 5) (v := .int 0) (ty := .int) (C := RX6) (T := TX6) (N := 13) hx hb hts inX6 tyX6 tyX6_ok nmX6 hown hK hP hD hS 0 pgw_o0 rfl 3 (by decide) fl43 (fun _ h9 => h9) rfl (by decide +kernel) rfl rfl (Nat.le_of_ble_eq_true rfl) dX6_clear_17 (fun H locs hP hD hS => ?_)
  have hP : va_P D vwCl (pgw y ad (sI (sI (sI (sI σ 61 0) 62 0) 63 0) 64 0)) H := x_trP hP pgw_p0_3
  have hD : va_D A (pgw y ad (sI (sI (sI (sI σ 61 0) 62 0) 63 0) 64 0)) := x_trD hD pgw_p0_3
  refine lv_aload_n hx hb dX6_clear_20 rfl (lv_at hl 0 rfl) ?_
  refine lv_iconst (v := 0) hx hb dX6_clear_21 (by decide) ?_
  refine va_put (D := D) (ci := 5) (v := .int 0) (ty := .int) (C := RX6) (T := TX6) (N := 13) hx hb hts inX6 tyX6 tyX6_ok nmX6 hown hK hP hD hS 0 pgw_o0 rfl 4 (by decide) fl46 (fun _ h9 => h9) rfl (by decide +kernel) rfl rfl (Nat.le_of_ble_eq_true rfl) dX6_clear_22 (fun H locs hP hD hS => ?_)
  have hP : va_P D vwCl (pgw y ad (sI (sI (sI (sI (sI σ 61 0) 62 0) 63 0) 64 0) 65 0)) H := x_trP hP pgw_p0_4
  have hD : va_D A (pgw y ad (sI (sI (sI (sI (sI σ 61 0) 62 0) 63 0) 64 0) 65 0)) := x_trD hD pgw_p0_4
  refine lv_aload_n hx hb dX6_clear_25 rfl (lv_at hl 0 rfl) ?_
  refine lv_iconst (v := 0) hx hb dX6_clear_26 (by decide) ?_
  refine va_put (D := D) (ci := 5) (v := .int 0) (ty := .int) (C := RX6) (T := TX6) (N := 13) hx hb hts inX6 tyX6 tyX6_ok nmX6 hown hK hP hD hS 0 pgw_o0 rfl 7 (by decide) fl49 (fun _ h9 => h9) rfl (by decide +kernel) rfl rfl (Nat.le_of_ble_eq_true rfl) dX6_clear_27 (fun H locs hP hD hS => ?_)
  have hP : va_P D vwCl (pgw y ad (sI (sI (sI (sI (sI (sI σ 61 0) 62 0) 63 0) 64 0) 65 0) 68 0)) H := x_trP hP pgw_p0_7
  have hD : va_D A (pgw y ad (sI (sI (sI (sI (sI (sI σ 61 0) 62 0) 63 0) 64 0) 65 0) 68 0)) := x_trD hD pgw_p0_7
  refine lv_aload_n hx hb dX6_clear_30 rfl (lv_at hl 0 rfl) ?_
  refine lv_iconst (v := 0) hx hb dX6_clear_31 (by decide) ?_
  refine va_put (D := D) (ci := 5) (v := .int 0) (ty := .int) (C := RX6) (T := TX6) (N := 13) hx hb hts inX6 tyX6 tyX6_ok nmX6 hown hK hP hD hS 0 pgw_o0 rfl 5 (by decide) fl52 (fun _ h9 => h9) rfl (by decide +kernel) rfl rfl (Nat.le_of_ble_eq_true rfl) dX6_clear_32 (fun H locs hP hD hS => ?_)
  have hP : va_P D vwCl (pgw y ad (sI (sI (sI (sI (sI (sI (sI σ 61 0) 62 0) 63 0) 64 0) 65 0) 68 0) 66 0)) H := x_trP hP pgw_p0_5
  have hD : va_D A (pgw y ad (sI (sI (sI (sI (sI (sI (sI σ 61 0) 62 0) 63 0) 64 0) 65 0) 68 0) 66 0)) := x_trD hD pgw_p0_5
  exact x_vretW (u := (0, 0, 0, 0, 0, 0, 0)) hx hb hr hQ (by (try dsimp only); exact ⟨rfl, rfl, rfl, rfl, rfl⟩) hP hD hK hS dX6_clear_35 hlocks

def v_w_emit : List Cond := .code yX6_emit cX6_emit 3 none :: ([.fieldLink RX6 52 "SlopeRunner$Program" "length" "I", .fieldLink RX6 27 "SlopeRunner$Program" "code" "[I"] ++ wsX60)
set_option maxHeartbeats 4000000 in
set_option maxRecDepth 100000 in
theorem w_emit (l : Launch) (D : va_G) (y : Nat → ClassId) (sz : Nat) (ad : Nat → Nat) (σ : OS) (q i : Int32) (hlength0 : 0 ≤ (σ.1 66).toInt) (hlength1 : (σ.1 66).toInt ≤ 700) : Met l yX6_emit v_w_emit ({ frames := 0, cells := 0, slots := 0, locals := 0 } : Room) (va_Pc [.ref (ad 60), .int q, .int i] (xPre D (xT y) (pgw y ad σ) sz)) (va_Qv (fun (u : (Nat → Int32) × Int32) => 0 ≤ u.2.toInt ∧ u.2.toInt ≤ 700) (fun (u : (Nat → Int32) × Int32) => xB D (xT y) (va_A (pgw y ad σ) sz) (pgw y ad (sI (tI σ 72 u.1) 66 u.2))) (va_A (pgw y ad σ) sz)) 0 0 (va_A (pgw y ad σ) sz) := by
  refine x_metv (cc := cX6_emit) (maxL := 3) (by decide) rfl (Nat.le_of_ble_eq_true rfl) ?_
  intro p e s m below meth c A H locs Q hx hb hml hown hts hr hlocks hmn hA hP hK hD hS ls hl hQ
  have hl : lv_has ls 3 [(0, .ref (ad 60)), (1, .int q), (2, .int i)] := hl
  have fl52 := hts (.fieldLink RX6 52 "SlopeRunner$Program" "length" "I") (List.mem_of_getElem? (i := 1) rfl)
  have inX6 : ∀ w ∈ wsX60, w ∈ v_w_emit := (fun w h => List.mem_cons_of_mem _ (List.mem_append_right _ h))
  have kk_700 : (700 : Int32).toInt = 700 := rfl
  have fl27 := hts (.fieldLink RX6 27 "SlopeRunner$Program" "code" "[I") (List.mem_of_getElem? (i := 2) rfl)
  have kk_1 : (1 : Int32).toInt = 1 := rfl
  refine lv_aload_n hx hb dX6_emit_0 rfl (lv_at hl 0 rfl) ?_
  refine va_get (D := D) (ci := 5) (v := .int (σ.1 66)) (C := RX6) (T := TX6) (N := 13) hx hb hts inX6 hown hK hP 0 pgw_o0 rfl 5 (by decide) fl52 (fun _ h9 => h9) rfl dX6_emit_1 ?_
  refine lv_sipush (v := 700) hx hb dX6_emit_4 (by decide) ?_
  refine lv_icmp_ge (tgt := 39) hx hb dX6_emit_7 (by decide) (fun c_1 => ?_) (fun c_1 => ?_)
  · have kc_1 : (σ.1 66).toInt ≥ 700 := by have h9 := c_1; simp only [ge_iff_le, gt_iff_lt, x_lt, x_le, x_eq, ne_eq, Int32.not_lt, Int32.not_le] at h9; simp only [Int32.reduceToInt] at h9; omega
    have hP : va_P D vwCl (pgw y ad (sI (tI σ 72 (σ.2.2.1 72)) 66 (σ.1 66))) H := hP
    have hD : va_D A (pgw y ad (sI (tI σ 72 (σ.2.2.1 72)) 66 (σ.1 66))) := hD
    exact x_vretW (u := ((σ.2.2.1 72), (σ.1 66))) hx hb hr hQ (by (try dsimp only); exact ⟨by omega, by omega⟩) hP hD hK hS dX6_emit_39 hlocks
  · have kc_1 : (σ.1 66).toInt < 700 := by have h9 := c_1; simp only [ge_iff_le, gt_iff_lt, x_lt, x_le, x_eq, ne_eq, Int32.not_lt, Int32.not_le] at h9; simp only [Int32.reduceToInt] at h9; omega
    refine lv_aload_n hx hb dX6_emit_10 rfl (lv_at hl 0 rfl) ?_
    refine va_get (D := D) (ci := 5) (v := .ref (ad 72)) (C := RX6) (T := TX6) (N := 13) hx hb hts inX6 hown hK hP 0 pgw_o0 rfl 11 (by decide) fl27 (fun _ h9 => h9) rfl dX6_emit_11 ?_
    refine lv_aload_n hx hb dX6_emit_14 rfl (lv_at hl 0 rfl) ?_
    refine va_get (D := D) (ci := 5) (v := .int (σ.1 66)) (C := RX6) (T := TX6) (N := 13) hx hb hts inX6 hown hK hP 0 pgw_o0 rfl 5 (by decide) fl52 (fun _ h9 => h9) rfl dX6_emit_15 ?_
    refine lv_iload_n hx hb dX6_emit_18 rfl (lv_at hl 1 rfl) ?_
    refine lv_bipush (v := 12) hx hb dX6_emit_19 (by decide) ?_
    refine lv_ishl hx hb dX6_emit_21 ?_
    refine lv_topi (fun i_2 ei_2 => ?_)
    refine lv_iload_n hx hb dX6_emit_22 rfl (lv_at hl 2 rfl) ?_
    refine lv_sipush (v := 4095) hx hb dX6_emit_23 (by decide) ?_
    refine lv_iand hx hb dX6_emit_26 ?_
    refine lv_topi (fun i_3 ei_3 => ?_)
    refine lv_ior hx hb dX6_emit_27 ?_
    refine lv_topi (fun i_4 ei_4 => ?_)
    refine va_iast hx hb hK hP hD hS 5 2 pgw_a5 rfl (x_in (by omega) (by omega)) dX6_emit_28 (fun H locs hP hD hS => ?_)
    obtain ⟨f_5, ef_5⟩ : ∃ z9 : Nat → Int32, z9 = (upd (σ.2.2.1 72) (Int32.toNatClampNeg (σ.1 66)) i_4) := ⟨_, rfl⟩
    have hP : va_P D vwCl (pgw y ad (tI σ 72 f_5)) H := by rw [ef_5]; exact x_trP hP pgw_s5
    have hD : va_D A (pgw y ad (tI σ 72 f_5)) := by rw [ef_5]; exact x_trD hD pgw_s5
    refine lv_aload_n hx hb dX6_emit_29 rfl (lv_at hl 0 rfl) ?_
    refine lv_dup hx hb dX6_emit_30 rfl ?_
    refine va_get (D := D) (ci := 5) (v := .int (σ.1 66)) (C := RX6) (T := TX6) (N := 13) hx hb hts inX6 hown hK hP 0 pgw_o0 rfl 5 (by decide) fl52 (fun _ h9 => h9) rfl dX6_emit_31 ?_
    refine lv_iconst (v := 1) hx hb dX6_emit_34 (by decide) ?_
    refine lv_iadd hx hb dX6_emit_35 ?_
    refine lv_topi (fun i_6 ei_6 => ?_)
    have vi_6 : i_6.toInt = (σ.1 66).toInt + 1 := by have h9 := x_add ei_6 (by omega) (by omega); omega
    refine va_put (D := D) (ci := 5) (v := .int i_6) (ty := .int) (C := RX6) (T := TX6) (N := 13) hx hb hts inX6 tyX6 tyX6_ok nmX6 hown hK hP hD hS 0 pgw_o0 rfl 5 (by decide) fl52 (fun _ h9 => h9) rfl (by decide +kernel) rfl rfl (Nat.le_of_ble_eq_true rfl) dX6_emit_36 (fun H locs hP hD hS => ?_)
    have hP : va_P D vwCl (pgw y ad (sI (tI σ 72 f_5) 66 i_6)) H := x_trP hP pgw_p0_5
    have hD : va_D A (pgw y ad (sI (tI σ 72 f_5) 66 i_6)) := x_trD hD pgw_p0_5
    exact x_vretW (u := (f_5, i_6)) hx hb hr hQ (by (try dsimp only); exact ⟨by omega, by omega⟩) hP hD hK hS dX6_emit_39 hlocks

def v_w_emitNumber : List Cond := .code yX6_emitNumber cX6_emitNumber 2 none :: ([.fieldLink RX6 46 "SlopeRunner$Program" "numbers" "I", .fieldLink RX6 24 "SlopeRunner$Program" "number" "[I"] ++ ((wsV RX6 55 RX6 yX6_emit v_w_emit) ++ wsX60))
theorem g_w_emitNumber_0 : GoodIn v_w_emitNumber (wsV RX6 55 RX6 yX6_emit v_w_emit) := goodIn_sub (fun w h => List.mem_cons_of_mem _ (List.mem_append_right _ (List.mem_append_left _ h))) (by decide +kernel)
set_option maxHeartbeats 4000000 in
set_option maxRecDepth 100000 in
theorem w_emitNumber (l : Launch) (D : va_G) (y : Nat → ClassId) (sz : Nat) (ad : Nat → Nat) (σ : OS) (q : Int32) (hlength0 : 0 ≤ (σ.1 66).toInt) (hlength1 : (σ.1 66).toInt ≤ 700) (hnumbers0 : 0 ≤ (σ.1 65).toInt) (hnumbers1 : (σ.1 65).toInt ≤ 350) : Met l yX6_emitNumber v_w_emitNumber ({ frames := 1, cells := 0, slots := 0, locals := 22 } : Room) (va_Pc [.ref (ad 60), .int q] (xPre D (xT y) (pgw y ad σ) sz)) (va_Qv (fun (u : (Nat → Int32) × Int32 × (Nat → Int32) × Int32) => 0 ≤ u.2.2.2.toInt ∧ u.2.2.2.toInt ≤ 700 ∧ 0 ≤ u.2.1.toInt ∧ u.2.1.toInt ≤ 350) (fun (u : (Nat → Int32) × Int32 × (Nat → Int32) × Int32) => xB D (xT y) (va_A (pgw y ad σ) sz) (pgw y ad (sI (tI (sI (tI σ 71 u.1) 65 u.2.1) 72 u.2.2.1) 66 u.2.2.2))) (va_A (pgw y ad σ) sz)) 0 0 (va_A (pgw y ad σ) sz) := by
  refine x_metv (cc := cX6_emitNumber) (maxL := 2) (by decide) rfl (Nat.le_of_ble_eq_true rfl) ?_
  intro p e s m below meth c A H locs Q hx hb hml hown hts hr hlocks hmn hA hP hK hD hS ls hl hQ
  have hl : lv_has ls 2 [(0, .ref (ad 60)), (1, .int q)] := hl
  have fl46 := hts (.fieldLink RX6 46 "SlopeRunner$Program" "numbers" "I") (List.mem_of_getElem? (i := 1) rfl)
  have inX6 : ∀ w ∈ wsX60, w ∈ v_w_emitNumber := (fun w h => List.mem_cons_of_mem _ (List.mem_append_right _ (List.mem_append_right _ h)))
  have kk_350 : (350 : Int32).toInt = 350 := rfl
  have fl24 := hts (.fieldLink RX6 24 "SlopeRunner$Program" "number" "[I") (List.mem_of_getElem? (i := 2) rfl)
  have kk_0 : (0 : Int32).toInt = 0 := rfl
  have kk_1 : (1 : Int32).toInt = 1 := rfl
  refine lv_aload_n hx hb dX6_emitNumber_0 rfl (lv_at hl 0 rfl) ?_
  refine va_get (D := D) (ci := 5) (v := .int (σ.1 65)) (C := RX6) (T := TX6) (N := 13) hx hb hts inX6 hown hK hP 0 pgw_o0 rfl 4 (by decide) fl46 (fun _ h9 => h9) rfl dX6_emitNumber_1 ?_
  refine lv_sipush (v := 350) hx hb dX6_emitNumber_4 (by decide) ?_
  refine lv_icmp_ge (tgt := 39) hx hb dX6_emitNumber_7 (by decide) (fun c_1 => ?_) (fun c_1 => ?_)
  · have kc_1 : (σ.1 65).toInt ≥ 350 := by have h9 := c_1; simp only [ge_iff_le, gt_iff_lt, x_lt, x_le, x_eq, ne_eq, Int32.not_lt, Int32.not_le] at h9; simp only [Int32.reduceToInt] at h9; omega
    have hP : va_P D vwCl (pgw y ad (sI (tI (sI (tI σ 71 (σ.2.2.1 71)) 65 (σ.1 65)) 72 (σ.2.2.1 72)) 66 (σ.1 66))) H := hP
    have hD : va_D A (pgw y ad (sI (tI (sI (tI σ 71 (σ.2.2.1 71)) 65 (σ.1 65)) 72 (σ.2.2.1 72)) 66 (σ.1 66))) := hD
    exact x_vretW (u := ((σ.2.2.1 71), (σ.1 65), (σ.2.2.1 72), (σ.1 66))) hx hb hr hQ (by (try dsimp only); exact ⟨by omega, by omega, by omega, by omega⟩) hP hD hK hS dX6_emitNumber_39 hlocks
  · have kc_1 : (σ.1 65).toInt < 350 := by have h9 := c_1; simp only [ge_iff_le, gt_iff_lt, x_lt, x_le, x_eq, ne_eq, Int32.not_lt, Int32.not_le] at h9; simp only [Int32.reduceToInt] at h9; omega
    refine lv_aload_n hx hb dX6_emitNumber_10 rfl (lv_at hl 0 rfl) ?_
    refine va_get (D := D) (ci := 5) (v := .ref (ad 71)) (C := RX6) (T := TX6) (N := 13) hx hb hts inX6 hown hK hP 0 pgw_o0 rfl 10 (by decide) fl24 (fun _ h9 => h9) rfl dX6_emitNumber_11 ?_
    refine lv_aload_n hx hb dX6_emitNumber_14 rfl (lv_at hl 0 rfl) ?_
    refine va_get (D := D) (ci := 5) (v := .int (σ.1 65)) (C := RX6) (T := TX6) (N := 13) hx hb hts inX6 hown hK hP 0 pgw_o0 rfl 4 (by decide) fl46 (fun _ h9 => h9) rfl dX6_emitNumber_15 ?_
    refine lv_iload_n hx hb dX6_emitNumber_18 rfl (lv_at hl 1 rfl) ?_
    refine va_iast hx hb hK hP hD hS 4 2 pgw_a4 rfl (x_in (by omega) (by omega)) dX6_emitNumber_19 (fun H locs hP hD hS => ?_)
    obtain ⟨f_2, ef_2⟩ : ∃ z9 : Nat → Int32, z9 = (upd (σ.2.2.1 71) (Int32.toNatClampNeg (σ.1 65)) q) := ⟨_, rfl⟩
    have hP : va_P D vwCl (pgw y ad (tI σ 71 f_2)) H := by rw [ef_2]; exact x_trP hP pgw_s4
    have hD : va_D A (pgw y ad (tI σ 71 f_2)) := by rw [ef_2]; exact x_trD hD pgw_s4
    refine lv_aload_n hx hb dX6_emitNumber_20 rfl (lv_at hl 0 rfl) ?_
    refine lv_iconst (v := 0) hx hb dX6_emitNumber_21 (by decide) ?_
    refine lv_aload_n hx hb dX6_emitNumber_22 rfl (lv_at hl 0 rfl) ?_
    refine va_get (D := D) (ci := 5) (v := .int (σ.1 65)) (C := RX6) (T := TX6) (N := 13) hx hb hts inX6 hown hK hP 0 pgw_o0 rfl 4 (by decide) fl46 (fun _ h9 => h9) rfl dX6_emitNumber_23 ?_
    refine x_callvW (va_runV (As := [.int 0, .int (σ.1 65)]) (rest := []) ⟨hx, hb, hml, hown, hts⟩ (w_emit l D y H.size ad (tI σ 71 f_2) 0 (σ.1 65) (show 0 ≤ ((σ.1 66)).toInt from by first | omega | decide) (show ((σ.1 66)).toInt ≤ 700 from by first | omega | decide)) (cwV 2 hts g_w_emitNumber_0 rfl rfl rfl (by decide +kernel) ⟨Nat.le_of_ble_eq_true rfl, Nat.le_of_ble_eq_true rfl⟩) (x_preV (q := (RX6, TX6, 13)) hK hP hD (ci := 5) (q0 := 0) rfl pgw_o0) rfl rfl hl.1 rfl (lv_room (Nat.le_of_ble_eq_true rfl)) dX6_emitNumber_26 ⟨Nat.le_of_ble_eq_true rfl, Nat.le_of_ble_eq_true rfl⟩) hP hD hS hA (fun u H locs hw hP hD hS => ?_)
    obtain ⟨f_3, n_4⟩ := u
    try dsimp only at hw
    have hP : va_P D vwCl (pgw y ad (sI (tI (tI σ 71 f_2) 72 f_3) 66 n_4)) H := hP
    have hD : va_D A (pgw y ad (sI (tI (tI σ 71 f_2) 72 f_3) 66 n_4)) := hD
    replace hw : 0 ≤ n_4.toInt ∧ n_4.toInt ≤ 700 := hw
    refine lv_aload_n hx hb dX6_emitNumber_29 rfl (lv_at hl 0 rfl) ?_
    refine lv_dup hx hb dX6_emitNumber_30 rfl ?_
    refine va_get (D := D) (ci := 5) (v := .int (σ.1 65)) (C := RX6) (T := TX6) (N := 13) hx hb hts inX6 hown hK hP 0 pgw_o0 rfl 4 (by decide) fl46 (fun _ h9 => h9) rfl dX6_emitNumber_31 ?_
    refine lv_iconst (v := 1) hx hb dX6_emitNumber_34 (by decide) ?_
    refine lv_iadd hx hb dX6_emitNumber_35 ?_
    refine lv_topi (fun i_5 ei_5 => ?_)
    have vi_5 : i_5.toInt = (σ.1 65).toInt + 1 := by have h9 := x_add ei_5 (by omega) (by omega); omega
    refine va_put (D := D) (ci := 5) (v := .int i_5) (ty := .int) (C := RX6) (T := TX6) (N := 13) hx hb hts inX6 tyX6 tyX6_ok nmX6 hown hK hP hD hS 0 pgw_o0 rfl 4 (by decide) fl46 (fun _ h9 => h9) rfl (by decide +kernel) rfl rfl (Nat.le_of_ble_eq_true rfl) dX6_emitNumber_36 (fun H locs hP hD hS => ?_)
    have hP : va_P D vwCl (pgw y ad (sI (sI (tI (tI σ 71 f_2) 72 f_3) 66 n_4) 65 i_5)) H := x_trP hP pgw_p0_4
    have hD : va_D A (pgw y ad (sI (sI (tI (tI σ 71 f_2) 72 f_3) 66 n_4) 65 i_5)) := x_trD hD pgw_p0_4
    have hP : va_P D vwCl (pgw y ad (sI (tI (sI (tI σ 71 f_2) 65 i_5) 72 f_3) 66 n_4)) H := hP
    have hD : va_D A (pgw y ad (sI (tI (sI (tI σ 71 f_2) 65 i_5) 72 f_3) 66 n_4)) := hD
    exact x_vretW (u := (f_2, i_5, f_3, n_4)) hx hb hr hQ (by (try dsimp only); exact ⟨by omega, by omega, by omega, by omega⟩) hP hD hK hS dX6_emitNumber_39 hlocks

def v_w_aimHere : List Cond := .code yX6_aimHere cX6_aimHere 2 none :: ([.fieldLink RX6 52 "SlopeRunner$Program" "length" "I", .fieldLink RX6 27 "SlopeRunner$Program" "code" "[I"] ++ wsX60)
set_option maxHeartbeats 4000000 in
set_option maxRecDepth 100000 in
theorem w_aimHere (l : Launch) (D : va_G) (y : Nat → ClassId) (sz : Nat) (ad : Nat → Nat) (σ : OS) (q : Int32) (hlength0 : 0 ≤ (σ.1 66).toInt) (hlength1 : (σ.1 66).toInt ≤ 700) : Met l yX6_aimHere v_w_aimHere ({ frames := 0, cells := 0, slots := 0, locals := 0 } : Room) (va_Pc [.ref (ad 60), .int q] (xPre D (xT y) (pgw y ad σ) sz)) (va_Qv (fun (u : (Nat → Int32)) => True) (fun (u : (Nat → Int32)) => xB D (xT y) (va_A (pgw y ad σ) sz) (pgw y ad (tI σ 72 u))) (va_A (pgw y ad σ) sz)) 0 0 (va_A (pgw y ad σ) sz) := by
  refine x_metv (cc := cX6_aimHere) (maxL := 2) (by decide) rfl (Nat.le_of_ble_eq_true rfl) ?_
  intro p e s m below meth c A H locs Q hx hb hml hown hts hr hlocks hmn hA hP hK hD hS ls hl hQ
  have hl : lv_has ls 2 [(0, .ref (ad 60)), (1, .int q)] := hl
  have kk_0 : (0 : Int32).toInt = 0 := rfl
  have fl52 := hts (.fieldLink RX6 52 "SlopeRunner$Program" "length" "I") (List.mem_of_getElem? (i := 1) rfl)
  have inX6 : ∀ w ∈ wsX60, w ∈ v_w_aimHere := (fun w h => List.mem_cons_of_mem _ (List.mem_append_right _ h))
  have fl27 := hts (.fieldLink RX6 27 "SlopeRunner$Program" "code" "[I") (List.mem_of_getElem? (i := 2) rfl)
  refine lv_iload_n hx hb dX6_aimHere_0 rfl (lv_at hl 1 rfl) ?_
  refine lv_if_lt (tgt := 33) hx hb dX6_aimHere_1 (by decide) (fun c_1 => ?_) (fun c_1 => ?_)
  · have kc_1 : q.toInt < 0 := by have h9 := c_1; simp only [ge_iff_le, gt_iff_lt, x_lt, x_le, x_eq, ne_eq, Int32.not_lt, Int32.not_le] at h9; simp only [Int32.reduceToInt] at h9; omega
    have hP : va_P D vwCl (pgw y ad (tI σ 72 (σ.2.2.1 72))) H := hP
    have hD : va_D A (pgw y ad (tI σ 72 (σ.2.2.1 72))) := hD
    exact x_vretW (u := (σ.2.2.1 72)) hx hb hr hQ trivial hP hD hK hS dX6_aimHere_33 hlocks
  · have kc_1 : q.toInt ≥ 0 := by have h9 := c_1; simp only [ge_iff_le, gt_iff_lt, x_lt, x_le, x_eq, ne_eq, Int32.not_lt, Int32.not_le] at h9; simp only [Int32.reduceToInt] at h9; omega
    refine lv_iload_n hx hb dX6_aimHere_4 rfl (lv_at hl 1 rfl) ?_
    refine lv_aload_n hx hb dX6_aimHere_5 rfl (lv_at hl 0 rfl) ?_
    refine va_get (D := D) (ci := 5) (v := .int (σ.1 66)) (C := RX6) (T := TX6) (N := 13) hx hb hts inX6 hown hK hP 0 pgw_o0 rfl 5 (by decide) fl52 (fun _ h9 => h9) rfl dX6_aimHere_6 ?_
    refine lv_icmp_ge (tgt := 33) hx hb dX6_aimHere_9 (by decide) (fun c_2 => ?_) (fun c_2 => ?_)
    · have kc_2 : q.toInt ≥ (σ.1 66).toInt := by have h9 := c_2; simp only [ge_iff_le, gt_iff_lt, x_lt, x_le, x_eq, ne_eq, Int32.not_lt, Int32.not_le] at h9; omega
      have hP : va_P D vwCl (pgw y ad (tI σ 72 (σ.2.2.1 72))) H := hP
      have hD : va_D A (pgw y ad (tI σ 72 (σ.2.2.1 72))) := hD
      exact x_vretW (u := (σ.2.2.1 72)) hx hb hr hQ trivial hP hD hK hS dX6_aimHere_33 hlocks
    · have kc_2 : q.toInt < (σ.1 66).toInt := by have h9 := c_2; simp only [ge_iff_le, gt_iff_lt, x_lt, x_le, x_eq, ne_eq, Int32.not_lt, Int32.not_le] at h9; omega
      refine lv_aload_n hx hb dX6_aimHere_12 rfl (lv_at hl 0 rfl) ?_
      refine va_get (D := D) (ci := 5) (v := .ref (ad 72)) (C := RX6) (T := TX6) (N := 13) hx hb hts inX6 hown hK hP 0 pgw_o0 rfl 11 (by decide) fl27 (fun _ h9 => h9) rfl dX6_aimHere_13 ?_
      refine lv_iload_n hx hb dX6_aimHere_16 rfl (lv_at hl 1 rfl) ?_
      refine lv_aload_n hx hb dX6_aimHere_17 rfl (lv_at hl 0 rfl) ?_
      refine va_get (D := D) (ci := 5) (v := .ref (ad 72)) (C := RX6) (T := TX6) (N := 13) hx hb hts inX6 hown hK hP 0 pgw_o0 rfl 11 (by decide) fl27 (fun _ h9 => h9) rfl dX6_aimHere_18 ?_
      refine lv_iload_n hx hb dX6_aimHere_21 rfl (lv_at hl 1 rfl) ?_
      refine va_iald hx hb hK hP 5 2 pgw_a5 rfl (x_in (by omega) (by omega)) dX6_aimHere_22 ?_
      refine lv_topi (fun i_3 ei_3 => ?_)
      have ei_3 : i_3 = (σ.2.2.1 72) (Int32.toNatClampNeg q) := ei_3
      refine lv_sipush (v := (-4096)) hx hb dX6_aimHere_23 (by decide) ?_
      refine lv_iand hx hb dX6_aimHere_26 ?_
      refine lv_topi (fun i_4 ei_4 => ?_)
      refine lv_aload_n hx hb dX6_aimHere_27 rfl (lv_at hl 0 rfl) ?_
      refine va_get (D := D) (ci := 5) (v := .int (σ.1 66)) (C := RX6) (T := TX6) (N := 13) hx hb hts inX6 hown hK hP 0 pgw_o0 rfl 5 (by decide) fl52 (fun _ h9 => h9) rfl dX6_aimHere_28 ?_
      refine lv_ior hx hb dX6_aimHere_31 ?_
      refine lv_topi (fun i_5 ei_5 => ?_)
      refine va_iast hx hb hK hP hD hS 5 2 pgw_a5 rfl (x_in (by omega) (by omega)) dX6_aimHere_32 (fun H locs hP hD hS => ?_)
      obtain ⟨f_6, ef_6⟩ : ∃ z9 : Nat → Int32, z9 = (upd (σ.2.2.1 72) (Int32.toNatClampNeg q) i_5) := ⟨_, rfl⟩
      have hP : va_P D vwCl (pgw y ad (tI σ 72 f_6)) H := by rw [ef_6]; exact x_trP hP pgw_s5
      have hD : va_D A (pgw y ad (tI σ 72 f_6)) := by rw [ef_6]; exact x_trD hD pgw_s5
      exact x_vretW (u := f_6) hx hb hr hQ trivial hP hD hK hS dX6_aimHere_33 hlocks

def v_w_swap : List Cond := .code yX6_swap cX6_swap 5 none :: ([.fieldLink RX6 52 "SlopeRunner$Program" "length" "I", .fieldLink RX6 27 "SlopeRunner$Program" "code" "[I", .fieldLink RX6 30 "SlopeRunner$Program" "aside" "[I", .methodLink RX6 59 arraycopyName, .native arraycopyName, .static arraycopyName, .initialized "java/lang/System"] ++ wsX60)
set_option maxHeartbeats 4000000 in
set_option maxRecDepth 100000 in
theorem w_swap (l : Launch) (D : va_G) (y : Nat → ClassId) (sz : Nat) (ad : Nat → Nat) (σ : OS) (a b : Int32) (ha0 : 0 ≤ a.toInt) (ha1 : a.toInt ≤ 700) (hb0 : 0 ≤ b.toInt) (hb1 : b.toInt ≤ 700) (hlength0 : 0 ≤ (σ.1 66).toInt) (hlength1 : (σ.1 66).toInt ≤ 700) : Met l yX6_swap v_w_swap ({ frames := 1, cells := 0, slots := 0, locals := 80 } : Room) (va_Pc [.ref (ad 60), .int a, .int b] (xPre D (xT y) (pgw y ad σ) sz)) (va_Qv (fun (u : (Nat → Int32) × (Nat → Int32)) => True) (fun (u : (Nat → Int32) × (Nat → Int32)) => xB D (xT y) (va_A (pgw y ad σ) sz) (pgw y ad (tI (tI σ 72 u.1) 73 u.2))) (va_A (pgw y ad σ) sz)) 0 0 (va_A (pgw y ad σ) sz) := by
  refine x_metv (cc := cX6_swap) (maxL := 5) (by decide) rfl (Nat.le_of_ble_eq_true rfl) ?_
  intro p e s m below meth c A H locs Q hx hb hml hown hts hr hlocks hmn hA hP hK hD hS ls hl hQ
  have hl : lv_has ls 5 [(0, .ref (ad 60)), (1, .int a), (2, .int b)] := hl
  have fl52 := hts (.fieldLink RX6 52 "SlopeRunner$Program" "length" "I") (List.mem_of_getElem? (i := 1) rfl)
  have inX6 : ∀ w ∈ wsX60, w ∈ v_w_swap := (fun w h => List.mem_cons_of_mem _ (List.mem_append_right _ h))
  have kk_0 : (0 : Int32).toInt = 0 := rfl
  have fl27 := hts (.fieldLink RX6 27 "SlopeRunner$Program" "code" "[I") (List.mem_of_getElem? (i := 2) rfl)
  have fl30 := hts (.fieldLink RX6 30 "SlopeRunner$Program" "aside" "[I") (List.mem_of_getElem? (i := 3) rfl)
  refine lv_iload_n hx hb dX6_swap_0 rfl (lv_at hl 2 rfl) ?_
  refine lv_iload_n hx hb dX6_swap_1 rfl (lv_at hl 1 rfl) ?_
  refine lv_isub hx hb dX6_swap_2 ?_
  refine lv_topi (fun i_1 ei_1 => ?_)
  have vi_1 : i_1.toInt = b.toInt - a.toInt := by have h9 := x_sub ei_1 (by omega) (by omega); omega
  refine lv_istore_n (lv' := [(3, .int i_1), (0, .ref (ad 60)), (1, .int a), (2, .int b)]) hx hb dX6_swap_3 rfl hl (by decide) rfl (fun ls hl => ?_)
  refine lv_aload_n hx hb dX6_swap_4 rfl (lv_at hl 1 rfl) ?_
  refine va_get (D := D) (ci := 5) (v := .int (σ.1 66)) (C := RX6) (T := TX6) (N := 13) hx hb hts inX6 hown hK hP 0 pgw_o0 rfl 5 (by decide) fl52 (fun _ h9 => h9) rfl dX6_swap_5 ?_
  refine lv_iload_n hx hb dX6_swap_8 rfl (lv_at hl 3 rfl) ?_
  refine lv_isub hx hb dX6_swap_9 ?_
  refine lv_topi (fun i_2 ei_2 => ?_)
  have vi_2 : i_2.toInt = (σ.1 66).toInt - b.toInt := by have h9 := x_sub ei_2 (by omega) (by omega); omega
  refine lv_istore (lv' := [(4, .int i_2), (3, .int i_1), (0, .ref (ad 60)), (1, .int a), (2, .int b)]) hx hb dX6_swap_10 hl (by decide) rfl (fun ls hl => ?_)
  refine lv_iload_n hx hb dX6_swap_12 rfl (lv_at hl 3 rfl) ?_
  refine lv_if_lt (tgt := 25) hx hb dX6_swap_13 (by decide) (fun c_3 => ?_) (fun c_3 => ?_)
  · have kc_3 : a.toInt < 0 := by have h9 := c_3; simp only [ge_iff_le, gt_iff_lt, x_lt, x_le, x_eq, ne_eq, Int32.not_lt, Int32.not_le] at h9; simp only [Int32.reduceToInt] at h9; omega
    have hP : va_P D vwCl (pgw y ad (tI (tI σ 72 (σ.2.2.1 72)) 73 (σ.2.2.1 73))) H := hP
    have hD : va_D A (pgw y ad (tI (tI σ 72 (σ.2.2.1 72)) 73 (σ.2.2.1 73))) := hD
    exact x_vretW (u := ((σ.2.2.1 72), (σ.2.2.1 73))) hx hb hr hQ trivial hP hD hK hS dX6_swap_25 hlocks
  · have kc_3 : a.toInt ≥ 0 := by have h9 := c_3; simp only [ge_iff_le, gt_iff_lt, x_lt, x_le, x_eq, ne_eq, Int32.not_lt, Int32.not_le] at h9; simp only [Int32.reduceToInt] at h9; omega
    refine lv_iload_n hx hb dX6_swap_16 rfl (lv_at hl 1 rfl) ?_
    refine lv_if_le (tgt := 25) hx hb dX6_swap_17 (by decide) (fun c_4 => ?_) (fun c_4 => ?_)
    · have kc_4 : i_1.toInt ≤ 0 := by have h9 := c_4; simp only [ge_iff_le, gt_iff_lt, x_lt, x_le, x_eq, ne_eq, Int32.not_lt, Int32.not_le] at h9; simp only [Int32.reduceToInt] at h9; omega
      have hP : va_P D vwCl (pgw y ad (tI (tI σ 72 (σ.2.2.1 72)) 73 (σ.2.2.1 73))) H := hP
      have hD : va_D A (pgw y ad (tI (tI σ 72 (σ.2.2.1 72)) 73 (σ.2.2.1 73))) := hD
      exact x_vretW (u := ((σ.2.2.1 72), (σ.2.2.1 73))) hx hb hr hQ trivial hP hD hK hS dX6_swap_25 hlocks
    · have kc_4 : i_1.toInt > 0 := by have h9 := c_4; simp only [ge_iff_le, gt_iff_lt, x_lt, x_le, x_eq, ne_eq, Int32.not_lt, Int32.not_le] at h9; simp only [Int32.reduceToInt] at h9; omega
      refine lv_iload hx hb dX6_swap_20 (lv_at hl 0 rfl) ?_
      refine lv_if_gt (tgt := 26) hx hb dX6_swap_22 (by decide) (fun c_5 => ?_) (fun c_5 => ?_)
      · have kc_5 : i_2.toInt > 0 := by have h9 := c_5; simp only [ge_iff_le, gt_iff_lt, x_lt, x_le, x_eq, ne_eq, Int32.not_lt, Int32.not_le] at h9; simp only [Int32.reduceToInt] at h9; omega
        refine lv_aload_n hx hb dX6_swap_26 rfl (lv_at hl 2 rfl) ?_
        refine va_get (D := D) (ci := 5) (v := .ref (ad 72)) (C := RX6) (T := TX6) (N := 13) hx hb hts inX6 hown hK hP 0 pgw_o0 rfl 11 (by decide) fl27 (fun _ h9 => h9) rfl dX6_swap_27 ?_
        refine lv_iload_n hx hb dX6_swap_30 rfl (lv_at hl 3 rfl) ?_
        refine lv_aload_n hx hb dX6_swap_31 rfl (lv_at hl 2 rfl) ?_
        refine va_get (D := D) (ci := 5) (v := .ref (ad 73)) (C := RX6) (T := TX6) (N := 13) hx hb hts inX6 hown hK hP 0 pgw_o0 rfl 12 (by decide) fl30 (fun _ h9 => h9) rfl dX6_swap_32 ?_
        refine lv_iconst (v := 0) hx hb dX6_swap_35 (by decide) ?_
        refine lv_iload_n hx hb dX6_swap_36 rfl (lv_at hl 1 rfl) ?_
        refine va_copyi hx hb (hml.trans hl.1.symm) hown (hts (.methodLink RX6 59 arraycopyName) (List.mem_of_getElem? (i := 4) rfl)) (hts (.native arraycopyName) (List.mem_of_getElem? (i := 5) rfl)) (hts (.static arraycopyName) (List.mem_of_getElem? (i := 6) rfl)) (hts (.initialized "java/lang/System") (List.mem_of_getElem? (i := 7) rfl)) hK hP hD hS 5 6 2 2 pgw_a5 pgw_a6 rfl rfl rfl (x_nneg (by omega)) (by decide) (x_nneg (by omega)) (by show Int.toNat _ + Int.toNat _ ≤ _; omega) (by show Int.toNat _ + Int.toNat _ ≤ _; omega) (fun _ _ => rfl) (Nat.le_of_ble_eq_true rfl) (Nat.le_of_ble_eq_true rfl) dX6_swap_37 (fun H locs hP hD hS => ?_)
        obtain ⟨f_6, ef_6⟩ : ∃ z9 : Nat → Int32, z9 = va_cpy (σ.2.2.1 72) (σ.2.2.1 73) (Int32.toNatClampNeg a) (Int32.toNatClampNeg 0) (Int32.toNatClampNeg i_1) := ⟨_, rfl⟩
        have hP : va_P D vwCl (pgw y ad (tI σ 73 f_6)) H := by rw [ef_6]; exact x_trP hP pgw_s6
        have hD : va_D A (pgw y ad (tI σ 73 f_6)) := by rw [ef_6]; exact x_trD hD pgw_s6
        refine lv_aload_n hx hb dX6_swap_40 rfl (lv_at hl 2 rfl) ?_
        refine va_get (D := D) (ci := 5) (v := .ref (ad 72)) (C := RX6) (T := TX6) (N := 13) hx hb hts inX6 hown hK hP 0 pgw_o0 rfl 11 (by decide) fl27 (fun _ h9 => h9) rfl dX6_swap_41 ?_
        refine lv_iload_n hx hb dX6_swap_44 rfl (lv_at hl 4 rfl) ?_
        refine lv_aload_n hx hb dX6_swap_45 rfl (lv_at hl 2 rfl) ?_
        refine va_get (D := D) (ci := 5) (v := .ref (ad 72)) (C := RX6) (T := TX6) (N := 13) hx hb hts inX6 hown hK hP 0 pgw_o0 rfl 11 (by decide) fl27 (fun _ h9 => h9) rfl dX6_swap_46 ?_
        refine lv_iload_n hx hb dX6_swap_49 rfl (lv_at hl 3 rfl) ?_
        refine lv_iload hx hb dX6_swap_50 (lv_at hl 0 rfl) ?_
        refine va_copyi hx hb (hml.trans hl.1.symm) hown (hts (.methodLink RX6 59 arraycopyName) (List.mem_of_getElem? (i := 4) rfl)) (hts (.native arraycopyName) (List.mem_of_getElem? (i := 5) rfl)) (hts (.static arraycopyName) (List.mem_of_getElem? (i := 6) rfl)) (hts (.initialized "java/lang/System") (List.mem_of_getElem? (i := 7) rfl)) hK hP hD hS 5 5 2 2 pgw_a5 pgw_a5 rfl rfl rfl (x_nneg (by omega)) (x_nneg (by omega)) (x_nneg (by omega)) (by show Int.toNat _ + Int.toNat _ ≤ _; omega) (by show Int.toNat _ + Int.toNat _ ≤ _; omega) (fun _ _ => rfl) (Nat.le_of_ble_eq_true rfl) (Nat.le_of_ble_eq_true rfl) dX6_swap_52 (fun H locs hP hD hS => ?_)
        obtain ⟨f_7, ef_7⟩ : ∃ z9 : Nat → Int32, z9 = va_cpy (σ.2.2.1 72) (σ.2.2.1 72) (Int32.toNatClampNeg b) (Int32.toNatClampNeg a) (Int32.toNatClampNeg i_2) := ⟨_, rfl⟩
        have hP : va_P D vwCl (pgw y ad (tI (tI σ 73 f_6) 72 f_7)) H := by rw [ef_7]; exact x_trP hP pgw_s5
        have hD : va_D A (pgw y ad (tI (tI σ 73 f_6) 72 f_7)) := by rw [ef_7]; exact x_trD hD pgw_s5
        refine lv_aload_n hx hb dX6_swap_55 rfl (lv_at hl 2 rfl) ?_
        refine va_get (D := D) (ci := 5) (v := .ref (ad 73)) (C := RX6) (T := TX6) (N := 13) hx hb hts inX6 hown hK hP 0 pgw_o0 rfl 12 (by decide) fl30 (fun _ h9 => h9) rfl dX6_swap_56 ?_
        refine lv_iconst (v := 0) hx hb dX6_swap_59 (by decide) ?_
        refine lv_aload_n hx hb dX6_swap_60 rfl (lv_at hl 2 rfl) ?_
        refine va_get (D := D) (ci := 5) (v := .ref (ad 72)) (C := RX6) (T := TX6) (N := 13) hx hb hts inX6 hown hK hP 0 pgw_o0 rfl 11 (by decide) fl27 (fun _ h9 => h9) rfl dX6_swap_61 ?_
        refine lv_iload_n hx hb dX6_swap_64 rfl (lv_at hl 3 rfl) ?_
        refine lv_iload hx hb dX6_swap_65 (lv_at hl 0 rfl) ?_
        refine lv_iadd hx hb dX6_swap_67 ?_
        refine lv_topi (fun i_8 ei_8 => ?_)
        have vi_8 : i_8.toInt = a.toInt + i_2.toInt := by have h9 := x_add ei_8 (by omega) (by omega); omega
        refine lv_iload_n hx hb dX6_swap_68 rfl (lv_at hl 1 rfl) ?_
        refine va_copyi hx hb (hml.trans hl.1.symm) hown (hts (.methodLink RX6 59 arraycopyName) (List.mem_of_getElem? (i := 4) rfl)) (hts (.native arraycopyName) (List.mem_of_getElem? (i := 5) rfl)) (hts (.static arraycopyName) (List.mem_of_getElem? (i := 6) rfl)) (hts (.initialized "java/lang/System") (List.mem_of_getElem? (i := 7) rfl)) hK hP hD hS 6 5 2 2 pgw_a6 pgw_a5 rfl rfl rfl (by decide) (x_nneg (by omega)) (x_nneg (by omega)) (by show Int.toNat _ + Int.toNat _ ≤ _; omega) (by show Int.toNat _ + Int.toNat _ ≤ _; omega) (fun _ _ => rfl) (Nat.le_of_ble_eq_true rfl) (Nat.le_of_ble_eq_true rfl) dX6_swap_69 (fun H locs hP hD hS => ?_)
        obtain ⟨f_9, ef_9⟩ : ∃ z9 : Nat → Int32, z9 = va_cpy f_6 f_7 (Int32.toNatClampNeg 0) (Int32.toNatClampNeg i_8) (Int32.toNatClampNeg i_1) := ⟨_, rfl⟩
        have hP : va_P D vwCl (pgw y ad (tI (tI (tI σ 73 f_6) 72 f_7) 72 f_9)) H := by rw [ef_9]; exact x_trP hP pgw_s5
        have hD : va_D A (pgw y ad (tI (tI (tI σ 73 f_6) 72 f_7) 72 f_9)) := by rw [ef_9]; exact x_trD hD pgw_s5
        have hP : va_P D vwCl (pgw y ad (tI (tI σ 72 f_9) 73 f_6)) H := hP
        have hD : va_D A (pgw y ad (tI (tI σ 72 f_9) 73 f_6)) := hD
        exact x_vretW (u := (f_9, f_6)) hx hb hr hQ trivial hP hD hK hS dX6_swap_72 hlocks
      · have kc_5 : i_2.toInt ≤ 0 := by have h9 := c_5; simp only [ge_iff_le, gt_iff_lt, x_lt, x_le, x_eq, ne_eq, Int32.not_lt, Int32.not_le] at h9; simp only [Int32.reduceToInt] at h9; omega
        have hP : va_P D vwCl (pgw y ad (tI (tI σ 72 (σ.2.2.1 72)) 73 (σ.2.2.1 73))) H := hP
        have hD : va_D A (pgw y ad (tI (tI σ 72 (σ.2.2.1 72)) 73 (σ.2.2.1 73))) := hD
        exact x_vretW (u := ((σ.2.2.1 72), (σ.2.2.1 73))) hx hb hr hQ trivial hP hD hK hS dX6_swap_25 hlocks

def v_w_newSlot : List Cond := .code yX6_newSlot cX6_newSlot 2 (some .int) :: ([.fieldLink RX6 33 "SlopeRunner$Program" "inputs" "I", .fieldLink RX6 37 "SlopeRunner$Program" "rows" "I", .fieldLink RX6 40 "SlopeRunner$Program" "vars" "I"] ++ wsX60)
set_option maxHeartbeats 4000000 in
set_option maxRecDepth 100000 in
theorem w_newSlot (l : Launch) (D : va_G) (y : Nat → ClassId) (sz : Nat) (ad : Nat → Nat) (σ : OS) (q : Int32) (hfi : q.toInt ≠ 262 ∨ (σ.1 61).toInt ≤ 7) (hfr : q.toInt ≠ 263 ∨ (σ.1 62).toInt ≤ 3) (hinputs0 : 0 ≤ (σ.1 61).toInt) (hinputs1 : (σ.1 61).toInt ≤ 8) (hrows0 : 0 ≤ (σ.1 62).toInt) (hrows1 : (σ.1 62).toInt ≤ 4) : Met l yX6_newSlot v_w_newSlot ({ frames := 0, cells := 0, slots := 0, locals := 0 } : Room) (va_Pc [.ref (ad 60), .int q] (xPre D (xT y) (pgw y ad σ) sz)) (va_Qi (fun (r : Int32) (u : Int32 × Int32 × Int32) => 0 ≤ u.1.toInt ∧ u.1.toInt ≤ 8 ∧ 0 ≤ u.2.1.toInt ∧ u.2.1.toInt ≤ 4) (fun (u : Int32 × Int32 × Int32) => xB D (xT y) (va_A (pgw y ad σ) sz) (pgw y ad (sI (sI (sI σ 61 u.1) 62 u.2.1) 63 u.2.2))) (va_A (pgw y ad σ) sz)) 0 0 (va_A (pgw y ad σ) sz) := by
  refine x_meti (cc := cX6_newSlot) (maxL := 2) (by decide) rfl (Nat.le_of_ble_eq_true rfl) ?_
  intro p e s m below meth c A H locs Q hx hb hml hown hts hr hlocks hmn hA hP hK hD hS ls hl hQ
  have hl : lv_has ls 2 [(0, .ref (ad 60)), (1, .int q)] := hl
  have fl33 := hts (.fieldLink RX6 33 "SlopeRunner$Program" "inputs" "I") (List.mem_of_getElem? (i := 1) rfl)
  have inX6 : ∀ w ∈ wsX60, w ∈ v_w_newSlot := (fun w h => List.mem_cons_of_mem _ (List.mem_append_right _ h))
  have kk_1 : (1 : Int32).toInt = 1 := rfl
  have fl37 := hts (.fieldLink RX6 37 "SlopeRunner$Program" "rows" "I") (List.mem_of_getElem? (i := 2) rfl)
  have fl40 := hts (.fieldLink RX6 40 "SlopeRunner$Program" "vars" "I") (List.mem_of_getElem? (i := 3) rfl)
  have l262 : (262 : Int32).toInt = 262 := rfl
  have l263 : (263 : Int32).toInt = 263 := rfl
  refine lv_iload_n hx hb dX6_newSlot_0 rfl (lv_at hl 1 rfl) ?_
  rcases (show q = 262 ∨ q = 263 ∨ (¬ q = 262 ∧ ¬ q = 263) by simp only [x_eq, Int32.reduceToInt]; omega) with rfl | rfl | ⟨g_1_0, g_1_1⟩
  · refine lv_lookup (tgt := 28) (off := 27) hx hb dX6_newSlot_1 (by decide) (by decide) (by decide) ?_
    refine lv_aload_n hx hb dX6_newSlot_28 rfl (lv_at hl 0 rfl) ?_
    refine lv_dup hx hb dX6_newSlot_29 rfl ?_
    refine va_get (D := D) (ci := 5) (v := .int (σ.1 61)) (C := RX6) (T := TX6) (N := 13) hx hb hts inX6 hown hK hP 0 pgw_o0 rfl 0 (by decide) fl33 (fun _ h9 => h9) rfl dX6_newSlot_30 ?_
    refine lv_iconst (v := 1) hx hb dX6_newSlot_33 (by decide) ?_
    refine lv_iadd hx hb dX6_newSlot_34 ?_
    refine lv_topi (fun i_2 ei_2 => ?_)
    have vi_2 : i_2.toInt = (σ.1 61).toInt + 1 := by have h9 := x_add ei_2 (by omega) (by omega); omega
    refine va_put (D := D) (ci := 5) (v := .int i_2) (ty := .int) (C := RX6) (T := TX6) (N := 13) hx hb hts inX6 tyX6 tyX6_ok nmX6 hown hK hP hD hS 0 pgw_o0 rfl 0 (by decide) fl33 (fun _ h9 => h9) rfl (by decide +kernel) rfl rfl (Nat.le_of_ble_eq_true rfl) dX6_newSlot_35 (fun H locs hP hD hS => ?_)
    have hP : va_P D vwCl (pgw y ad (sI σ 61 i_2)) H := x_trP hP pgw_p0_0
    have hD : va_D A (pgw y ad (sI σ 61 i_2)) := x_trD hD pgw_p0_0
    refine lv_aload_n hx hb dX6_newSlot_38 rfl (lv_at hl 0 rfl) ?_
    refine va_get (D := D) (ci := 5) (v := .int i_2) (C := RX6) (T := TX6) (N := 13) hx hb hts inX6 hown hK hP 0 pgw_o0 rfl 0 (by decide) fl33 (fun _ h9 => h9) rfl dX6_newSlot_39 ?_
    refine lv_iconst (v := 1) hx hb dX6_newSlot_42 (by decide) ?_
    refine lv_isub hx hb dX6_newSlot_43 ?_
    refine lv_topi (fun i_3 ei_3 => ?_)
    have hP : va_P D vwCl (pgw y ad (sI (sI (sI σ 61 i_2) 62 (σ.1 62)) 63 (σ.1 63))) H := hP
    have hD : va_D A (pgw y ad (sI (sI (sI σ 61 i_2) 62 (σ.1 62)) 63 (σ.1 63))) := hD
    exact x_iretW (v := i_3) (u := (i_2, (σ.1 62), (σ.1 63))) hx hb hr hQ (by (try dsimp only); exact ⟨by omega, by omega, by omega, by omega⟩) hP hD hK hS dX6_newSlot_44 hlocks
  · refine lv_lookup (tgt := 45) (off := 44) hx hb dX6_newSlot_1 (by decide) (by decide) (by decide) ?_
    refine lv_aload_n hx hb dX6_newSlot_45 rfl (lv_at hl 0 rfl) ?_
    refine lv_dup hx hb dX6_newSlot_46 rfl ?_
    refine va_get (D := D) (ci := 5) (v := .int (σ.1 62)) (C := RX6) (T := TX6) (N := 13) hx hb hts inX6 hown hK hP 0 pgw_o0 rfl 1 (by decide) fl37 (fun _ h9 => h9) rfl dX6_newSlot_47 ?_
    refine lv_iconst (v := 1) hx hb dX6_newSlot_50 (by decide) ?_
    refine lv_iadd hx hb dX6_newSlot_51 ?_
    refine lv_topi (fun i_4 ei_4 => ?_)
    have vi_4 : i_4.toInt = (σ.1 62).toInt + 1 := by have h9 := x_add ei_4 (by omega) (by omega); omega
    refine va_put (D := D) (ci := 5) (v := .int i_4) (ty := .int) (C := RX6) (T := TX6) (N := 13) hx hb hts inX6 tyX6 tyX6_ok nmX6 hown hK hP hD hS 0 pgw_o0 rfl 1 (by decide) fl37 (fun _ h9 => h9) rfl (by decide +kernel) rfl rfl (Nat.le_of_ble_eq_true rfl) dX6_newSlot_52 (fun H locs hP hD hS => ?_)
    have hP : va_P D vwCl (pgw y ad (sI σ 62 i_4)) H := x_trP hP pgw_p0_1
    have hD : va_D A (pgw y ad (sI σ 62 i_4)) := x_trD hD pgw_p0_1
    refine lv_bipush (v := 20) hx hb dX6_newSlot_55 (by decide) ?_
    refine lv_aload_n hx hb dX6_newSlot_57 rfl (lv_at hl 0 rfl) ?_
    refine va_get (D := D) (ci := 5) (v := .int i_4) (C := RX6) (T := TX6) (N := 13) hx hb hts inX6 hown hK hP 0 pgw_o0 rfl 1 (by decide) fl37 (fun _ h9 => h9) rfl dX6_newSlot_58 ?_
    refine lv_iconst (v := 1) hx hb dX6_newSlot_61 (by decide) ?_
    refine lv_isub hx hb dX6_newSlot_62 ?_
    refine lv_topi (fun i_5 ei_5 => ?_)
    refine lv_bipush (v := 16) hx hb dX6_newSlot_63 (by decide) ?_
    refine lv_imul hx hb dX6_newSlot_65 ?_
    refine lv_topi (fun i_6 ei_6 => ?_)
    refine lv_iadd hx hb dX6_newSlot_66 ?_
    refine lv_topi (fun i_7 ei_7 => ?_)
    have hP : va_P D vwCl (pgw y ad (sI (sI (sI σ 61 (σ.1 61)) 62 i_4) 63 (σ.1 63))) H := hP
    have hD : va_D A (pgw y ad (sI (sI (sI σ 61 (σ.1 61)) 62 i_4) 63 (σ.1 63))) := hD
    exact x_iretW (v := i_7) (u := ((σ.1 61), i_4, (σ.1 63))) hx hb hr hQ (by (try dsimp only); exact ⟨by omega, by omega, by omega, by omega⟩) hP hD hK hS dX6_newSlot_67 hlocks
  · refine lv_lookup (tgt := 68) (off := 67) hx hb dX6_newSlot_1 (by decide) ((lv_osw g_1_0 rfl).trans ((lv_osw g_1_1 rfl).trans rfl)) (by decide) ?_
    refine lv_aload_n hx hb dX6_newSlot_68 rfl (lv_at hl 0 rfl) ?_
    refine lv_dup hx hb dX6_newSlot_69 rfl ?_
    refine va_get (D := D) (ci := 5) (v := .int (σ.1 63)) (C := RX6) (T := TX6) (N := 13) hx hb hts inX6 hown hK hP 0 pgw_o0 rfl 2 (by decide) fl40 (fun _ h9 => h9) rfl dX6_newSlot_70 ?_
    refine lv_iconst (v := 1) hx hb dX6_newSlot_73 (by decide) ?_
    refine lv_iadd hx hb dX6_newSlot_74 ?_
    refine lv_topi (fun i_8 ei_8 => ?_)
    refine va_put (D := D) (ci := 5) (v := .int i_8) (ty := .int) (C := RX6) (T := TX6) (N := 13) hx hb hts inX6 tyX6 tyX6_ok nmX6 hown hK hP hD hS 0 pgw_o0 rfl 2 (by decide) fl40 (fun _ h9 => h9) rfl (by decide +kernel) rfl rfl (Nat.le_of_ble_eq_true rfl) dX6_newSlot_75 (fun H locs hP hD hS => ?_)
    have hP : va_P D vwCl (pgw y ad (sI σ 63 i_8)) H := x_trP hP pgw_p0_2
    have hD : va_D A (pgw y ad (sI σ 63 i_8)) := x_trD hD pgw_p0_2
    refine lv_bipush (v := 8) hx hb dX6_newSlot_78 (by decide) ?_
    refine lv_aload_n hx hb dX6_newSlot_80 rfl (lv_at hl 0 rfl) ?_
    refine va_get (D := D) (ci := 5) (v := .int i_8) (C := RX6) (T := TX6) (N := 13) hx hb hts inX6 hown hK hP 0 pgw_o0 rfl 2 (by decide) fl40 (fun _ h9 => h9) rfl dX6_newSlot_81 ?_
    refine lv_iadd hx hb dX6_newSlot_84 ?_
    refine lv_topi (fun i_9 ei_9 => ?_)
    refine lv_iconst (v := 1) hx hb dX6_newSlot_85 (by decide) ?_
    refine lv_isub hx hb dX6_newSlot_86 ?_
    refine lv_topi (fun i_10 ei_10 => ?_)
    have hP : va_P D vwCl (pgw y ad (sI (sI (sI σ 61 (σ.1 61)) 62 (σ.1 62)) 63 i_8)) H := hP
    have hD : va_D A (pgw y ad (sI (sI (sI σ 61 (σ.1 61)) 62 (σ.1 62)) 63 i_8)) := hD
    exact x_iretW (v := i_10) (u := ((σ.1 61), (σ.1 62), i_8)) hx hb hr hQ (by (try dsimp only); exact ⟨by omega, by omega, by omega, by omega⟩) hP hD hK hS dX6_newSlot_87 hlocks

def v_w_addName : List Cond := .code yX6_addName cX6_addName 4 none :: ([.fieldLink RX6 49 "SlopeRunner$Program" "names" "I", .fieldLink RX6 17 "SlopeRunner$Program" "name" "[J", .fieldLink RX6 21 "SlopeRunner$Program" "slot" "[I"] ++ ((wsV RX6 65 RX6 yX6_newSlot v_w_newSlot) ++ wsX60))
theorem g_w_addName_0 : GoodIn v_w_addName (wsV RX6 65 RX6 yX6_newSlot v_w_newSlot) := goodIn_sub (fun w h => List.mem_cons_of_mem _ (List.mem_append_right _ (List.mem_append_left _ h))) (by decide +kernel)
set_option maxHeartbeats 4000000 in
set_option maxRecDepth 100000 in
theorem w_addName (l : Launch) (D : va_G) (y : Nat → ClassId) (sz : Nat) (ad : Nat → Nat) (σ : OS) (q : Int32) (x : Int64) (hfi : q.toInt ≠ 262 ∨ (σ.1 61).toInt ≤ 7) (hfr : q.toInt ≠ 263 ∨ (σ.1 62).toInt ≤ 3) (hinputs0 : 0 ≤ (σ.1 61).toInt) (hinputs1 : (σ.1 61).toInt ≤ 8) (hrows0 : 0 ≤ (σ.1 62).toInt) (hrows1 : (σ.1 62).toInt ≤ 4) (hnames0 : 0 ≤ (σ.1 68).toInt) (hnames1 : (σ.1 68).toInt ≤ 24) : Met l yX6_addName v_w_addName ({ frames := 1, cells := 0, slots := 0, locals := 21 } : Room) (va_Pc [.ref (ad 60), .int q, .long x] (xPre D (xT y) (pgw y ad σ) sz)) (va_Qv (fun (u : Int32 × Int32 × Int32 × Int32 × (Nat → Int64) × (Nat → Int32)) => 0 ≤ u.1.toInt ∧ u.1.toInt ≤ 8 ∧ 0 ≤ u.2.1.toInt ∧ u.2.1.toInt ≤ 4 ∧ 0 ≤ u.2.2.2.1.toInt ∧ u.2.2.2.1.toInt ≤ 24) (fun (u : Int32 × Int32 × Int32 × Int32 × (Nat → Int64) × (Nat → Int32)) => xB D (xT y) (va_A (pgw y ad σ) sz) (pgw y ad (tI (tJ (sI (sI (sI (sI σ 61 u.1) 62 u.2.1) 63 u.2.2.1) 68 u.2.2.2.1) 69 u.2.2.2.2.1) 70 u.2.2.2.2.2))) (va_A (pgw y ad σ) sz)) 0 0 (va_A (pgw y ad σ) sz) := by
  refine x_metv (cc := cX6_addName) (maxL := 4) (by decide) rfl (Nat.le_of_ble_eq_true rfl) ?_
  intro p e s m below meth c A H locs Q hx hb hml hown hts hr hlocks hmn hA hP hK hD hS ls hl hQ
  have hl : lv_has ls 4 [(0, .ref (ad 60)), (1, .int q), (2, .long x)] := hl
  have fl49 := hts (.fieldLink RX6 49 "SlopeRunner$Program" "names" "I") (List.mem_of_getElem? (i := 1) rfl)
  have inX6 : ∀ w ∈ wsX60, w ∈ v_w_addName := (fun w h => List.mem_cons_of_mem _ (List.mem_append_right _ (List.mem_append_right _ h)))
  have kk_24 : (24 : Int32).toInt = 24 := rfl
  have fl17 := hts (.fieldLink RX6 17 "SlopeRunner$Program" "name" "[J") (List.mem_of_getElem? (i := 2) rfl)
  have fl21 := hts (.fieldLink RX6 21 "SlopeRunner$Program" "slot" "[I") (List.mem_of_getElem? (i := 3) rfl)
  have kk_1 : (1 : Int32).toInt = 1 := rfl
  refine lv_aload_n hx hb dX6_addName_0 rfl (lv_at hl 0 rfl) ?_
  refine va_get (D := D) (ci := 5) (v := .int (σ.1 68)) (C := RX6) (T := TX6) (N := 13) hx hb hts inX6 hown hK hP 0 pgw_o0 rfl 7 (by decide) fl49 (fun _ h9 => h9) rfl dX6_addName_1 ?_
  refine lv_bipush (v := 24) hx hb dX6_addName_4 (by decide) ?_
  refine lv_icmp_ge (tgt := 43) hx hb dX6_addName_6 (by decide) (fun c_1 => ?_) (fun c_1 => ?_)
  · have kc_1 : (σ.1 68).toInt ≥ 24 := by have h9 := c_1; simp only [ge_iff_le, gt_iff_lt, x_lt, x_le, x_eq, ne_eq, Int32.not_lt, Int32.not_le] at h9; simp only [Int32.reduceToInt] at h9; omega
    have hP : va_P D vwCl (pgw y ad (tI (tJ (sI (sI (sI (sI σ 61 (σ.1 61)) 62 (σ.1 62)) 63 (σ.1 63)) 68 (σ.1 68)) 69 (σ.2.2.2 69)) 70 (σ.2.2.1 70))) H := hP
    have hD : va_D A (pgw y ad (tI (tJ (sI (sI (sI (sI σ 61 (σ.1 61)) 62 (σ.1 62)) 63 (σ.1 63)) 68 (σ.1 68)) 69 (σ.2.2.2 69)) 70 (σ.2.2.1 70))) := hD
    exact x_vretW (u := ((σ.1 61), (σ.1 62), (σ.1 63), (σ.1 68), (σ.2.2.2 69), (σ.2.2.1 70))) hx hb hr hQ (by (try dsimp only); exact ⟨by omega, by omega, by omega, by omega, by omega, by omega⟩) hP hD hK hS dX6_addName_43 hlocks
  · have kc_1 : (σ.1 68).toInt < 24 := by have h9 := c_1; simp only [ge_iff_le, gt_iff_lt, x_lt, x_le, x_eq, ne_eq, Int32.not_lt, Int32.not_le] at h9; simp only [Int32.reduceToInt] at h9; omega
    refine lv_aload_n hx hb dX6_addName_9 rfl (lv_at hl 0 rfl) ?_
    refine va_get (D := D) (ci := 5) (v := .ref (ad 69)) (C := RX6) (T := TX6) (N := 13) hx hb hts inX6 hown hK hP 0 pgw_o0 rfl 8 (by decide) fl17 (fun _ h9 => h9) rfl dX6_addName_10 ?_
    refine lv_aload_n hx hb dX6_addName_13 rfl (lv_at hl 0 rfl) ?_
    refine va_get (D := D) (ci := 5) (v := .int (σ.1 68)) (C := RX6) (T := TX6) (N := 13) hx hb hts inX6 hown hK hP 0 pgw_o0 rfl 7 (by decide) fl49 (fun _ h9 => h9) rfl dX6_addName_14 ?_
    refine lv_lload_n hx hb dX6_addName_17 rfl (lv_at hl 2 rfl) ?_
    refine va_last hx hb hK hP hD hS 2 3 pgw_a2 rfl (x_in (by omega) (by omega)) dX6_addName_18 (fun H locs hP hD hS => ?_)
    obtain ⟨f_2, ef_2⟩ : ∃ z9 : Nat → Int64, z9 = (vp_updL (σ.2.2.2 69) (Int32.toNatClampNeg (σ.1 68)) x) := ⟨_, rfl⟩
    have hP : va_P D vwCl (pgw y ad (tJ σ 69 f_2)) H := by rw [ef_2]; exact x_trP hP pgw_s2
    have hD : va_D A (pgw y ad (tJ σ 69 f_2)) := by rw [ef_2]; exact x_trD hD pgw_s2
    refine lv_aload_n hx hb dX6_addName_19 rfl (lv_at hl 0 rfl) ?_
    refine va_get (D := D) (ci := 5) (v := .ref (ad 70)) (C := RX6) (T := TX6) (N := 13) hx hb hts inX6 hown hK hP 0 pgw_o0 rfl 9 (by decide) fl21 (fun _ h9 => h9) rfl dX6_addName_20 ?_
    refine lv_aload_n hx hb dX6_addName_23 rfl (lv_at hl 0 rfl) ?_
    refine va_get (D := D) (ci := 5) (v := .int (σ.1 68)) (C := RX6) (T := TX6) (N := 13) hx hb hts inX6 hown hK hP 0 pgw_o0 rfl 7 (by decide) fl49 (fun _ h9 => h9) rfl dX6_addName_24 ?_
    refine lv_aload_n hx hb dX6_addName_27 rfl (lv_at hl 0 rfl) ?_
    refine lv_iload_n hx hb dX6_addName_28 rfl (lv_at hl 1 rfl) ?_
    refine x_calliW (va_runV (As := [.int q]) (rest := [.int (σ.1 68), .ref (ad 70)]) ⟨hx, hb, hml, hown, hts⟩ (w_newSlot l D y H.size ad (tJ σ 69 f_2) q (show q.toInt ≠ 262 ∨ ((σ.1 61)).toInt ≤ 7 from by first | omega | decide) (show q.toInt ≠ 263 ∨ ((σ.1 62)).toInt ≤ 3 from by first | omega | decide) (show 0 ≤ ((σ.1 61)).toInt from by first | omega | decide) (show ((σ.1 61)).toInt ≤ 8 from by first | omega | decide) (show 0 ≤ ((σ.1 62)).toInt from by first | omega | decide) (show ((σ.1 62)).toInt ≤ 4 from by first | omega | decide)) (cwV 1 hts g_w_addName_0 rfl rfl rfl (by decide +kernel) ⟨Nat.le_of_ble_eq_true rfl, Nat.le_of_ble_eq_true rfl⟩) (x_preV (q := (RX6, TX6, 13)) hK hP hD (ci := 5) (q0 := 0) rfl pgw_o0) rfl rfl hl.1 rfl (lv_room (Nat.le_of_ble_eq_true rfl)) dX6_addName_29 ⟨Nat.le_of_ble_eq_true rfl, Nat.le_of_ble_eq_true rfl⟩) hP hD hS hA (fun r_3 u H locs hw hP hD hS => ?_)
    obtain ⟨n_4, n_5, n_6⟩ := u
    try dsimp only at hw
    have hP : va_P D vwCl (pgw y ad (sI (sI (sI (tJ σ 69 f_2) 61 n_4) 62 n_5) 63 n_6)) H := hP
    have hD : va_D A (pgw y ad (sI (sI (sI (tJ σ 69 f_2) 61 n_4) 62 n_5) 63 n_6)) := hD
    replace hw : 0 ≤ n_4.toInt ∧ n_4.toInt ≤ 8 ∧ 0 ≤ n_5.toInt ∧ n_5.toInt ≤ 4 := hw
    refine va_iast hx hb hK hP hD hS 3 2 pgw_a3 rfl (x_in (by omega) (by omega)) dX6_addName_32 (fun H locs hP hD hS => ?_)
    obtain ⟨f_7, ef_7⟩ : ∃ z9 : Nat → Int32, z9 = (upd (σ.2.2.1 70) (Int32.toNatClampNeg (σ.1 68)) r_3) := ⟨_, rfl⟩
    have hP : va_P D vwCl (pgw y ad (tI (sI (sI (sI (tJ σ 69 f_2) 61 n_4) 62 n_5) 63 n_6) 70 f_7)) H := by rw [ef_7]; exact x_trP hP pgw_s3
    have hD : va_D A (pgw y ad (tI (sI (sI (sI (tJ σ 69 f_2) 61 n_4) 62 n_5) 63 n_6) 70 f_7)) := by rw [ef_7]; exact x_trD hD pgw_s3
    refine lv_aload_n hx hb dX6_addName_33 rfl (lv_at hl 0 rfl) ?_
    refine lv_dup hx hb dX6_addName_34 rfl ?_
    refine va_get (D := D) (ci := 5) (v := .int (σ.1 68)) (C := RX6) (T := TX6) (N := 13) hx hb hts inX6 hown hK hP 0 pgw_o0 rfl 7 (by decide) fl49 (fun _ h9 => h9) rfl dX6_addName_35 ?_
    refine lv_iconst (v := 1) hx hb dX6_addName_38 (by decide) ?_
    refine lv_iadd hx hb dX6_addName_39 ?_
    refine lv_topi (fun i_8 ei_8 => ?_)
    have vi_8 : i_8.toInt = (σ.1 68).toInt + 1 := by have h9 := x_add ei_8 (by omega) (by omega); omega
    refine va_put (D := D) (ci := 5) (v := .int i_8) (ty := .int) (C := RX6) (T := TX6) (N := 13) hx hb hts inX6 tyX6 tyX6_ok nmX6 hown hK hP hD hS 0 pgw_o0 rfl 7 (by decide) fl49 (fun _ h9 => h9) rfl (by decide +kernel) rfl rfl (Nat.le_of_ble_eq_true rfl) dX6_addName_40 (fun H locs hP hD hS => ?_)
    have hP : va_P D vwCl (pgw y ad (sI (tI (sI (sI (sI (tJ σ 69 f_2) 61 n_4) 62 n_5) 63 n_6) 70 f_7) 68 i_8)) H := x_trP hP pgw_p0_7
    have hD : va_D A (pgw y ad (sI (tI (sI (sI (sI (tJ σ 69 f_2) 61 n_4) 62 n_5) 63 n_6) 70 f_7) 68 i_8)) := x_trD hD pgw_p0_7
    have hP : va_P D vwCl (pgw y ad (tI (tJ (sI (sI (sI (sI σ 61 n_4) 62 n_5) 63 n_6) 68 i_8) 69 f_2) 70 f_7)) H := hP
    have hD : va_D A (pgw y ad (tI (tJ (sI (sI (sI (sI σ 61 n_4) 62 n_5) 63 n_6) 68 i_8) 69 f_2) 70 f_7)) := hD
    exact x_vretW (u := (n_4, n_5, n_6, i_8, f_2, f_7)) hx hb hr hQ (by (try dsimp only); exact ⟨by omega, by omega, by omega, by omega, by omega, by omega⟩) hP hD hK hS dX6_addName_43 hlocks

def v_w_slotOf : List Cond := .code yX6_slotOf cX6_slotOf 4 (some .int) :: ([.fieldLink RX6 49 "SlopeRunner$Program" "names" "I", .fieldLink RX6 17 "SlopeRunner$Program" "name" "[J", .fieldLink RX6 21 "SlopeRunner$Program" "slot" "[I"] ++ wsX60)
set_option maxHeartbeats 4000000 in
set_option maxRecDepth 100000 in
theorem w_slotOf (l : Launch) (D : va_G) (y : Nat → ClassId) (sz : Nat) (ad : Nat → Nat) (σ : OS) (x : Int64) (hnames0 : 0 ≤ (σ.1 68).toInt) (hnames1 : (σ.1 68).toInt ≤ 24) : Met l yX6_slotOf v_w_slotOf ({ frames := 0, cells := 0, slots := 0, locals := 0 } : Room) (va_Pc [.ref (ad 60), .long x] (xPre D (xT y) (pgw y ad σ) sz)) (va_Qi (fun (r : Int32) (_ : Unit) => True) (fun (u : Unit) => xB D (xT y) (va_A (pgw y ad σ) sz) (pgw y ad σ)) (va_A (pgw y ad σ) sz)) 0 0 (va_A (pgw y ad σ) sz) := by
  refine x_meti (cc := cX6_slotOf) (maxL := 4) (by decide) rfl (Nat.le_of_ble_eq_true rfl) ?_
  intro p e s m below meth c A H locs Q hx hb hml hown hts hr hlocks hmn hA hP hK hD hS ls hl hQ
  have hl : lv_has ls 4 [(0, .ref (ad 60)), (1, .long x)] := hl
  have fl49 := hts (.fieldLink RX6 49 "SlopeRunner$Program" "names" "I") (List.mem_of_getElem? (i := 1) rfl)
  have inX6 : ∀ w ∈ wsX60, w ∈ v_w_slotOf := (fun w h => List.mem_cons_of_mem _ (List.mem_append_right _ h))
  have kk_m1 : ((-1) : Int32).toInt = -1 := rfl
  have fl17 := hts (.fieldLink RX6 17 "SlopeRunner$Program" "name" "[J") (List.mem_of_getElem? (i := 2) rfl)
  have kk_1 : (1 : Int32).toInt = 1 := rfl
  have fl21 := hts (.fieldLink RX6 21 "SlopeRunner$Program" "slot" "[I") (List.mem_of_getElem? (i := 3) rfl)
  refine lv_iconst (v := 0) hx hb dX6_slotOf_0 (by decide) ?_
  refine lv_istore_n (lv' := [(3, .int 0), (0, .ref (ad 60)), (1, .long x)]) hx hb dX6_slotOf_1 rfl hl (by decide) rfl (fun ls hl => ?_)
  have l00 : (0 : Int32).toInt = 0 := rfl
  have loop : ∀ (fu : Nat) (i : Int32) (H : Heap) (locs : List Loc) (ls : Array Slot), (0 ≤ i.toInt) → (i.toInt ≤ (σ.1 68).toInt) → ((σ.1 68).toInt - i.toInt < (fu : Int)) → va_P D vwCl (pgw y ad σ) H → va_D A (pgw y ad σ) → va_S A s.heap H locs → lv_has ls 4 [(3, .int i), (1, .long x), (0, .ref (ad 60))] → W p l e ({ frames := 0, cells := 0, slots := 0, locals := 0 } : Room) s m ([.ref (ad 60), .long x] : List Value).toArray below meth c H locs 0 0 Q (F0 m 2 ls []) := by
    intro fu
    induction fu with
    | zero =>
      intro i H locs ls hi0 hi1 hm
      exact absurd hm (by omega)
    | succ fu ih_loop =>
      intro i H locs ls hi0 hi1 hm hP hD hS hl
      refine lv_iload_n hx hb dX6_slotOf_2 rfl (lv_at hl 0 rfl) ?_
      refine lv_aload_n hx hb dX6_slotOf_3 rfl (lv_at hl 2 rfl) ?_
      refine va_get (D := D) (ci := 5) (v := .int (σ.1 68)) (C := RX6) (T := TX6) (N := 13) hx hb hts inX6 hown hK hP 0 pgw_o0 rfl 7 (by decide) fl49 (fun _ h9 => h9) rfl dX6_slotOf_4 ?_
      refine lv_icmp_ge (tgt := 34) hx hb dX6_slotOf_7 (by decide) (fun c_1 => ?_) (fun c_1 => ?_)
      · have kc_1 : i.toInt ≥ (σ.1 68).toInt := by have h9 := c_1; simp only [ge_iff_le, gt_iff_lt, x_lt, x_le, x_eq, ne_eq, Int32.not_lt, Int32.not_le] at h9; omega
        refine lv_iconst (v := (-1)) hx hb dX6_slotOf_34 (by decide) ?_
        exact x_iretW (v := (-1)) (u := ()) hx hb hr hQ trivial hP hD hK hS dX6_slotOf_35 hlocks
      · have kc_1 : i.toInt < (σ.1 68).toInt := by have h9 := c_1; simp only [ge_iff_le, gt_iff_lt, x_lt, x_le, x_eq, ne_eq, Int32.not_lt, Int32.not_le] at h9; omega
        refine lv_aload_n hx hb dX6_slotOf_10 rfl (lv_at hl 2 rfl) ?_
        refine va_get (D := D) (ci := 5) (v := .ref (ad 69)) (C := RX6) (T := TX6) (N := 13) hx hb hts inX6 hown hK hP 0 pgw_o0 rfl 8 (by decide) fl17 (fun _ h9 => h9) rfl dX6_slotOf_11 ?_
        refine lv_iload_n hx hb dX6_slotOf_14 rfl (lv_at hl 0 rfl) ?_
        refine va_lald hx hb hK hP 2 3 pgw_a2 rfl (x_in (by omega) (by omega)) dX6_slotOf_15 ?_
        refine lv_topl (fun j_2 ej_2 => ?_)
        have ej_2 : j_2 = (σ.2.2.2 69) (Int32.toNatClampNeg i) := ej_2
        refine lv_lload_n hx hb dX6_slotOf_16 rfl (lv_at hl 1 rfl) ?_
        refine W.lcmp hx hb dX6_slotOf_17 ?_
        refine lv_if_ne (tgt := 28) hx hb dX6_slotOf_18 (by decide) (fun c_3 => ?_) (fun c_3 => ?_)
        · have kc_3 : j_2.toInt ≠ x.toInt := by have h9 := x_tri j_2 x; (try simp only [Int64.reduceToInt] at h9); rcases h9 with ⟨g1, g2⟩ | ⟨g1, g2⟩ | ⟨g1, g2⟩ <;> first | omega | (exfalso; rw [g1] at c_3; revert c_3; decide)
          obtain ⟨i_4, ei_4⟩ : ∃ z9 : Int32, z9 = i + 1 := ⟨_, rfl⟩
          have vi_4 : i_4.toInt = i.toInt + 1 := by have h9 := x_add ei_4 (by omega) (by omega); omega
          refine lv_iinc (v := i_4) (lv' := [(3, .int i_4), (1, .long x), (0, .ref (ad 60))]) hx hb dX6_slotOf_28 hl (k := 0) rfl (by rw [ei_4]; rfl) (by decide) rfl (fun ls hl => ?_)
          refine lv_goto (tgt := 2) hx hb dX6_slotOf_31 (by decide) ?_
          exact ih_loop i_4 H locs ls (by omega) (by omega) (by omega) hP hD hS (lv_sub hl [0, 1, 2] rfl)
        · have kc_3 : j_2.toInt = x.toInt := by have h9 := x_tri j_2 x; (try simp only [Int64.reduceToInt] at h9); rcases h9 with ⟨g1, g2⟩ | ⟨g1, g2⟩ | ⟨g1, g2⟩ <;> first | omega | (exfalso; rw [g1] at c_3; revert c_3; decide)
          refine lv_aload_n hx hb dX6_slotOf_21 rfl (lv_at hl 2 rfl) ?_
          refine va_get (D := D) (ci := 5) (v := .ref (ad 70)) (C := RX6) (T := TX6) (N := 13) hx hb hts inX6 hown hK hP 0 pgw_o0 rfl 9 (by decide) fl21 (fun _ h9 => h9) rfl dX6_slotOf_22 ?_
          refine lv_iload_n hx hb dX6_slotOf_25 rfl (lv_at hl 0 rfl) ?_
          refine va_iald hx hb hK hP 3 2 pgw_a3 rfl (x_in (by omega) (by omega)) dX6_slotOf_26 ?_
          refine lv_topi (fun i_5 ei_5 => ?_)
          have ei_5 : i_5 = (σ.2.2.1 70) (Int32.toNatClampNeg i) := ei_5
          exact x_iretW (v := i_5) (u := ()) hx hb hr hQ trivial hP hD hK hS dX6_slotOf_27 hlocks
  exact loop 25 0 H locs ls (by decide) (by omega) (by omega) hP hD hS (lv_sub hl [0, 2, 1] rfl)

def v_w_sizeLatestRow : List Cond := .code yX6_sizeLatestRow cX6_sizeLatestRow 2 none :: ([.fieldLink RX6 37 "SlopeRunner$Program" "rows" "I", .fieldLink RX6 13 "SlopeRunner$Program" "places" "[I"] ++ wsX60)
set_option maxHeartbeats 4000000 in
set_option maxRecDepth 100000 in
theorem w_sizeLatestRow (l : Launch) (D : va_G) (y : Nat → ClassId) (sz : Nat) (ad : Nat → Nat) (σ : OS) (q : Int32) : Met l yX6_sizeLatestRow v_w_sizeLatestRow ({ frames := 0, cells := 0, slots := 0, locals := 0 } : Room) (va_Pc [.ref (ad 60), .int q] (xPre D (xT y) (pgw y ad σ) sz)) (va_Qv (fun (u : (Nat → Int32)) => True) (fun (u : (Nat → Int32)) => xB D (xT y) (va_A (pgw y ad σ) sz) (pgw y ad (tI σ 67 u))) (va_A (pgw y ad σ) sz)) 0 0 (va_A (pgw y ad σ) sz) := by
  refine x_metv (cc := cX6_sizeLatestRow) (maxL := 2) (by decide) rfl (Nat.le_of_ble_eq_true rfl) ?_
  intro p e s m below meth c A H locs Q hx hb hml hown hts hr hlocks hmn hA hP hK hD hS ls hl hQ
  have hl : lv_has ls 2 [(0, .ref (ad 60)), (1, .int q)] := hl
  have fl37 := hts (.fieldLink RX6 37 "SlopeRunner$Program" "rows" "I") (List.mem_of_getElem? (i := 1) rfl)
  have inX6 : ∀ w ∈ wsX60, w ∈ v_w_sizeLatestRow := (fun w h => List.mem_cons_of_mem _ (List.mem_append_right _ h))
  have kk_1 : (1 : Int32).toInt = 1 := rfl
  have kk_4 : (4 : Int32).toInt = 4 := rfl
  have fl13 := hts (.fieldLink RX6 13 "SlopeRunner$Program" "places" "[I") (List.mem_of_getElem? (i := 2) rfl)
  refine lv_aload_n hx hb dX6_sizeLatestRow_0 rfl (lv_at hl 0 rfl) ?_
  refine va_get (D := D) (ci := 5) (v := .int (σ.1 62)) (C := RX6) (T := TX6) (N := 13) hx hb hts inX6 hown hK hP 0 pgw_o0 rfl 1 (by decide) fl37 (fun _ h9 => h9) rfl dX6_sizeLatestRow_1 ?_
  refine lv_iconst (v := 1) hx hb dX6_sizeLatestRow_4 (by decide) ?_
  refine lv_icmp_lt (tgt := 28) hx hb dX6_sizeLatestRow_5 (by decide) (fun c_1 => ?_) (fun c_1 => ?_)
  · have kc_1 : (σ.1 62).toInt < 1 := by have h9 := c_1; simp only [ge_iff_le, gt_iff_lt, x_lt, x_le, x_eq, ne_eq, Int32.not_lt, Int32.not_le] at h9; simp only [Int32.reduceToInt] at h9; omega
    have hP : va_P D vwCl (pgw y ad (tI σ 67 (σ.2.2.1 67))) H := hP
    have hD : va_D A (pgw y ad (tI σ 67 (σ.2.2.1 67))) := hD
    exact x_vretW (u := (σ.2.2.1 67)) hx hb hr hQ trivial hP hD hK hS dX6_sizeLatestRow_28 hlocks
  · have kc_1 : (σ.1 62).toInt ≥ 1 := by have h9 := c_1; simp only [ge_iff_le, gt_iff_lt, x_lt, x_le, x_eq, ne_eq, Int32.not_lt, Int32.not_le] at h9; simp only [Int32.reduceToInt] at h9; omega
    refine lv_aload_n hx hb dX6_sizeLatestRow_8 rfl (lv_at hl 0 rfl) ?_
    refine va_get (D := D) (ci := 5) (v := .int (σ.1 62)) (C := RX6) (T := TX6) (N := 13) hx hb hts inX6 hown hK hP 0 pgw_o0 rfl 1 (by decide) fl37 (fun _ h9 => h9) rfl dX6_sizeLatestRow_9 ?_
    refine lv_iconst (v := 4) hx hb dX6_sizeLatestRow_12 (by decide) ?_
    refine lv_icmp_gt (tgt := 28) hx hb dX6_sizeLatestRow_13 (by decide) (fun c_2 => ?_) (fun c_2 => ?_)
    · have kc_2 : (σ.1 62).toInt > 4 := by have h9 := c_2; simp only [ge_iff_le, gt_iff_lt, x_lt, x_le, x_eq, ne_eq, Int32.not_lt, Int32.not_le] at h9; simp only [Int32.reduceToInt] at h9; omega
      have hP : va_P D vwCl (pgw y ad (tI σ 67 (σ.2.2.1 67))) H := hP
      have hD : va_D A (pgw y ad (tI σ 67 (σ.2.2.1 67))) := hD
      exact x_vretW (u := (σ.2.2.1 67)) hx hb hr hQ trivial hP hD hK hS dX6_sizeLatestRow_28 hlocks
    · have kc_2 : (σ.1 62).toInt ≤ 4 := by have h9 := c_2; simp only [ge_iff_le, gt_iff_lt, x_lt, x_le, x_eq, ne_eq, Int32.not_lt, Int32.not_le] at h9; simp only [Int32.reduceToInt] at h9; omega
      refine lv_aload_n hx hb dX6_sizeLatestRow_16 rfl (lv_at hl 0 rfl) ?_
      refine va_get (D := D) (ci := 5) (v := .ref (ad 67)) (C := RX6) (T := TX6) (N := 13) hx hb hts inX6 hown hK hP 0 pgw_o0 rfl 6 (by decide) fl13 (fun _ h9 => h9) rfl dX6_sizeLatestRow_17 ?_
      refine lv_aload_n hx hb dX6_sizeLatestRow_20 rfl (lv_at hl 0 rfl) ?_
      refine va_get (D := D) (ci := 5) (v := .int (σ.1 62)) (C := RX6) (T := TX6) (N := 13) hx hb hts inX6 hown hK hP 0 pgw_o0 rfl 1 (by decide) fl37 (fun _ h9 => h9) rfl dX6_sizeLatestRow_21 ?_
      refine lv_iconst (v := 1) hx hb dX6_sizeLatestRow_24 (by decide) ?_
      refine lv_isub hx hb dX6_sizeLatestRow_25 ?_
      refine lv_topi (fun i_3 ei_3 => ?_)
      have vi_3 : i_3.toInt = (σ.1 62).toInt - 1 := by have h9 := x_sub ei_3 (by omega) (by omega); omega
      refine lv_iload_n hx hb dX6_sizeLatestRow_26 rfl (lv_at hl 1 rfl) ?_
      refine va_iast hx hb hK hP hD hS 1 2 pgw_a1 rfl (x_in (by omega) (by omega)) dX6_sizeLatestRow_27 (fun H locs hP hD hS => ?_)
      obtain ⟨f_4, ef_4⟩ : ∃ z9 : Nat → Int32, z9 = (upd (σ.2.2.1 67) (Int32.toNatClampNeg i_3) q) := ⟨_, rfl⟩
      have hP : va_P D vwCl (pgw y ad (tI σ 67 f_4)) H := by rw [ef_4]; exact x_trP hP pgw_s1
      have hD : va_D A (pgw y ad (tI σ 67 f_4)) := by rw [ef_4]; exact x_trD hD pgw_s1
      exact x_vretW (u := f_4) hx hb hr hQ trivial hP hD hK hS dX6_sizeLatestRow_28 hlocks

def v_w_rowOf : List Cond := .code yX6_rowOf cX6_rowOf 1 (some .int) :: []
set_option maxHeartbeats 4000000 in
set_option maxRecDepth 100000 in
theorem w_rowOf (l : Launch) (D : va_G) (y : Nat → ClassId) (sz : Nat) (q : Int32) : Met l yX6_rowOf v_w_rowOf ({ frames := 0, cells := 0, slots := 0, locals := 0 } : Room) (va_Pc [.int q] (xPre D (xT y) [] sz)) (va_Qi (fun (r : Int32) (_ : Unit) => True) (fun (u : Unit) => xB D (xT y) (va_A [] sz) []) (va_A [] sz)) 0 0 (va_A [] sz) := by
  refine x_meti (cc := cX6_rowOf) (maxL := 1) (by decide) rfl (Nat.le_of_ble_eq_true rfl) ?_
  intro p e s m below meth c A H locs Q hx hb hml hown hts hr hlocks hmn hA hP hK hD hS ls hl hQ
  have hl : lv_has ls 1 [(0, .int q)] := hl
  refine lv_iload_n hx hb dX6_rowOf_0 rfl (lv_at hl 0 rfl) ?_
  refine lv_bipush (v := 20) hx hb dX6_rowOf_1 (by decide) ?_
  refine lv_isub hx hb dX6_rowOf_3 ?_
  refine lv_topi (fun i_1 ei_1 => ?_)
  refine lv_bipush (v := 16) hx hb dX6_rowOf_4 (by decide) ?_
  refine lv_idiv hx hb dX6_rowOf_6 (by decide) ?_
  refine lv_topi (fun i_2 ei_2 => ?_)
  exact x_iretW (v := i_2) (u := ()) hx hb hr hQ trivial (x_nilP D H) (x_nilD A) hK hS dX6_rowOf_7 hlocks

